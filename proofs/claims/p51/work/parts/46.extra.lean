-- ===== 46.extra: 8 texts =====
section
-- ===== contracts that the hand proofs alone want: behind the first 206 =====
def cCTx : List cC := cCT.take 206 ++ [cC302, cC303, cC304, cC305, cC306, cC307, cC308, cC309, cC310, cC311]
def cCMx : List (List Nat) := ((((cCM.map (fun l => l.filter (fun j => Nat.blt j 206))).set 282 [210]).set 285 [212]).set 291 [208]).set 211 [160]
theorem cx_302 : cchk cCTx cCMx 3000 206 = true := by decide +kernel
theorem cx_303 : cchk cCTx cCMx 3000 207 = true := by decide +kernel
theorem cx_304 : cchk cCTx cCMx 3000 208 = true := by decide +kernel
theorem cx_305 : cchk cCTx cCMx 3000 209 = true := by decide +kernel
theorem cx_306 : cchk cCTx cCMx 3000 210 = true := by decide +kernel
theorem cx_307 : cchk cCTx cCMx 3000 211 = true := by decide +kernel
theorem cx_308 : cchk cCTx cCMx 3000 212 = true := by decide +kernel
theorem cx_309 : cchk cCTx cCMx 3000 213 = true := by decide +kernel
theorem cx_310 : cchk cCTx cCMx 3000 214 = true := by decide +kernel
theorem cx_311 : cchk cCTx cCMx 3000 215 = true := by decide +kernel
end
section
-- ===== all contracts, one behind another =====
def hG (X : aX) (k : Nat) : Prop := ∀ j, j < k → ∀ C, cCT[j]? = some C → dGood X C
def cCMc : Bool := (List.range cCM.length).all (fun a => match cCM[a]? with
  | some js => js.all (fun j => match cCT[j]? with
    | some C => Nat.beq C.1 a
    | none => true)
  | none => true)
theorem cCMc_ok : cCMc = true := by decide +kernel
theorem cCM_ok : ∀ (a : Nat) (js : List Nat), cCM[a]? = some js → ∀ j, j ∈ js → ∀ C, cCT[j]? = some C → C.1 = a := by
  intro a js h j hj C hC
  have ha : a < cCM.length := (List.getElem?_eq_some_iff.mp h).1
  have h1 := List.all_eq_true.mp cCMc_ok a (List.mem_range.mpr ha)
  simp only [h] at h1
  have h2 := List.all_eq_true.mp h1 j hj
  simp only [hC] at h2
  exact Nat.eq_of_beq_eq_true h2
theorem gstep {X : aX} {k : Nat} (h : hG X k) (hk : ∀ C, cCT[k]? = some C → dGood X C) : hG X (k + 1) := by
  intro j hj C hC
  rcases Nat.lt_succ_iff_lt_or_eq.mp hj with q | rfl
  · exact h j q C hC
  · exact hk C hC
theorem gman {X : aX} {k : Nat} {C0 : cC} (h : hG X k) (e : cCT[k]? = some C0) (m : dGood X C0) : hG X (k + 1) := gstep h fun C hC => by
  cases e.symm.trans hC
  exact m
theorem gchk {X : aX} {k : Nat} (hX : X 0 = some (8, zab)) (h : hG X k) (c : cchk cCT cCM 3000 k = true) : hG X (k + 1) := gstep h (cchk_s hX cCM_ok h c)
theorem gd_20 {X : aX} (hX : X 0 = some (8, zab)) (g0 : hG X 0) : hG X 20 := by
  have g1 : hG X 1 := gchk hX g0 ct_0
  have g2 : hG X 2 := gchk hX g1 ct_1
  have g3 : hG X 3 := gchk hX g2 ct_2
  have g4 : hG X 4 := gchk hX g3 ct_3
  have g5 : hG X 5 := gchk hX g4 ct_4
  have g6 : hG X 6 := gchk hX g5 ct_5
  have g7 : hG X 7 := gchk hX g6 ct_6
  have g8 : hG X 8 := gchk hX g7 ct_7
  have g9 : hG X 9 := gchk hX g8 ct_8
  have g10 : hG X 10 := gchk hX g9 ct_9
  have g11 : hG X 11 := gchk hX g10 ct_10
  have g12 : hG X 12 := gchk hX g11 ct_11
  have g13 : hG X 13 := gchk hX g12 ct_12
  have g14 : hG X 14 := gchk hX g13 ct_13
  have g15 : hG X 15 := gchk hX g14 ct_14
  have g16 : hG X 16 := gchk hX g15 ct_15
  have g17 : hG X 17 := gchk hX g16 ct_16
  have g18 : hG X 18 := gchk hX g17 ct_17
  have g19 : hG X 19 := gchk hX g18 ct_18
  have g20 : hG X 20 := gchk hX g19 ct_19
  exact g20
theorem gd_40 {X : aX} (hX : X 0 = some (8, zab)) (g20 : hG X 20) : hG X 40 := by
  have g21 : hG X 21 := gchk hX g20 ct_20
  have g22 : hG X 22 := gchk hX g21 ct_21
  have g23 : hG X 23 := gchk hX g22 ct_22
  have g24 : hG X 24 := gchk hX g23 ct_23
  have g25 : hG X 25 := gchk hX g24 ct_24
  have g26 : hG X 26 := gchk hX g25 ct_25
  have g27 : hG X 27 := gchk hX g26 ct_26
  have g28 : hG X 28 := gchk hX g27 ct_27
  have g29 : hG X 29 := gchk hX g28 ct_28
  have g30 : hG X 30 := gchk hX g29 ct_29
  have g31 : hG X 31 := gchk hX g30 ct_30
  have g32 : hG X 32 := gchk hX g31 ct_31
  have g33 : hG X 33 := gchk hX g32 ct_32
  have g34 : hG X 34 := gchk hX g33 ct_33
  have g35 : hG X 35 := gchk hX g34 ct_34
  have g36 : hG X 36 := gchk hX g35 ct_35
  have g37 : hG X 37 := gchk hX g36 ct_36
  have g38 : hG X 38 := gchk hX g37 ct_37
  have g39 : hG X 39 := gchk hX g38 ct_38
  have g40 : hG X 40 := gchk hX g39 ct_39
  exact g40
theorem gd_60 {X : aX} (hX : X 0 = some (8, zab)) (g40 : hG X 40) : hG X 60 := by
  have g41 : hG X 41 := gchk hX g40 ct_40
  have g42 : hG X 42 := gchk hX g41 ct_41
  have g43 : hG X 43 := gchk hX g42 ct_42
  have g44 : hG X 44 := gchk hX g43 ct_43
  have g45 : hG X 45 := gchk hX g44 ct_44
  have g46 : hG X 46 := gchk hX g45 ct_45
  have g47 : hG X 47 := gchk hX g46 ct_46
  have g48 : hG X 48 := gchk hX g47 ct_47
  have g49 : hG X 49 := gchk hX g48 ct_48
  have g50 : hG X 50 := gchk hX g49 ct_49
  have g51 : hG X 51 := gchk hX g50 ct_50
  have g52 : hG X 52 := gchk hX g51 ct_51
  have g53 : hG X 53 := gchk hX g52 ct_52
  have g54 : hG X 54 := gchk hX g53 ct_53
  have g55 : hG X 55 := gchk hX g54 ct_54
  have g56 : hG X 56 := gchk hX g55 ct_55
  have g57 : hG X 57 := gchk hX g56 ct_56
  have g58 : hG X 58 := gchk hX g57 ct_57
  have g59 : hG X 59 := gchk hX g58 ct_58
  have g60 : hG X 60 := gchk hX g59 ct_59
  exact g60
theorem gd_80 {X : aX} (hX : X 0 = some (8, zab)) (m62 : hG X 62 → dGood X cC62) (g60 : hG X 60) : hG X 80 := by
  have g61 : hG X 61 := gchk hX g60 ct_60
  have g62 : hG X 62 := gchk hX g61 ct_61
  have g63 : hG X 63 := gman g62 (show cCT[62]? = some cC62 from rfl) (m62 g62)
  have g64 : hG X 64 := gchk hX g63 ct_63
  have g65 : hG X 65 := gchk hX g64 ct_64
  have g66 : hG X 66 := gchk hX g65 ct_65
  have g67 : hG X 67 := gchk hX g66 ct_66
  have g68 : hG X 68 := gchk hX g67 ct_67
  have g69 : hG X 69 := gchk hX g68 ct_68
  have g70 : hG X 70 := gchk hX g69 ct_69
  have g71 : hG X 71 := gchk hX g70 ct_70
  have g72 : hG X 72 := gchk hX g71 ct_71
  have g73 : hG X 73 := gchk hX g72 ct_72
  have g74 : hG X 74 := gchk hX g73 ct_73
  have g75 : hG X 75 := gchk hX g74 ct_74
  have g76 : hG X 76 := gchk hX g75 ct_75
  have g77 : hG X 77 := gchk hX g76 ct_76
  have g78 : hG X 78 := gchk hX g77 ct_77
  have g79 : hG X 79 := gchk hX g78 ct_78
  have g80 : hG X 80 := gchk hX g79 ct_79
  exact g80
theorem gd_100 {X : aX} (hX : X 0 = some (8, zab)) (m80 : hG X 80 → dGood X cC80) (g80 : hG X 80) : hG X 100 := by
  have g81 : hG X 81 := gman g80 (show cCT[80]? = some cC80 from rfl) (m80 g80)
  have g82 : hG X 82 := gchk hX g81 ct_81
  have g83 : hG X 83 := gchk hX g82 ct_82
  have g84 : hG X 84 := gchk hX g83 ct_83
  have g85 : hG X 85 := gchk hX g84 ct_84
  have g86 : hG X 86 := gchk hX g85 ct_85
  have g87 : hG X 87 := gchk hX g86 ct_86
  have g88 : hG X 88 := gchk hX g87 ct_87
  have g89 : hG X 89 := gchk hX g88 ct_88
  have g90 : hG X 90 := gchk hX g89 ct_89
  have g91 : hG X 91 := gchk hX g90 ct_90
  have g92 : hG X 92 := gchk hX g91 ct_91
  have g93 : hG X 93 := gchk hX g92 ct_92
  have g94 : hG X 94 := gchk hX g93 ct_93
  have g95 : hG X 95 := gchk hX g94 ct_94
  have g96 : hG X 96 := gchk hX g95 ct_95
  have g97 : hG X 97 := gchk hX g96 ct_96
  have g98 : hG X 98 := gchk hX g97 ct_97
  have g99 : hG X 99 := gchk hX g98 ct_98
  have g100 : hG X 100 := gchk hX g99 ct_99
  exact g100
theorem gd_120 {X : aX} (hX : X 0 = some (8, zab)) (g100 : hG X 100) : hG X 120 := by
  have g101 : hG X 101 := gchk hX g100 ct_100
  have g102 : hG X 102 := gchk hX g101 ct_101
  have g103 : hG X 103 := gchk hX g102 ct_102
  have g104 : hG X 104 := gchk hX g103 ct_103
  have g105 : hG X 105 := gchk hX g104 ct_104
  have g106 : hG X 106 := gchk hX g105 ct_105
  have g107 : hG X 107 := gchk hX g106 ct_106
  have g108 : hG X 108 := gchk hX g107 ct_107
  have g109 : hG X 109 := gchk hX g108 ct_108
  have g110 : hG X 110 := gchk hX g109 ct_109
  have g111 : hG X 111 := gchk hX g110 ct_110
  have g112 : hG X 112 := gchk hX g111 ct_111
  have g113 : hG X 113 := gchk hX g112 ct_112
  have g114 : hG X 114 := gchk hX g113 ct_113
  have g115 : hG X 115 := gchk hX g114 ct_114
  have g116 : hG X 116 := gchk hX g115 ct_115
  have g117 : hG X 117 := gchk hX g116 ct_116
  have g118 : hG X 118 := gchk hX g117 ct_117
  have g119 : hG X 119 := gchk hX g118 ct_118
  have g120 : hG X 120 := gchk hX g119 ct_119
  exact g120
theorem gd_140 {X : aX} (hX : X 0 = some (8, zab)) (g120 : hG X 120) : hG X 140 := by
  have g121 : hG X 121 := gchk hX g120 ct_120
  have g122 : hG X 122 := gchk hX g121 ct_121
  have g123 : hG X 123 := gchk hX g122 ct_122
  have g124 : hG X 124 := gchk hX g123 ct_123
  have g125 : hG X 125 := gchk hX g124 ct_124
  have g126 : hG X 126 := gchk hX g125 ct_125
  have g127 : hG X 127 := gchk hX g126 ct_126
  have g128 : hG X 128 := gchk hX g127 ct_127
  have g129 : hG X 129 := gchk hX g128 ct_128
  have g130 : hG X 130 := gchk hX g129 ct_129
  have g131 : hG X 131 := gchk hX g130 ct_130
  have g132 : hG X 132 := gchk hX g131 ct_131
  have g133 : hG X 133 := gchk hX g132 ct_132
  have g134 : hG X 134 := gchk hX g133 ct_133
  have g135 : hG X 135 := gchk hX g134 ct_134
  have g136 : hG X 136 := gchk hX g135 ct_135
  have g137 : hG X 137 := gchk hX g136 ct_136
  have g138 : hG X 138 := gchk hX g137 ct_137
  have g139 : hG X 139 := gchk hX g138 ct_138
  have g140 : hG X 140 := gchk hX g139 ct_139
  exact g140
theorem gd_160 {X : aX} (hX : X 0 = some (8, zab)) (m144 : hG X 144 → dGood X cC144) (g140 : hG X 140) : hG X 160 := by
  have g141 : hG X 141 := gchk hX g140 ct_140
  have g142 : hG X 142 := gchk hX g141 ct_141
  have g143 : hG X 143 := gchk hX g142 ct_142
  have g144 : hG X 144 := gchk hX g143 ct_143
  have g145 : hG X 145 := gman g144 (show cCT[144]? = some cC144 from rfl) (m144 g144)
  have g146 : hG X 146 := gchk hX g145 ct_145
  have g147 : hG X 147 := gchk hX g146 ct_146
  have g148 : hG X 148 := gchk hX g147 ct_147
  have g149 : hG X 149 := gchk hX g148 ct_148
  have g150 : hG X 150 := gchk hX g149 ct_149
  have g151 : hG X 151 := gchk hX g150 ct_150
  have g152 : hG X 152 := gchk hX g151 ct_151
  have g153 : hG X 153 := gchk hX g152 ct_152
  have g154 : hG X 154 := gchk hX g153 ct_153
  have g155 : hG X 155 := gchk hX g154 ct_154
  have g156 : hG X 156 := gchk hX g155 ct_155
  have g157 : hG X 157 := gchk hX g156 ct_156
  have g158 : hG X 158 := gchk hX g157 ct_157
  have g159 : hG X 159 := gchk hX g158 ct_158
  have g160 : hG X 160 := gchk hX g159 ct_159
  exact g160
theorem hand_176 {X : aX} : dGood X cC176 := by
  intro M hM l h σ ρ rh I K L
  obtain ⟨hl, -, h2⟩ := K.1
  have : ∃ y, ρ[1]? = some y := ⟨_, List.getElem?_eq_getElem (show 1 < ρ.length by rw [hl]; decide)⟩
  obtain ⟨y, hy⟩ := this
  have := h2 1 y (1, 0) hy rfl
  dsimp only at this
  omega
theorem hand_177 {X : aX} : dGood X cC177 := by
  intro M hM l h σ ρ rh I K L
  obtain ⟨hl, -, h2⟩ := K.1
  have : ∃ y, ρ[1]? = some y := ⟨_, List.getElem?_eq_getElem (show 1 < ρ.length by rw [hl]; decide)⟩
  obtain ⟨y, hy⟩ := this
  have := h2 1 y (1, 0) hy rfl
  dsimp only at this
  omega
theorem gd_180 {X : aX} (hX : X 0 = some (8, zab)) (g160 : hG X 160) : hG X 180 := by
  have g161 : hG X 161 := gchk hX g160 ct_160
  have g162 : hG X 162 := gchk hX g161 ct_161
  have g163 : hG X 163 := gchk hX g162 ct_162
  have g164 : hG X 164 := gchk hX g163 ct_163
  have g165 : hG X 165 := gchk hX g164 ct_164
  have g166 : hG X 166 := gchk hX g165 ct_165
  have g167 : hG X 167 := gchk hX g166 ct_166
  have g168 : hG X 168 := gchk hX g167 ct_167
  have g169 : hG X 169 := gchk hX g168 ct_168
  have g170 : hG X 170 := gchk hX g169 ct_169
  have g171 : hG X 171 := gchk hX g170 ct_170
  have g172 : hG X 172 := gchk hX g171 ct_171
  have g173 : hG X 173 := gchk hX g172 ct_172
  have g174 : hG X 174 := gchk hX g173 ct_173
  have g175 : hG X 175 := gchk hX g174 ct_174
  have g176 : hG X 176 := gchk hX g175 ct_175
  have g177 : hG X 177 := gman g176 (show cCT[176]? = some cC176 from rfl) hand_176
  have g178 : hG X 178 := gman g177 (show cCT[177]? = some cC177 from rfl) hand_177
  have g179 : hG X 179 := gchk hX g178 ct_178
  have g180 : hG X 180 := gchk hX g179 ct_179
  exact g180
theorem gd_200 {X : aX} (hX : X 0 = some (8, zab)) (m184 : hG X 184 → dGood X cC184) (m194 : hG X 194 → dGood X cC194) (g180 : hG X 180) : hG X 200 := by
  have g181 : hG X 181 := gchk hX g180 ct_180
  have g182 : hG X 182 := gchk hX g181 ct_181
  have g183 : hG X 183 := gchk hX g182 ct_182
  have g184 : hG X 184 := gchk hX g183 ct_183
  have g185 : hG X 185 := gman g184 (show cCT[184]? = some cC184 from rfl) (m184 g184)
  have g186 : hG X 186 := gchk hX g185 ct_185
  have g187 : hG X 187 := gchk hX g186 ct_186
  have g188 : hG X 188 := gchk hX g187 ct_187
  have g189 : hG X 189 := gchk hX g188 ct_188
  have g190 : hG X 190 := gchk hX g189 ct_189
  have g191 : hG X 191 := gchk hX g190 ct_190
  have g192 : hG X 192 := gchk hX g191 ct_191
  have g193 : hG X 193 := gchk hX g192 ct_192
  have g194 : hG X 194 := gchk hX g193 ct_193
  have g195 : hG X 195 := gman g194 (show cCT[194]? = some cC194 from rfl) (m194 g194)
  have g196 : hG X 196 := gchk hX g195 ct_195
  have g197 : hG X 197 := gchk hX g196 ct_196
  have g198 : hG X 198 := gchk hX g197 ct_197
  have g199 : hG X 199 := gchk hX g198 ct_198
  have g200 : hG X 200 := gchk hX g199 ct_199
  exact g200
theorem gd_220 {X : aX} (hX : X 0 = some (8, zab)) (m206 : hG X 206 → dGood X cC206) (m217 : hG X 217 → dGood X cC217) (g200 : hG X 200) : hG X 220 := by
  have g201 : hG X 201 := gchk hX g200 ct_200
  have g202 : hG X 202 := gchk hX g201 ct_201
  have g203 : hG X 203 := gchk hX g202 ct_202
  have g204 : hG X 204 := gchk hX g203 ct_203
  have g205 : hG X 205 := gchk hX g204 ct_204
  have g206 : hG X 206 := gchk hX g205 ct_205
  have g207 : hG X 207 := gman g206 (show cCT[206]? = some cC206 from rfl) (m206 g206)
  have g208 : hG X 208 := gchk hX g207 ct_207
  have g209 : hG X 209 := gchk hX g208 ct_208
  have g210 : hG X 210 := gchk hX g209 ct_209
  have g211 : hG X 211 := gchk hX g210 ct_210
  have g212 : hG X 212 := gchk hX g211 ct_211
  have g213 : hG X 213 := gchk hX g212 ct_212
  have g214 : hG X 214 := gchk hX g213 ct_213
  have g215 : hG X 215 := gchk hX g214 ct_214
  have g216 : hG X 216 := gchk hX g215 ct_215
  have g217 : hG X 217 := gchk hX g216 ct_216
  have g218 : hG X 218 := gman g217 (show cCT[217]? = some cC217 from rfl) (m217 g217)
  have g219 : hG X 219 := gchk hX g218 ct_218
  have g220 : hG X 220 := gchk hX g219 ct_219
  exact g220
theorem gd_240 {X : aX} (hX : X 0 = some (8, zab)) (g220 : hG X 220) : hG X 240 := by
  have g221 : hG X 221 := gchk hX g220 ct_220
  have g222 : hG X 222 := gchk hX g221 ct_221
  have g223 : hG X 223 := gchk hX g222 ct_222
  have g224 : hG X 224 := gchk hX g223 ct_223
  have g225 : hG X 225 := gchk hX g224 ct_224
  have g226 : hG X 226 := gchk hX g225 ct_225
  have g227 : hG X 227 := gchk hX g226 ct_226
  have g228 : hG X 228 := gchk hX g227 ct_227
  have g229 : hG X 229 := gchk hX g228 ct_228
  have g230 : hG X 230 := gchk hX g229 ct_229
  have g231 : hG X 231 := gchk hX g230 ct_230
  have g232 : hG X 232 := gchk hX g231 ct_231
  have g233 : hG X 233 := gchk hX g232 ct_232
  have g234 : hG X 234 := gchk hX g233 ct_233
  have g235 : hG X 235 := gchk hX g234 ct_234
  have g236 : hG X 236 := gchk hX g235 ct_235
  have g237 : hG X 237 := gchk hX g236 ct_236
  have g238 : hG X 238 := gchk hX g237 ct_237
  have g239 : hG X 239 := gchk hX g238 ct_238
  have g240 : hG X 240 := gchk hX g239 ct_239
  exact g240
theorem gd_260 {X : aX} (hX : X 0 = some (8, zab)) (g240 : hG X 240) : hG X 260 := by
  have g241 : hG X 241 := gchk hX g240 ct_240
  have g242 : hG X 242 := gchk hX g241 ct_241
  have g243 : hG X 243 := gchk hX g242 ct_242
  have g244 : hG X 244 := gchk hX g243 ct_243
  have g245 : hG X 245 := gchk hX g244 ct_244
  have g246 : hG X 246 := gchk hX g245 ct_245
  have g247 : hG X 247 := gchk hX g246 ct_246
  have g248 : hG X 248 := gchk hX g247 ct_247
  have g249 : hG X 249 := gchk hX g248 ct_248
  have g250 : hG X 250 := gchk hX g249 ct_249
  have g251 : hG X 251 := gchk hX g250 ct_250
  have g252 : hG X 252 := gchk hX g251 ct_251
  have g253 : hG X 253 := gchk hX g252 ct_252
  have g254 : hG X 254 := gchk hX g253 ct_253
  have g255 : hG X 255 := gchk hX g254 ct_254
  have g256 : hG X 256 := gchk hX g255 ct_255
  have g257 : hG X 257 := gchk hX g256 ct_256
  have g258 : hG X 258 := gchk hX g257 ct_257
  have g259 : hG X 259 := gchk hX g258 ct_258
  have g260 : hG X 260 := gchk hX g259 ct_259
  exact g260
theorem gd_280 {X : aX} (hX : X 0 = some (8, zab)) (m274 : hG X 274 → dGood X cC274) (g260 : hG X 260) : hG X 280 := by
  have g261 : hG X 261 := gchk hX g260 ct_260
  have g262 : hG X 262 := gchk hX g261 ct_261
  have g263 : hG X 263 := gchk hX g262 ct_262
  have g264 : hG X 264 := gchk hX g263 ct_263
  have g265 : hG X 265 := gchk hX g264 ct_264
  have g266 : hG X 266 := gchk hX g265 ct_265
  have g267 : hG X 267 := gchk hX g266 ct_266
  have g268 : hG X 268 := gchk hX g267 ct_267
  have g269 : hG X 269 := gchk hX g268 ct_268
  have g270 : hG X 270 := gchk hX g269 ct_269
  have g271 : hG X 271 := gchk hX g270 ct_270
  have g272 : hG X 272 := gchk hX g271 ct_271
  have g273 : hG X 273 := gchk hX g272 ct_272
  have g274 : hG X 274 := gchk hX g273 ct_273
  have g275 : hG X 275 := gman g274 (show cCT[274]? = some cC274 from rfl) (m274 g274)
  have g276 : hG X 276 := gchk hX g275 ct_275
  have g277 : hG X 277 := gchk hX g276 ct_276
  have g278 : hG X 278 := gchk hX g277 ct_277
  have g279 : hG X 279 := gchk hX g278 ct_278
  have g280 : hG X 280 := gchk hX g279 ct_279
  exact g280
theorem gd_300 {X : aX} (hX : X 0 = some (8, zab)) (m280 : hG X 280 → dGood X cC280) (m281 : hG X 281 → dGood X cC281) (m284 : hG X 284 → dGood X cC284) (m291 : hG X 291 → dGood X cC291) (m293 : hG X 293 → dGood X cC293) (g280 : hG X 280) : hG X 300 := by
  have g281 : hG X 281 := gman g280 (show cCT[280]? = some cC280 from rfl) (m280 g280)
  have g282 : hG X 282 := gman g281 (show cCT[281]? = some cC281 from rfl) (m281 g281)
  have g283 : hG X 283 := gchk hX g282 ct_282
  have g284 : hG X 284 := gchk hX g283 ct_283
  have g285 : hG X 285 := gman g284 (show cCT[284]? = some cC284 from rfl) (m284 g284)
  have g286 : hG X 286 := gchk hX g285 ct_285
  have g287 : hG X 287 := gchk hX g286 ct_286
  have g288 : hG X 288 := gchk hX g287 ct_287
  have g289 : hG X 289 := gchk hX g288 ct_288
  have g290 : hG X 290 := gchk hX g289 ct_289
  have g291 : hG X 291 := gchk hX g290 ct_290
  have g292 : hG X 292 := gman g291 (show cCT[291]? = some cC291 from rfl) (m291 g291)
  have g293 : hG X 293 := gchk hX g292 ct_292
  have g294 : hG X 294 := gman g293 (show cCT[293]? = some cC293 from rfl) (m293 g293)
  have g295 : hG X 295 := gchk hX g294 ct_294
  have g296 : hG X 296 := gchk hX g295 ct_295
  have g297 : hG X 297 := gchk hX g296 ct_296
  have g298 : hG X 298 := gchk hX g297 ct_297
  have g299 : hG X 299 := gchk hX g298 ct_298
  have g300 : hG X 300 := gchk hX g299 ct_299
  exact g300
theorem gd_302 {X : aX} (hX : X 0 = some (8, zab)) (g300 : hG X 300) : hG X 302 := by
  have g301 : hG X 301 := gchk hX g300 ct_300
  have g302 : hG X 302 := gchk hX g301 ct_301
  exact g302
end
section
-- ===== by hand: what a run comes to, backwards =====
def Wp (X : aX) (D : Nat) (M : aM) (Q : Option Value → aH → Prop) (pc : Nat) (l : aL) (st : List Value) (h : aH) : Prop := ∃ (N : Nat) (v : Option Value) (h' : aH), Q v h' ∧ ∀ n d, arun X (n + N) (d + D) M pc l st h = some (v, h')
section WP
variable {X : aX} {D : Nat} {M : aM} {Q : Option Value → aH → Prop} {pc pc' len a b : Nat} {l l' : aL} {st st' r : List Value} {h h' : aH}
theorem wp1 (hs : ∀ n d, arun X (n + 1) (d + D) M pc l st h = arun X n (d + D) M pc' l' st' h') (k : Wp X D M Q pc' l' st' h') : Wp X D M Q pc l st h := by
  obtain ⟨N, v, h2, a1, a2⟩ := k
  exact ⟨N + 1, v, h2, a1, fun n d => by rw [show n + (N + 1) = (n + N) + 1 by omega, hs]; exact a2 n d⟩
theorem wp_end {v : Option Value} (hs : ∀ n d, arun X (n + 1) (d + D) M pc l st h = some (v, h)) (hq : Q v h) : Wp X D M Q pc l st h := ⟨1, v, h, hq, hs⟩
theorem wp_call {Y : aM} {l1 : aL} {h1 : aH} {lv N : Nat} {v : Option Value} (hs : ∀ n d, arun X n d Y 0 l1 [] h = some (v, h1) → arun X (n + 1) (d + 1) M pc l st h = arun X n (d + 1) M pc' l' st' h1) (hd : lv + 1 ≤ D) (hr : ∀ n d, arun X (n + N) (d + lv) Y 0 l1 [] h = some (v, h1)) (k : Wp X D M Q pc' l' st' h1) : Wp X D M Q pc l st h := by
  obtain ⟨N2, v2, h2, a1, a2⟩ := k
  obtain ⟨δ, hδ⟩ : ∃ δ, D = (δ + lv) + 1 := ⟨D - lv - 1, by omega⟩
  refine ⟨N2 + N + 1, v2, h2, a1, fun n d => ?_⟩
  have q := a2 (n + N) d
  rw [hδ] at q ⊢
  rw [show n + (N2 + N + 1) = (n + N2 + N) + 1 by omega, show d + (δ + lv + 1) = (d + δ + lv) + 1 by omega]
  rw [show n + N + N2 = n + N2 + N by omega, show d + (δ + lv + 1) = (d + δ + lv) + 1 by omega] at q
  rw [hs _ _ (hr (n + N2) (d + δ))]
  exact q
theorem wp_icmp {c : Jvm.ClassFile.Cond} {off : Int} {x y : Int32} (hf : aF pc M.2.2.2.2.2.2.2 = some (pc, (.if_icmp c off), len, a, b)) (k1 : dBr c x.toInt y.toInt = true → Wp X D M Q a l r h) (k2 : dBr c x.toInt y.toInt = false → Wp X D M Q (pc + 3) l r h) : Wp X D M Q pc l (.int y :: .int x :: r) h := by
  cases e : dBr c x.toInt y.toInt with
  | true => exact wp1 (fun n d => by rw [r_cmp hf, e]; rfl) (k1 e)
  | false => exact wp1 (fun n d => by rw [r_cmp hf, e]; rfl) (k2 e)
theorem wp_if {c : Jvm.ClassFile.Cond} {off : Int} {x : Int32} (hf : aF pc M.2.2.2.2.2.2.2 = some (pc, (.ifCond c off), len, a, b)) (k1 : dBr c x.toInt 0 = true → Wp X D M Q a l r h) (k2 : dBr c x.toInt 0 = false → Wp X D M Q (pc + 3) l r h) : Wp X D M Q pc l (.int x :: r) h := by
  cases e : dBr c x.toInt 0 with
  | true => exact wp1 (fun n d => by rw [r_cond hf, e]; rfl) (k1 e)
  | false => exact wp1 (fun n d => by rw [r_cond hf, e]; rfl) (k2 e)
end WP
theorem wp_mono {X : aX} {D : Nat} {M : aM} {Q Q' : Option Value → aH → Prop} {pc : Nat} {l : aL} {st : List Value} {h : aH} (hm : ∀ v h, Q v h → Q' v h) (k : Wp X D M Q pc l st h) : Wp X D M Q' pc l st h := by
  obtain ⟨N, v, h2, a1, a2⟩ := k
  exact ⟨N, v, h2, hm _ _ a1, a2⟩
-- what a well-typed heap holds
theorem dI_o {σ : List Nat} {h : aH} (I : dI σ h) {r : Nat} {t : cRt} (hr : r < 146) (ht : cRT[r]? = some t) (h0 : t.1 = 0) : ∃ fs : List Value, h.1[r]? = some (.inr (t.2.1, fs)) ∧ fs.length = t.2.2.2.2.2.length ∧ ∀ (i : Nat) (ty : Nat × Int × Int), t.2.2.2.2.2[i]? = some ty → ∃ v, fs[i]? = some v ∧ dT σ ty v := by
  obtain ⟨c, d1, d2⟩ := dH_cell I.1 (I.1.2.2.2 r hr) ht
  obtain ⟨fs, rfl, f2, f3⟩ := dC_0 d2 h0
  exact ⟨fs, d1, f2, f3⟩
theorem dI_a {σ : List Nat} {h : aH} (I : dI σ h) {r : Nat} {t : cRt} (hr : r < 146) (ht : cRT[r]? = some t) (h0 : t.1 = 1) : ∃ g : Nat → Int32, h.1[r]? = some (.inl (t.2.1, t.2.2.1, .inl g)) ∧ ∀ j, j < t.2.2.1 → t.2.2.2.1 ≤ (g j).toInt ∧ (g j).toInt ≤ t.2.2.2.2.1 := by
  obtain ⟨c, d1, d2⟩ := dH_cell I.1 (I.1.2.2.2 r hr) ht
  obtain ⟨g, rfl, f2⟩ := dC_1 d2 h0
  exact ⟨g, d1, f2⟩
theorem dI_j {σ : List Nat} {h : aH} (I : dI σ h) {r : Nat} {t : cRt} (hr : r < 146) (ht : cRT[r]? = some t) (h0 : t.1 = 2) : ∃ g : Nat → Int64, h.1[r]? = some (.inl (1, t.2.2.1, .inr (.inl g))) ∧ ∀ j, j < t.2.2.1 → t.2.2.2.1 ≤ (g j).toInt ∧ (g j).toInt ≤ t.2.2.2.2.1 := by
  obtain ⟨c, d1, d2⟩ := dH_cell I.1 (I.1.2.2.2 r hr) ht
  obtain ⟨g, rfl, f2⟩ := dC_2 d2 h0
  exact ⟨g, d1, f2⟩
theorem dT_i {σ : List Nat} {ty : Nat × Int × Int} {v : Value} (h : dT σ ty v) (e : ty.1 = 0) : ∃ x : Int32, v = .int x ∧ ty.2.1 ≤ x.toInt ∧ x.toInt ≤ ty.2.2 := by
  unfold dT at h; rw [e] at h; exact h
theorem dT_r {σ : List Nat} {h : aH} (H : dH σ h) {ty : Nat × Int × Int} {v : Value} (k : dT σ ty v) (e : ty.1 = 1) (hr : ty.2.1.toNat < 146) : v = .ref ty.2.1.toNat := by
  unfold dT at k
  rw [e] at k
  obtain ⟨q, rfl, hq⟩ := k
  rw [H.2.2.1 q _ hq hr]
-- a contract's locals
theorem dL_i {ρ : List Int} {rh : List Nat} {L : List cW} {l : aL} (h : dL ρ rh L l) {i p : Nat} {o : Int} (e : L[i]? = some (1, p, o)) : ∃ (x : Int32) (y : Int), l[i]? = some (some (.int x)) ∧ ρ[p]? = some y ∧ x.toInt = y + o := by
  rcases h.2 i _ e with q | ⟨v, q1, x, y, rfl, q2, q3⟩
  · cases q
  · exact ⟨x, y, aG_get.mp q1, q2, q3⟩
theorem dL_r {ρ : List Int} {rh : List Nat} {L : List cW} {l : aL} (h : dL ρ rh L l) {i c : Nat} {o : Int} (e : L[i]? = some (3, c, o)) (hc : c < 146) : l[i]? = some (some (.ref c)) := by
  rcases h.2 i _ e with q | ⟨v, q1, q, rfl, q2⟩
  · cases q
  · rcases q2 with ⟨-, rfl⟩ | ⟨q2, -⟩
    · exact aG_get.mp q1
    · dsimp only at q2; omega
def hQ (C : cC) (σ : List Nat) (h : aH) (v : Option Value) (h' : aH) : Prop := ∃ σ' : List Nat, dI σ' h' ∧ dG C.2.2.1 σ h σ' h' ∧ ∃ P, P ∈ C.2.2.2.2.1 ∧ dPost P σ' h' v
theorem hEnd {X : aX} {C : cC} {M : aM} {pc : Nat} {l : aL} {sv : List Value} {σ : List Nat} {h : aH} (k : Wp X C.2.1 M (hQ C σ h) pc l sv h) : dEnd X C M pc l sv σ h := by
  obtain ⟨N, v, h', ⟨σ', a1, a2, a3⟩, r⟩ := k
  exact ⟨N, v, h', σ', r, a1, a2, a3⟩
theorem post_i {σ : List Nat} {h : aH} {x : Int32} {lo hi : Int} (H : dH σ h) (h1 : lo ≤ x.toInt) (h2 : x.toInt ≤ hi) : dPost ([], [(1, 1, 0)], ([(0, 0), (lo, hi)], [], [], [], [], [], [])) σ h (some (.int x)) := by
  refine ⟨[0, x.toInt], [], ⟨⟨rfl, rfl, fun p y q e1 e2 => ?_⟩, fun t ht => (by cases ht), fun t ht => (by cases ht), ⟨rfl, fun i r e => (by simp at e)⟩, fun t ht => (by cases ht), fun t ht => (by cases ht), fun t ht => (by cases ht)⟩, ⟨x, x.toInt, rfl, rfl, by show _ = _ + 0; omega⟩, trivial⟩
  match p, e1, e2 with
  | 0, e1, e2 => cases e1; cases e2; exact ⟨by decide, by decide⟩
  | 1, e1, e2 => cases e1; cases e2; exact ⟨h1, h2⟩
  | p + 2, e1, _ => simp at e1
-- the table's words, by the kernel
def tkO (r ci : Nat) : Bool := match cRT[r]? with
  | some t => Nat.beq t.1 0 && Nat.beq t.2.1 ci && Nat.blt r 146
  | none => false
def tkI (r k : Nat) (lo hi : Int) : Bool := match cRT[r]? with
  | some t => Nat.beq t.1 0 && Nat.blt r 146 && (match t.2.2.2.2.2[k]? with
    | some ty => Nat.beq ty.1 0 && ceI ty.2.1 lo && ceI ty.2.2 hi
    | none => false)
  | none => false
def tkR (r k q : Nat) : Bool := match cRT[r]? with
  | some t => Nat.beq t.1 0 && Nat.blt r 146 && (match t.2.2.2.2.2[k]? with
    | some ty => Nat.beq ty.1 1 && ceI ty.2.1 q && Nat.blt q 146
    | none => false)
  | none => false
def tkA (r a n : Nat) (lo hi : Int) : Bool := match cRT[r]? with
  | some t => Nat.beq t.1 1 && Nat.blt r 146 && Nat.beq t.2.1 a && Nat.beq t.2.2.1 n && ceI t.2.2.2.1 lo && ceI t.2.2.2.2.1 hi
  | none => false
def tkJ (r n : Nat) (lo hi : Int) : Bool := match cRT[r]? with
  | some t => Nat.beq t.1 2 && Nat.blt r 146 && Nat.beq t.2.2.1 n && ceI t.2.2.2.1 lo && ceI t.2.2.2.2.1 hi
  | none => false
theorem hI_o {σ : List Nat} {h : aH} (I : dI σ h) {r ci : Nat} (k : tkO r ci = true) : ∃ fs : List Value, h.1[r]? = some (.inr (ci, fs)) := by
  unfold tkO at k
  split at k
  · rename_i t e
    simp only [Bool.and_eq_true, Nat.blt_eq] at k
    obtain ⟨⟨k1, k2⟩, k3⟩ := k
    obtain ⟨fs, a, -, -⟩ := dI_o I k3 e (Nat.eq_of_beq_eq_true k1)
    rw [Nat.eq_of_beq_eq_true k2] at a
    exact ⟨fs, a⟩
  · cases k
theorem hI_i {σ : List Nat} {h : aH} (I : dI σ h) {r ci f : Nat} {lo hi : Int} {fs : List Value} (c : h.1[r]? = some (.inr (ci, fs))) (k : tkI r f lo hi = true) : ∃ x : Int32, fs[f]? = some (.int x) ∧ lo ≤ x.toInt ∧ x.toInt ≤ hi := by
  unfold tkI at k
  split at k
  · rename_i t e
    rw [Bool.and_eq_true, Bool.and_eq_true, Nat.blt_eq] at k
    obtain ⟨⟨k1, k2⟩, k3⟩ := k
    obtain ⟨fs', a, -, a3⟩ := dI_o I k2 e (Nat.eq_of_beq_eq_true k1)
    rw [c] at a
    cases a
    split at k3
    · rename_i ty ety
      simp only [Bool.and_eq_true, ceI_i] at k3
      obtain ⟨v, b1, b2⟩ := a3 _ _ ety
      obtain ⟨x, rfl, b3, b4⟩ := dT_i b2 (Nat.eq_of_beq_eq_true k3.1.1)
      exact ⟨x, b1, by omega, by omega⟩
    · cases k3
  · cases k
theorem hI_r {σ : List Nat} {h : aH} (I : dI σ h) {r ci f q : Nat} {fs : List Value} (c : h.1[r]? = some (.inr (ci, fs))) (k : tkR r f q = true) : fs[f]? = some (.ref q) := by
  unfold tkR at k
  split at k
  · rename_i t e
    rw [Bool.and_eq_true, Bool.and_eq_true, Nat.blt_eq] at k
    obtain ⟨⟨k1, k2⟩, k3⟩ := k
    obtain ⟨fs', a, -, a3⟩ := dI_o I k2 e (Nat.eq_of_beq_eq_true k1)
    rw [c] at a
    cases a
    split at k3
    · rename_i ty ety
      simp only [Bool.and_eq_true, ceI_i, Nat.blt_eq] at k3
      obtain ⟨⟨k4, k5⟩, k6⟩ := k3
      obtain ⟨v, b1, b2⟩ := a3 _ _ ety
      have hq : ty.2.1.toNat = q := by omega
      have := dT_r I.1 b2 (Nat.eq_of_beq_eq_true k4) (by omega)
      rw [b1, this, hq]
    · cases k3
  · cases k
theorem hI_a {σ : List Nat} {h : aH} (I : dI σ h) {r a n : Nat} {lo hi : Int} (k : tkA r a n lo hi = true) : ∃ g : Nat → Int32, h.1[r]? = some (.inl (a, n, .inl g)) ∧ ∀ j, j < n → lo ≤ (g j).toInt ∧ (g j).toInt ≤ hi := by
  unfold tkA at k
  split at k
  · rename_i t e
    simp only [Bool.and_eq_true, Nat.blt_eq, ceI_i] at k
    obtain ⟨⟨⟨⟨⟨k1, k2⟩, k3⟩, k4⟩, k5⟩, k6⟩ := k
    obtain ⟨g, a1, a2⟩ := dI_a I k2 e (Nat.eq_of_beq_eq_true k1)
    rw [Nat.eq_of_beq_eq_true k3, Nat.eq_of_beq_eq_true k4] at a1
    rw [Nat.eq_of_beq_eq_true k4, k5, k6] at a2
    exact ⟨g, a1, a2⟩
  · cases k
theorem hI_j {σ : List Nat} {h : aH} (I : dI σ h) {r n : Nat} {lo hi : Int} (k : tkJ r n lo hi = true) : ∃ g : Nat → Int64, h.1[r]? = some (.inl (1, n, .inr (.inl g))) ∧ ∀ j, j < n → lo ≤ (g j).toInt ∧ (g j).toInt ≤ hi := by
  unfold tkJ at k
  split at k
  · rename_i t e
    simp only [Bool.and_eq_true, Nat.blt_eq, ceI_i] at k
    obtain ⟨⟨⟨⟨k1, k2⟩, k4⟩, k5⟩, k6⟩ := k
    obtain ⟨g, a1, a2⟩ := dI_j I k2 e (Nat.eq_of_beq_eq_true k1)
    rw [Nat.eq_of_beq_eq_true k4] at a1
    rw [Nat.eq_of_beq_eq_true k4, k5, k6] at a2
    exact ⟨g, a1, a2⟩
  · cases k
end
section
-- ===== by hand: an instruction a row, backwards; ints by their numbers (by program) =====
theorem ix_ok {j : Int32} {n : Nat} (h1 : 0 ≤ j.toInt) (h2 : j.toInt < (n : Int)) : ¬ (j < 0 ∨ n ≤ j.toNatClampNeg) := by
  rw [Int32.lt_iff_toInt_lt, i_zero, ← Int32.toNat_toInt]
  omega
section WI
variable {X : aX} {D : Nat} {M : aM} {Q : Option Value → aH → Prop} {pc len a b : Nat} {l : aL} {r : List Value} {h : aH}
theorem w_iconst {z : Int} (hf : aF pc M.2.2.2.2.2.2.2 = some (pc, (.iconst z), len, a, b)) (k : ∀ x : Int32, x.toInt = z → Wp X D M Q (pc + 1) l (.int x :: r) h) (h1 : (-128 : Int) ≤ z := by decide) (h2 : z ≤ 127 := by decide) : Wp X D M Q pc l r h := wp1 (fun n d => r_iconst hf rfl) (k _ (toInt_ic h1 h2))
theorem w_bipush {z : Int} (hf : aF pc M.2.2.2.2.2.2.2 = some (pc, (.bipush z), len, a, b)) (k : ∀ x : Int32, x.toInt = z → Wp X D M Q (pc + 2) l (.int x :: r) h) (h1 : (-128 : Int) ≤ z := by decide) (h2 : z ≤ 127 := by decide) : Wp X D M Q pc l r h := wp1 (fun n d => r_bipush hf rfl) (k _ (toInt_b h1 h2))
theorem w_sipush {z : Int} (hf : aF pc M.2.2.2.2.2.2.2 = some (pc, (.sipush z), len, a, b)) (k : ∀ x : Int32, x.toInt = z → Wp X D M Q (pc + 3) l (.int x :: r) h) (h1 : (-32768 : Int) ≤ z := by decide) (h2 : z ≤ 32767 := by decide) : Wp X D M Q pc l r h := wp1 (fun n d => r_sipush hf rfl) (k _ (toInt_s h1 h2))
theorem w_ldc_w {z : Nat} (hf : aF pc M.2.2.2.2.2.2.2 = some (pc, (.ldc_w z), len, a, b)) (k : ∀ x : Int32, x.toInt = c31 a → Wp X D M Q (pc + 3) l (.int x :: r) h) (h2 : a < 4294967296 := by decide) : Wp X D M Q pc l r h := wp1 (fun n d => r_ldcw hf rfl) (k _ (iz_of _ h2))
theorem w_ldc2 {z : Nat} (hf : aF pc M.2.2.2.2.2.2.2 = some (pc, (.ldc2_w z), len, a, b)) (k : ∀ x : Int64, x.toInt = c63 a → Wp X D M Q (pc + 3) l (.long x :: r) h) (h2 : a < 18446744073709551616 := by decide) : Wp X D M Q pc l r h := wp1 (fun n d => r_ldc2 hf rfl) (k _ (jz_of _ h2))
theorem w_lconst {z : Fin 2} (hf : aF pc M.2.2.2.2.2.2.2 = some (pc, (.lconst z), len, a, b)) (k : ∀ x : Int64, x.toInt = ((z : Nat) : Int) → Wp X D M Q (pc + 1) l (.long x :: r) h) : Wp X D M Q pc l r h := wp1 (fun n d => r_lconst hf rfl) (k _ (by match z with
  | 0 => rfl
  | 1 => rfl))
theorem w_iadd {x y : Int32} (hf : aF pc M.2.2.2.2.2.2.2 = some (pc, .iadd, len, a, b)) (h1 : (-2147483648 : Int) ≤ x.toInt + y.toInt) (h2 : x.toInt + y.toInt ≤ 2147483647) (k : ∀ z : Int32, z.toInt = x.toInt + y.toInt → Wp X D M Q (pc + 1) l (.int z :: r) h) : Wp X D M Q pc l (.int y :: .int x :: r) h := wp1 (fun n d => r_iadd hf rfl) (k _ (by rw [Int32.toInt_add, bm32 h1 h2]))
theorem w_iadd' {x y : Int32} (hf : aF pc M.2.2.2.2.2.2.2 = some (pc, .iadd, len, a, b)) (k : ∀ z : Int32, Wp X D M Q (pc + 1) l (.int z :: r) h) : Wp X D M Q pc l (.int y :: .int x :: r) h := wp1 (fun n d => r_iadd hf rfl) (k _)
theorem w_isub {x y : Int32} (hf : aF pc M.2.2.2.2.2.2.2 = some (pc, .isub, len, a, b)) (h1 : (-2147483648 : Int) ≤ x.toInt - y.toInt) (h2 : x.toInt - y.toInt ≤ 2147483647) (k : ∀ z : Int32, z.toInt = x.toInt - y.toInt → Wp X D M Q (pc + 1) l (.int z :: r) h) : Wp X D M Q pc l (.int y :: .int x :: r) h := wp1 (fun n d => r_isub hf rfl) (k _ (by rw [Int32.toInt_sub, bm32 h1 h2]))
theorem w_isub' {x y : Int32} (hf : aF pc M.2.2.2.2.2.2.2 = some (pc, .isub, len, a, b)) (k : ∀ z : Int32, Wp X D M Q (pc + 1) l (.int z :: r) h) : Wp X D M Q pc l (.int y :: .int x :: r) h := wp1 (fun n d => r_isub hf rfl) (k _)
theorem w_imul {x y : Int32} (hf : aF pc M.2.2.2.2.2.2.2 = some (pc, .imul, len, a, b)) (h1 : (-2147483648 : Int) ≤ x.toInt * y.toInt) (h2 : x.toInt * y.toInt ≤ 2147483647) (k : ∀ z : Int32, z.toInt = x.toInt * y.toInt → Wp X D M Q (pc + 1) l (.int z :: r) h) : Wp X D M Q pc l (.int y :: .int x :: r) h := wp1 (fun n d => r_imul hf rfl) (k _ (by rw [Int32.toInt_mul, bm32 h1 h2]))
theorem w_imul' {x y : Int32} (hf : aF pc M.2.2.2.2.2.2.2 = some (pc, .imul, len, a, b)) (k : ∀ z : Int32, Wp X D M Q (pc + 1) l (.int z :: r) h) : Wp X D M Q pc l (.int y :: .int x :: r) h := wp1 (fun n d => r_imul hf rfl) (k _)
theorem w_ladd {x y : Int64} (hf : aF pc M.2.2.2.2.2.2.2 = some (pc, .ladd, len, a, b)) (h1 : (-9223372036854775808 : Int) ≤ x.toInt + y.toInt) (h2 : x.toInt + y.toInt ≤ 9223372036854775807) (k : ∀ z : Int64, z.toInt = x.toInt + y.toInt → Wp X D M Q (pc + 1) l (.long z :: r) h) : Wp X D M Q pc l (.long y :: .long x :: r) h := wp1 (fun n d => r_ladd hf rfl) (k _ (by rw [Int64.toInt_add, bm64 h1 h2]))
theorem w_ladd' {x y : Int64} (hf : aF pc M.2.2.2.2.2.2.2 = some (pc, .ladd, len, a, b)) (k : ∀ z : Int64, Wp X D M Q (pc + 1) l (.long z :: r) h) : Wp X D M Q pc l (.long y :: .long x :: r) h := wp1 (fun n d => r_ladd hf rfl) (k _)
theorem w_lsub {x y : Int64} (hf : aF pc M.2.2.2.2.2.2.2 = some (pc, .lsub, len, a, b)) (h1 : (-9223372036854775808 : Int) ≤ x.toInt - y.toInt) (h2 : x.toInt - y.toInt ≤ 9223372036854775807) (k : ∀ z : Int64, z.toInt = x.toInt - y.toInt → Wp X D M Q (pc + 1) l (.long z :: r) h) : Wp X D M Q pc l (.long y :: .long x :: r) h := wp1 (fun n d => r_lsub hf rfl) (k _ (by rw [Int64.toInt_sub, bm64 h1 h2]))
theorem w_lmul {x y : Int64} (hf : aF pc M.2.2.2.2.2.2.2 = some (pc, .lmul, len, a, b)) (h1 : (-9223372036854775808 : Int) ≤ x.toInt * y.toInt) (h2 : x.toInt * y.toInt ≤ 9223372036854775807) (k : ∀ z : Int64, z.toInt = x.toInt * y.toInt → Wp X D M Q (pc + 1) l (.long z :: r) h) : Wp X D M Q pc l (.long y :: .long x :: r) h := wp1 (fun n d => r_lmul hf rfl) (k _ (by rw [Int64.toInt_mul, bm64 h1 h2]))
theorem w_lmul' {x y : Int64} (hf : aF pc M.2.2.2.2.2.2.2 = some (pc, .lmul, len, a, b)) (k : ∀ z : Int64, Wp X D M Q (pc + 1) l (.long z :: r) h) : Wp X D M Q pc l (.long y :: .long x :: r) h := wp1 (fun n d => r_lmul hf rfl) (k _)
theorem w_iand {x y : Int32} (hf : aF pc M.2.2.2.2.2.2.2 = some (pc, .iand, len, a, b)) (h1 : 0 ≤ y.toInt) (k : ∀ z : Int32, 0 ≤ z.toInt → z.toInt ≤ y.toInt → (0 ≤ x.toInt → z.toInt ≤ x.toInt) → Wp X D M Q (pc + 1) l (.int z :: r) h) : Wp X D M Q pc l (.int y :: .int x :: r) h := wp1 (fun n d => r_iand hf rfl) (k _ (i_and h1).1 (i_and h1).2 (fun h2 => (i_and' h2).2))
theorem w_iushr {x y : Int32} (hf : aF pc M.2.2.2.2.2.2.2 = some (pc, .iushr, len, a, b)) (h1 : 1 ≤ y.toInt) (h2 : y.toInt ≤ 31) (k : ∀ z : Int32, 0 ≤ z.toInt → Wp X D M Q (pc + 1) l (.int z :: r) h) : Wp X D M Q pc l (.int y :: .int x :: r) h := wp1 (fun n d => r_iushr hf rfl) (k _ (i_ushr h1 h2))
theorem w_idiv {x y : Int32} (hf : aF pc M.2.2.2.2.2.2.2 = some (pc, .idiv, len, a, b)) (h0 : 0 ≤ x.toInt) (h1 : 1 ≤ y.toInt) (k : ∀ z : Int32, z.toInt = x.toInt / y.toInt → 0 ≤ z.toInt → z.toInt ≤ x.toInt → Wp X D M Q (pc + 1) l (.int z :: r) h) : Wp X D M Q pc l (.int y :: .int x :: r) h := by
  have t := (tdiv_b (x := x.toInt) (y := y.toInt) h1).1 h0
  have g := iR x
  have e : (x / y).toInt = x.toInt / y.toInt := by rw [i_div (by omega) (by omega), Int.tdiv_eq_ediv_of_nonneg h0]
  rw [Int.tdiv_eq_ediv_of_nonneg h0] at t
  exact wp1 (fun n d => r_idiv hf (fun q => by rw [q] at h1; exact absurd h1 (by decide)) rfl) (k _ e (by omega) (by omega))
theorem w_irem {x y : Int32} (hf : aF pc M.2.2.2.2.2.2.2 = some (pc, .irem, len, a, b)) (h0 : 0 ≤ x.toInt) (h1 : 1 ≤ y.toInt) (k : ∀ z : Int32, z.toInt = x.toInt % y.toInt → 0 ≤ z.toInt → z.toInt < y.toInt → Wp X D M Q (pc + 1) l (.int z :: r) h) : Wp X D M Q pc l (.int y :: .int x :: r) h := by
  have e : (x - x / y * y).toInt = x.toInt % y.toInt := by rw [i_rem (by omega), Int.tmod_eq_emod_of_nonneg h0]
  exact wp1 (fun n d => r_irem hf (fun q => by rw [q] at h1; exact absurd h1 (by decide)) rfl) (k _ e (by rw [e]; exact Int.emod_nonneg _ (by omega)) (by rw [e]; exact Int.emod_lt_of_pos _ (by omega)))
theorem w_idiv' {x y : Int32} (hf : aF pc M.2.2.2.2.2.2.2 = some (pc, .idiv, len, a, b)) (h1 : y.toInt ≠ 0) (k : ∀ z : Int32, Wp X D M Q (pc + 1) l (.int z :: r) h) : Wp X D M Q pc l (.int y :: .int x :: r) h := wp1 (fun n d => r_idiv hf (fun q => h1 (by rw [q]; rfl)) rfl) (k _)
theorem w_ineg' {x : Int32} (hf : aF pc M.2.2.2.2.2.2.2 = some (pc, .ineg, len, a, b)) (k : ∀ z : Int32, Wp X D M Q (pc + 1) l (.int z :: r) h) : Wp X D M Q pc l (.int x :: r) h := wp1 (fun n d => r_ineg hf rfl) (k _)
theorem w_i2l {x : Int32} (hf : aF pc M.2.2.2.2.2.2.2 = some (pc, .i2l, len, a, b)) (k : ∀ z : Int64, z.toInt = x.toInt → Wp X D M Q (pc + 1) l (.long z :: r) h) : Wp X D M Q pc l (.int x :: r) h := wp1 (fun n d => r_i2l hf rfl) (k _ (Int32.toInt_toInt64 x))
theorem w_iinc {z : Nat} {c : Int} {x : Int32} (hf : aF pc M.2.2.2.2.2.2.2 = some (pc, (.iinc z c), len, a, b)) (hg : aG l z = some (.int x)) (h1 : -2147483648 ≤ x.toInt + c) (h2 : x.toInt + c ≤ 2147483647) (k : ∀ (v : Int32), v.toInt = x.toInt + c → Wp X D M Q (pc + 3) (aS1 l z (.int v)) r h) (h3 : -32768 ≤ c := by decide) (h4 : c ≤ 32767 := by decide) : Wp X D M Q pc l r h := wp1 (fun n d => r_iinc hf hg rfl rfl) (k _ (by rw [Int32.toInt_add, toInt_c h3 h4, bm32 h1 h2]))
theorem w_get {ix c : Nat} {fs : List Value} {v : Value} (hf : aF pc M.2.2.2.2.2.2.2 = some (pc, (.getfield ix), len, a, b)) (ho : h.1[c]? = some (.inr (a, fs))) (hv : fs[b]? = some v) (k : Wp X D M Q (pc + 3) l (v :: r) h) : Wp X D M Q pc l (.ref c :: r) h := wp1 (fun n d => r_get hf ho hv) k
theorem w_iald {o k : Nat} {j : Int32} {f : Nat → Int32} (hf : aF pc M.2.2.2.2.2.2.2 = some (pc, .iaload, len, a, b)) (ho : h.1[o]? = some (.inl (0, k, .inl f))) (h1 : 0 ≤ j.toInt) (h2 : j.toInt < (k : Int)) (kk : ∀ v : Int32, v = f j.toInt.toNat → Wp X D M Q (pc + 1) l (.int v :: r) h) : Wp X D M Q pc l (.int j :: .ref o :: r) h := wp1 (fun n d => r_iald hf ho (ix_ok h1 h2) rfl) (kk _ rfl)
theorem w_zald {o k : Nat} {j : Int32} {f : Nat → Int32} (hf : aF pc M.2.2.2.2.2.2.2 = some (pc, .baload, len, a, b)) (ho : h.1[o]? = some (.inl (2, k, .inl f))) (h1 : 0 ≤ j.toInt) (h2 : j.toInt < (k : Int)) (kk : ∀ v : Int32, v = f j.toInt.toNat → Wp X D M Q (pc + 1) l (.int v :: r) h) : Wp X D M Q pc l (.int j :: .ref o :: r) h := wp1 (fun n d => r_zald hf ho (ix_ok h1 h2) rfl) (kk _ rfl)
theorem w_bald {o k : Nat} {j : Int32} {f : Nat → Int32} (hf : aF pc M.2.2.2.2.2.2.2 = some (pc, .baload, len, a, b)) (ho : h.1[o]? = some (.inl (3, k, .inl f))) (h1 : 0 ≤ j.toInt) (h2 : j.toInt < (k : Int)) (kk : ∀ v : Int32, v = f j.toInt.toNat → Wp X D M Q (pc + 1) l (.int v :: r) h) : Wp X D M Q pc l (.int j :: .ref o :: r) h := wp1 (fun n d => r_bald hf ho (ix_ok h1 h2) rfl) (kk _ rfl)
theorem w_lald {o k : Nat} {j : Int32} {f : Nat → Int64} (hf : aF pc M.2.2.2.2.2.2.2 = some (pc, .laload, len, a, b)) (ho : h.1[o]? = some (.inl (1, k, .inr (.inl f)))) (h1 : 0 ≤ j.toInt) (h2 : j.toInt < (k : Int)) (kk : ∀ v : Int64, v = f j.toInt.toNat → Wp X D M Q (pc + 1) l (.long v :: r) h) : Wp X D M Q pc l (.int j :: .ref o :: r) h := wp1 (fun n d => r_lald hf ho (ix_ok h1 h2) rfl) (kk _ rfl)
theorem w_iast {o k : Nat} {j x : Int32} {f : Nat → Int32} (hf : aF pc M.2.2.2.2.2.2.2 = some (pc, .iastore, len, a, b)) (ho : h.1[o]? = some (.inl (0, k, .inl f))) (h1 : 0 ≤ j.toInt) (h2 : j.toInt < (k : Int)) (kk : Wp X D M Q (pc + 1) l r (h.1.set o (.inl (0, k, .inl (upd f j.toInt.toNat x))), h.2)) : Wp X D M Q pc l (.int x :: .int j :: .ref o :: r) h := wp1 (fun n d => r_iast hf ho (ix_ok h1 h2) rfl) kk
theorem w_zast {o k : Nat} {j x : Int32} {f : Nat → Int32} (hf : aF pc M.2.2.2.2.2.2.2 = some (pc, .bastore, len, a, b)) (ho : h.1[o]? = some (.inl (2, k, .inl f))) (h1 : 0 ≤ j.toInt) (h2 : j.toInt < (k : Int)) (kk : Wp X D M Q (pc + 1) l r (h.1.set o (.inl (2, k, .inl (upd f j.toInt.toNat (x &&& 1)))), h.2)) : Wp X D M Q pc l (.int x :: .int j :: .ref o :: r) h := wp1 (fun n d => r_zast hf ho (ix_ok h1 h2) rfl) kk
theorem w_last {o k : Nat} {j : Int32} {x : Int64} {f : Nat → Int64} (hf : aF pc M.2.2.2.2.2.2.2 = some (pc, .lastore, len, a, b)) (ho : h.1[o]? = some (.inl (1, k, .inr (.inl f)))) (h1 : 0 ≤ j.toInt) (h2 : j.toInt < (k : Int)) (kk : Wp X D M Q (pc + 1) l r (h.1.set o (.inl (1, k, .inr (.inl (vp_updL f j.toInt.toNat x)))), h.2)) : Wp X D M Q pc l (.long x :: .int j :: .ref o :: r) h := wp1 (fun n d => r_last hf ho (ix_ok h1 h2) rfl) kk
theorem w_icmp_eq {off : Int} {x y : Int32} (hf : aF pc M.2.2.2.2.2.2.2 = some (pc, (.if_icmp .eq off), len, a, b)) (k1 : x.toInt = y.toInt → Wp X D M Q a l r h) (k2 : x.toInt ≠ y.toInt → Wp X D M Q (pc + 3) l r h) : Wp X D M Q pc l (.int y :: .int x :: r) h := wp_icmp hf (fun e => k1 (dBr_t (c := .eq) e)) (fun e => k2 (dBr_f (c := .eq) e))
theorem w_if_eq {off : Int} {x : Int32} (hf : aF pc M.2.2.2.2.2.2.2 = some (pc, (.ifCond .eq off), len, a, b)) (k1 : x.toInt = 0 → Wp X D M Q a l r h) (k2 : x.toInt ≠ 0 → Wp X D M Q (pc + 3) l r h) : Wp X D M Q pc l (.int x :: r) h := wp_if hf (fun e => k1 (dBr_t (c := .eq) e)) (fun e => k2 (dBr_f (c := .eq) e))
theorem w_lcmp_eq {off : Int} {len2 a2 b2 : Nat} {x y : Int64} (hf : aF pc M.2.2.2.2.2.2.2 = some (pc, .lcmp, len, a, b)) (hg : aF (pc + 1) M.2.2.2.2.2.2.2 = some (pc + 1, (.ifCond .eq off), len2, a2, b2)) (k1 : x.toInt = y.toInt → Wp X D M Q a2 l r h) (k2 : x.toInt ≠ y.toInt → Wp X D M Q (pc + 1 + 3) l r h) : Wp X D M Q pc l (.long y :: .long x :: r) h := wp1 (fun n d => r_lcmp hf rfl) (wp_if hg (fun e => k1 (dBr_t (c := .eq) (by rw [← dBr_lcmp]; exact e))) (fun e => k2 (dBr_f (c := .eq) (by rw [← dBr_lcmp]; exact e))))
theorem w_icmp_ne {off : Int} {x y : Int32} (hf : aF pc M.2.2.2.2.2.2.2 = some (pc, (.if_icmp .ne off), len, a, b)) (k1 : x.toInt ≠ y.toInt → Wp X D M Q a l r h) (k2 : x.toInt = y.toInt → Wp X D M Q (pc + 3) l r h) : Wp X D M Q pc l (.int y :: .int x :: r) h := wp_icmp hf (fun e => k1 (dBr_t (c := .ne) e)) (fun e => k2 (dBr_f (c := .ne) e))
theorem w_if_ne {off : Int} {x : Int32} (hf : aF pc M.2.2.2.2.2.2.2 = some (pc, (.ifCond .ne off), len, a, b)) (k1 : x.toInt ≠ 0 → Wp X D M Q a l r h) (k2 : x.toInt = 0 → Wp X D M Q (pc + 3) l r h) : Wp X D M Q pc l (.int x :: r) h := wp_if hf (fun e => k1 (dBr_t (c := .ne) e)) (fun e => k2 (dBr_f (c := .ne) e))
theorem w_icmp_lt {off : Int} {x y : Int32} (hf : aF pc M.2.2.2.2.2.2.2 = some (pc, (.if_icmp .lt off), len, a, b)) (k1 : x.toInt < y.toInt → Wp X D M Q a l r h) (k2 : y.toInt ≤ x.toInt → Wp X D M Q (pc + 3) l r h) : Wp X D M Q pc l (.int y :: .int x :: r) h := wp_icmp hf (fun e => k1 (dBr_t (c := .lt) e)) (fun e => k2 (dBr_f (c := .lt) e))
theorem w_if_lt {off : Int} {x : Int32} (hf : aF pc M.2.2.2.2.2.2.2 = some (pc, (.ifCond .lt off), len, a, b)) (k1 : x.toInt < 0 → Wp X D M Q a l r h) (k2 : 0 ≤ x.toInt → Wp X D M Q (pc + 3) l r h) : Wp X D M Q pc l (.int x :: r) h := wp_if hf (fun e => k1 (dBr_t (c := .lt) e)) (fun e => k2 (dBr_f (c := .lt) e))
theorem w_icmp_ge {off : Int} {x y : Int32} (hf : aF pc M.2.2.2.2.2.2.2 = some (pc, (.if_icmp .ge off), len, a, b)) (k1 : y.toInt ≤ x.toInt → Wp X D M Q a l r h) (k2 : x.toInt < y.toInt → Wp X D M Q (pc + 3) l r h) : Wp X D M Q pc l (.int y :: .int x :: r) h := wp_icmp hf (fun e => k1 (dBr_t (c := .ge) e)) (fun e => k2 (dBr_f (c := .ge) e))
theorem w_if_ge {off : Int} {x : Int32} (hf : aF pc M.2.2.2.2.2.2.2 = some (pc, (.ifCond .ge off), len, a, b)) (k1 : 0 ≤ x.toInt → Wp X D M Q a l r h) (k2 : x.toInt < 0 → Wp X D M Q (pc + 3) l r h) : Wp X D M Q pc l (.int x :: r) h := wp_if hf (fun e => k1 (dBr_t (c := .ge) e)) (fun e => k2 (dBr_f (c := .ge) e))
theorem w_icmp_gt {off : Int} {x y : Int32} (hf : aF pc M.2.2.2.2.2.2.2 = some (pc, (.if_icmp .gt off), len, a, b)) (k1 : y.toInt < x.toInt → Wp X D M Q a l r h) (k2 : x.toInt ≤ y.toInt → Wp X D M Q (pc + 3) l r h) : Wp X D M Q pc l (.int y :: .int x :: r) h := wp_icmp hf (fun e => k1 (dBr_t (c := .gt) e)) (fun e => k2 (dBr_f (c := .gt) e))
theorem w_lcmp_gt {off : Int} {len2 a2 b2 : Nat} {x y : Int64} (hf : aF pc M.2.2.2.2.2.2.2 = some (pc, .lcmp, len, a, b)) (hg : aF (pc + 1) M.2.2.2.2.2.2.2 = some (pc + 1, (.ifCond .gt off), len2, a2, b2)) (k1 : y.toInt < x.toInt → Wp X D M Q a2 l r h) (k2 : x.toInt ≤ y.toInt → Wp X D M Q (pc + 1 + 3) l r h) : Wp X D M Q pc l (.long y :: .long x :: r) h := wp1 (fun n d => r_lcmp hf rfl) (wp_if hg (fun e => k1 (dBr_t (c := .gt) (by rw [← dBr_lcmp]; exact e))) (fun e => k2 (dBr_f (c := .gt) (by rw [← dBr_lcmp]; exact e))))
theorem w_icmp_le {off : Int} {x y : Int32} (hf : aF pc M.2.2.2.2.2.2.2 = some (pc, (.if_icmp .le off), len, a, b)) (k1 : x.toInt ≤ y.toInt → Wp X D M Q a l r h) (k2 : y.toInt < x.toInt → Wp X D M Q (pc + 3) l r h) : Wp X D M Q pc l (.int y :: .int x :: r) h := wp_icmp hf (fun e => k1 (dBr_t (c := .le) e)) (fun e => k2 (dBr_f (c := .le) e))
theorem w_if_le {off : Int} {x : Int32} (hf : aF pc M.2.2.2.2.2.2.2 = some (pc, (.ifCond .le off), len, a, b)) (k1 : x.toInt ≤ 0 → Wp X D M Q a l r h) (k2 : 0 < x.toInt → Wp X D M Q (pc + 3) l r h) : Wp X D M Q pc l (.int x :: r) h := wp_if hf (fun e => k1 (dBr_t (c := .le) e)) (fun e => k2 (dBr_f (c := .le) e))
theorem w_lcmp_le {off : Int} {len2 a2 b2 : Nat} {x y : Int64} (hf : aF pc M.2.2.2.2.2.2.2 = some (pc, .lcmp, len, a, b)) (hg : aF (pc + 1) M.2.2.2.2.2.2.2 = some (pc + 1, (.ifCond .le off), len2, a2, b2)) (k1 : x.toInt ≤ y.toInt → Wp X D M Q a2 l r h) (k2 : y.toInt < x.toInt → Wp X D M Q (pc + 1 + 3) l r h) : Wp X D M Q pc l (.long y :: .long x :: r) h := wp1 (fun n d => r_lcmp hf rfl) (wp_if hg (fun e => k1 (dBr_t (c := .le) (by rw [← dBr_lcmp]; exact e))) (fun e => k2 (dBr_f (c := .le) (by rw [← dBr_lcmp]; exact e))))
end WI
end
section
-- ===== by hand: tools, and the shelves' stores =====
theorem hcons {α : Type} {l : List α} {n : Nat} (h : l.length = n + 1) : ∃ a t, l = a :: t ∧ t.length = n := by
  cases l with
  | nil => cases h
  | cons a t => exact ⟨a, t, rfl, Nat.succ.inj h⟩
theorem hnil {α : Type} {l : List α} (h : l.length = 0) : l = [] := List.length_eq_zero_iff.mp h
theorem hL_i {ρ : List Int} {rh : List Nat} {V : cV} {L : List cW} {l : aL} (hL : dL ρ rh L l) (hV : kV ρ V) {i p : Nat} {o lo hi : Int} (e : L[i]? = some (1, p, o)) (ev : V[p]? = some (lo, hi)) : ∃ x : Int32, l[i]? = some (some (.int x)) ∧ lo + o ≤ x.toInt ∧ x.toInt ≤ hi + o := by
  obtain ⟨x, y, a1, a2, a3⟩ := dL_i hL e
  have := hV.2.2 p y _ a2 ev
  dsimp only at this
  exact ⟨x, a1, by omega, by omega⟩
theorem upd_rng {g : Nat → Int32} {n k : Nat} {x : Int32} {lo hi : Int} (hg : ∀ j, j < n → lo ≤ (g j).toInt ∧ (g j).toInt ≤ hi) (h1 : lo ≤ x.toInt) (h2 : x.toInt ≤ hi) : ∀ j, j < n → lo ≤ (upd g k x j).toInt ∧ (upd g k x j).toInt ≤ hi := by
  intro j hj
  unfold upd
  split
  · exact ⟨h1, h2⟩
  · exact hg j hj
theorem hS_a {σ : List Nat} {h : aH} (H : dH σ h) {W : List (Nat × Nat)} {r a n : Nat} {lo hi : Int} (k : tkA r a n lo hi = true) (hW : cWn W r 0 = true) {g g' : Nat → Int32} (c : h.1[r]? = some (.inl (a, n, .inl g))) (hg : ∀ j, j < n → lo ≤ (g' j).toInt ∧ (g' j).toInt ≤ hi) :
    dH σ (h.1.set r (.inl (a, n, .inl g')), h.2) ∧ dG W σ h σ (h.1.set r (.inl (a, n, .inl g')), h.2) := by
  unfold tkA at k
  split at k
  · rename_i t e
    simp only [Bool.and_eq_true, Nat.blt_eq, ceI_i] at k
    obtain ⟨⟨⟨⟨⟨k1, k2⟩, k3⟩, k4⟩, k5⟩, k6⟩ := k
    have e1 : t.1 = 1 := Nat.eq_of_beq_eq_true k1
    have e3 : t.2.1 = a := Nat.eq_of_beq_eq_true k3
    have e4 : t.2.2.1 = n := Nat.eq_of_beq_eq_true k4
    have hs := H.2.2.2 r k2
    refine ⟨dH_set H hs e ?_, dG_set H hs e (by omega) c ⟨fun x _ hw => ?_, fun ci fs0 hx => by cases hx⟩⟩
    · unfold dC
      rw [e1]
      exact ⟨g', by rw [e3, e4], by rw [e4, k5, k6]; exact hg⟩
    · rw [hW] at hw; cases hw
  · cases k
theorem hJ3 {h h' : aH} (J : dJ3 h) (k : ∀ r, r = 122 ∨ r = 123 ∨ r = 120 ∨ r = 121 ∨ r = 119 ∨ r = 72 → h'.1[r]? = h.1[r]?) : dJ3 h' := by
  obtain ⟨ga, gw, gt, gl, gm, fs, x, a1, a2, a3, a4, a5, a6, a7, a8⟩ := J
  exact ⟨ga, gw, gt, gl, gm, fs, x, (k _ (by omega)).trans a1, (k _ (by omega)).trans a2, (k _ (by omega)).trans a3, (k _ (by omega)).trans a4, (k _ (by omega)).trans a5, (k _ (by omega)).trans a6, a7, a8⟩
theorem hJ2 {h h' : aH} (J : dJ2 h) (k : ∀ r, r = 69 ∨ r = 70 → h'.1[r]? = h.1[r]?) : dJ2 h' := by
  obtain ⟨gs, gh, a1, a2, a3⟩ := J
  exact ⟨gs, gh, (k _ (by omega)).trans a1, (k _ (by omega)).trans a2, a3⟩
theorem hI_sh {σ : List Nat} {h : aH} (I : dI σ h) {W : List (Nat × Nat)} (w1 : cWn W 69 0 = true) (w2 : cWn W 70 0 = true) {gs gh : Nat → Int32} (c69 : h.1[69]? = some (.inl (0, 6, .inl gs))) (c70 : h.1[70]? = some (.inl (0, 6, .inl gh))) {j : Nat} {s x : Int32}
    (s1 : -1 ≤ s.toInt) (s2 : s.toInt ≤ 5) (x1 : 0 ≤ x.toInt) (x2 : x.toInt ≤ 149) (hx : 0 ≤ s.toInt → s.toInt ≤ 4 → x.toInt ≤ 60) :
    dI σ ((h.1.set 69 (.inl (0, 6, .inl (upd gs j s)))).set 70 (.inl (0, 6, .inl (upd gh j x))), h.2) ∧ dG W σ h σ ((h.1.set 69 (.inl (0, 6, .inl (upd gs j s)))).set 70 (.inl (0, 6, .inl (upd gh j x))), h.2) := by
  obtain ⟨g1, b1, r1⟩ := hI_a I (r := 69) (a := 0) (n := 6) (lo := -1) (hi := 5) (by decide +kernel)
  obtain ⟨g2, b2, r2⟩ := hI_a I (r := 70) (a := 0) (n := 6) (lo := 0) (hi := 149) (by decide +kernel)
  cases c69.symm.trans b1
  cases c70.symm.trans b2
  obtain ⟨H1, G1⟩ := hS_a I.1 (W := W) (r := 69) (a := 0) (n := 6) (lo := -1) (hi := 5) (by decide +kernel) w1 c69 (upd_rng (k := j) r1 s1 s2)
  have c70' : (h.1.set 69 (.inl (0, 6, .inl (upd gs j s))))[70]? = some (.inl (0, 6, .inl gh)) := (set_ne' (by decide)).trans c70
  obtain ⟨H2, G2⟩ := hS_a H1 (W := W) (r := 70) (a := 0) (n := 6) (lo := 0) (hi := 149) (by decide +kernel) w2 c70' (upd_rng (k := j) r2 x1 x2)
  refine ⟨⟨H2, ⟨upd gs j s, upd gh j x, (set_ne' (by decide)).trans (set_eq' c69), set_eq' c70', fun i hi a1 a2 => ?_⟩, hJ3 I.2.2 fun r hr => (set_ne' (by omega)).trans (set_ne' (by omega))⟩, dG_trans G1 G2⟩
  obtain ⟨gs', gh', d1, d2, d3⟩ := I.2.1
  cases c69.symm.trans d1
  cases c70.symm.trans d2
  unfold upd at a1 a2 ⊢
  split
  · rename_i e
    rw [if_pos e] at a1 a2
    exact hx a1 a2
  · rename_i e
    rw [if_neg e] at a1 a2
    exact d3 i hi a1 a2
theorem f107_0 : aF 0 zM107.2.2.2.2.2.2.2 = some (0, (.aload_n 0), 1, 0, 0) := by decide +kernel
theorem f107_1 : aF 1 zM107.2.2.2.2.2.2.2 = some (1, (.getfield 9), 3, 9, 0) := by decide +kernel
theorem f107_4 : aF 4 zM107.2.2.2.2.2.2.2 = some (4, (.iload_n 1), 1, 0, 0) := by decide +kernel
theorem f107_5 : aF 5 zM107.2.2.2.2.2.2.2 = some (5, (.iconst (-1)), 1, 0, 0) := by decide +kernel
theorem f107_6 : aF 6 zM107.2.2.2.2.2.2.2 = some (6, .iastore, 1, 0, 0) := by decide +kernel
theorem f107_7 : aF 7 zM107.2.2.2.2.2.2.2 = some (7, (.aload_n 0), 1, 0, 0) := by decide +kernel
theorem f107_8 : aF 8 zM107.2.2.2.2.2.2.2 = some (8, (.getfield 15), 3, 9, 1) := by decide +kernel
theorem f107_11 : aF 11 zM107.2.2.2.2.2.2.2 = some (11, (.iload_n 1), 1, 0, 0) := by decide +kernel
theorem f107_12 : aF 12 zM107.2.2.2.2.2.2.2 = some (12, (.iconst 0), 1, 0, 0) := by decide +kernel
theorem f107_13 : aF 13 zM107.2.2.2.2.2.2.2 = some (13, .iastore, 1, 0, 0) := by decide +kernel
theorem f107_14 : aF 14 zM107.2.2.2.2.2.2.2 = some (14, (.iconst 1), 1, 0, 0) := by decide +kernel
theorem f107_15 : aF 15 zM107.2.2.2.2.2.2.2 = some (15, .ireturn, 1, 0, 0) := by decide +kernel
theorem hand_280 {X : aX} : dGood X cC280 := by
  intro M hM l h σ ρ rh I K L
  have hM0 : zmt[107]? = some zM107 := rfl
  cases (show zmt[107]? = some M from hM).symm.trans hM0
  have a0 := dL_r L (i := 0) (c := 68) (o := 0) rfl (by decide)
  obtain ⟨x1, a1, b1, b1'⟩ := hL_i L K.1 (i := 1) (p := 1) (o := 0) (lo := 0) (hi := 5) rfl rfl
  obtain ⟨u0, l1, rfl, e1⟩ := hcons (show l.length = 2 from L.1)
  obtain ⟨u1, l2, rfl, e2⟩ := hcons e1
  cases hnil e2
  cases Option.some.inj a0
  cases Option.some.inj a1
  obtain ⟨fs, c68⟩ := hI_o I (r := 68) (ci := 9) (by decide +kernel)
  have F68_0 := hI_r I c68 (f := 0) (q := 69) (by decide +kernel)
  have F68_1 := hI_r I c68 (f := 1) (q := 70) (by decide +kernel)
  obtain ⟨gs, c69, -⟩ := hI_a I (r := 69) (a := 0) (n := 6) (lo := -1) (hi := 5) (by decide +kernel)
  obtain ⟨gh, c70, -⟩ := hI_a I (r := 70) (a := 0) (n := 6) (lo := 0) (hi := 149) (by decide +kernel)
  refine hEnd ?_
  refine wp1 (fun n d => r_aloadn f107_0 rfl) ?_
  refine w_get f107_1 c68 F68_0 ?_
  refine wp1 (fun n d => r_iloadn f107_4 rfl) ?_
  refine w_iconst f107_5 (fun v5 hv5 => ?_)
  refine w_iast f107_6 c69 (by omega) (by omega) ?_
  have c68b : (h.1.set 69 (.inl (0, 6, .inl (upd gs x1.toInt.toNat v5))))[68]? = some (.inr (9, fs)) := (set_ne' (by decide)).trans c68
  have c70b : (h.1.set 69 (.inl (0, 6, .inl (upd gs x1.toInt.toNat v5))))[70]? = some (.inl (0, 6, .inl gh)) := (set_ne' (by decide)).trans c70
  refine wp1 (fun n d => r_aloadn f107_7 rfl) ?_
  refine w_get f107_8 c68b F68_1 ?_
  refine wp1 (fun n d => r_iloadn f107_11 rfl) ?_
  refine w_iconst f107_12 (fun v12 hv12 => ?_)
  refine w_iast f107_13 c70b (by omega) (by omega) ?_
  refine w_iconst f107_14 (fun v14 hv14 => ?_)
  refine wp_end (fun n d => r_ireturn f107_15 rfl) ?_
  obtain ⟨I', G'⟩ := hI_sh I (W := [(69, 0), (70, 0)]) (by decide) (by decide) c69 c70 (j := x1.toInt.toNat) (s := v5) (x := v12) (by omega) (by omega) (by omega) (by omega) (fun _ _ => by omega)
  exact ⟨σ, I', G', _, List.mem_cons_self, post_i I'.1 (by show (1 : Int) ≤ _; omega) (by show _ ≤ (1 : Int); omega)⟩
theorem f108_0 : aF 0 zM108.2.2.2.2.2.2.2 = some (0, (.aload_n 0), 1, 0, 0) := by decide +kernel
theorem f108_1 : aF 1 zM108.2.2.2.2.2.2.2 = some (1, (.getfield 9), 3, 9, 0) := by decide +kernel
theorem f108_4 : aF 4 zM108.2.2.2.2.2.2.2 = some (4, (.iload_n 1), 1, 0, 0) := by decide +kernel
theorem f108_5 : aF 5 zM108.2.2.2.2.2.2.2 = some (5, (.iconst 5), 1, 0, 0) := by decide +kernel
theorem f108_6 : aF 6 zM108.2.2.2.2.2.2.2 = some (6, .iastore, 1, 0, 0) := by decide +kernel
theorem f108_7 : aF 7 zM108.2.2.2.2.2.2.2 = some (7, (.aload_n 0), 1, 0, 0) := by decide +kernel
theorem f108_8 : aF 8 zM108.2.2.2.2.2.2.2 = some (8, (.getfield 15), 3, 9, 1) := by decide +kernel
theorem f108_11 : aF 11 zM108.2.2.2.2.2.2.2 = some (11, (.iload_n 1), 1, 0, 0) := by decide +kernel
theorem f108_12 : aF 12 zM108.2.2.2.2.2.2.2 = some (12, (.iload_n 2), 1, 0, 0) := by decide +kernel
theorem f108_13 : aF 13 zM108.2.2.2.2.2.2.2 = some (13, .iastore, 1, 0, 0) := by decide +kernel
theorem f108_14 : aF 14 zM108.2.2.2.2.2.2.2 = some (14, (.iconst 1), 1, 0, 0) := by decide +kernel
theorem f108_15 : aF 15 zM108.2.2.2.2.2.2.2 = some (15, .ireturn, 1, 0, 0) := by decide +kernel
theorem hand_281 {X : aX} : dGood X cC281 := by
  intro M hM l h σ ρ rh I K L
  have hM0 : zmt[108]? = some zM108 := rfl
  cases (show zmt[108]? = some M from hM).symm.trans hM0
  have a0 := dL_r L (i := 0) (c := 68) (o := 0) rfl (by decide)
  obtain ⟨x1, a1, b1, b1'⟩ := hL_i L K.1 (i := 1) (p := 1) (o := 0) (lo := 0) (hi := 5) rfl rfl
  obtain ⟨x2, a2, b2, b2'⟩ := hL_i L K.1 (i := 2) (p := 2) (o := 0) (lo := 0) (hi := 149) rfl rfl
  obtain ⟨u0, l1, rfl, e1⟩ := hcons (show l.length = 3 from L.1)
  obtain ⟨u1, l2, rfl, e2⟩ := hcons e1
  obtain ⟨u2, l3, rfl, e3⟩ := hcons e2
  cases hnil e3
  cases Option.some.inj a0
  cases Option.some.inj a1
  cases Option.some.inj a2
  obtain ⟨fs, c68⟩ := hI_o I (r := 68) (ci := 9) (by decide +kernel)
  have F68_0 := hI_r I c68 (f := 0) (q := 69) (by decide +kernel)
  have F68_1 := hI_r I c68 (f := 1) (q := 70) (by decide +kernel)
  obtain ⟨gs, c69, -⟩ := hI_a I (r := 69) (a := 0) (n := 6) (lo := -1) (hi := 5) (by decide +kernel)
  obtain ⟨gh, c70, -⟩ := hI_a I (r := 70) (a := 0) (n := 6) (lo := 0) (hi := 149) (by decide +kernel)
  refine hEnd ?_
  refine wp1 (fun n d => r_aloadn f108_0 rfl) ?_
  refine w_get f108_1 c68 F68_0 ?_
  refine wp1 (fun n d => r_iloadn f108_4 rfl) ?_
  refine w_iconst f108_5 (fun v5 hv5 => ?_)
  refine w_iast f108_6 c69 (by omega) (by omega) ?_
  have c68b : (h.1.set 69 (.inl (0, 6, .inl (upd gs x1.toInt.toNat v5))))[68]? = some (.inr (9, fs)) := (set_ne' (by decide)).trans c68
  have c70b : (h.1.set 69 (.inl (0, 6, .inl (upd gs x1.toInt.toNat v5))))[70]? = some (.inl (0, 6, .inl gh)) := (set_ne' (by decide)).trans c70
  refine wp1 (fun n d => r_aloadn f108_7 rfl) ?_
  refine w_get f108_8 c68b F68_1 ?_
  refine wp1 (fun n d => r_iloadn f108_11 rfl) ?_
  refine wp1 (fun n d => r_iloadn f108_12 rfl) ?_
  refine w_iast f108_13 c70b (by omega) (by omega) ?_
  refine w_iconst f108_14 (fun v14 hv14 => ?_)
  refine wp_end (fun n d => r_ireturn f108_15 rfl) ?_
  obtain ⟨I', G'⟩ := hI_sh I (W := [(69, 0), (70, 0)]) (by decide) (by decide) c69 c70 (j := x1.toInt.toNat) (s := v5) (x := x2) (by omega) (by omega) (by omega) (by omega) (fun _ _ => by omega)
  exact ⟨σ, I', G', _, List.mem_cons_self, post_i I'.1 (by show (1 : Int) ≤ _; omega) (by show _ ≤ (1 : Int); omega)⟩
end
section
-- ===== by hand: a call of a contract =====
theorem dK_v {σ : List Nat} {h : aH} {ρ : List Int} {V : cV} (k : kV ρ V) : dK σ h ρ [] (V, [], [], [], [], [], []) :=
  ⟨k, fun t ht => (by cases ht), fun t ht => (by cases ht), ⟨rfl, fun i r e => (by simp at e)⟩, fun t ht => (by cases ht), fun t ht => (by cases ht), fun t ht => (by cases ht)⟩
def kB : List Int → cV → Prop
  | [], [] => True
  | y :: ys, q :: qs => (q.1 ≤ y ∧ y ≤ q.2) ∧ kB ys qs
  | _, _ => False
theorem kB_len : ∀ (ρ : List Int) (V : cV), kB ρ V → ρ.length = V.length
  | [], [], _ => rfl
  | [], _ :: _, h => h.elim
  | _ :: _, [], h => h.elim
  | _ :: ys, _ :: qs, h => by rw [List.length_cons, List.length_cons, kB_len ys qs h.2]
theorem kB_at : ∀ (ρ : List Int) (V : cV), kB ρ V → ∀ (p : Nat) (y : Int) (q : Int × Int), ρ[p]? = some y → V[p]? = some q → q.1 ≤ y ∧ y ≤ q.2
  | [], _, _, p, y, q, e, _ => by simp at e
  | _ :: _, [], h, _, _, _, _, _ => h.elim
  | y :: ys, q :: qs, h, 0, _, _, e1, e2 => by cases e1; cases e2; exact h.1
  | y :: ys, q :: qs, h, p + 1, y', q', e1, e2 => kB_at ys qs h.2 p y' q' e1 e2
theorem kV_of {ρ : List Int} {V : cV} (h0 : ρ[0]? = some 0) (h : kB ρ V) : kV ρ V := ⟨kB_len ρ V h, h0, kB_at ρ V h⟩
def lB (ρ : List Int) : List cW → aL → Prop
  | [], [] => True
  | w :: ws, v :: vs => (w.1 = 0 ∨ ∃ u, v = some u ∧ dW ρ [] w u) ∧ lB ρ ws vs
  | _, _ => False
theorem lB_len {ρ : List Int} : ∀ (L : List cW) (l : aL), lB ρ L l → l.length = L.length
  | [], [], _ => rfl
  | [], _ :: _, h => h.elim
  | _ :: _, [], h => h.elim
  | _ :: ws, _ :: vs, h => by rw [List.length_cons, List.length_cons, lB_len ws vs h.2]
theorem lB_at {ρ : List Int} : ∀ (L : List cW) (l : aL), lB ρ L l → ∀ (i : Nat) (w : cW), L[i]? = some w → w.1 = 0 ∨ ∃ v, aG l i = some v ∧ dW ρ [] w v
  | [], _, _, i, w, e => by simp at e
  | _ :: _, [], h, _, _, _ => h.elim
  | w :: ws, v :: vs, h, 0, _, e => by
    cases e
    rcases h.1 with q | ⟨u, rfl, q⟩
    · exact Or.inl q
    · exact Or.inr ⟨u, aG_get.mpr rfl, q⟩
  | w :: ws, v :: vs, h, i + 1, w', e => by
    rcases lB_at ws vs h.2 i w' e with q | ⟨u, q1, q2⟩
    · exact Or.inl q
    · exact Or.inr ⟨u, aG_get.mpr (by have := aG_get.mp q1; simpa using this), q2⟩
theorem dL_of {ρ : List Int} {L : List cW} {l : aL} (h : lB ρ L l) : dL ρ [] L l := ⟨lB_len L l h, lB_at L l h⟩
theorem lw_i {ρ : List Int} {p : Nat} {x : Int32} (e : ρ[p]? = some x.toInt) : (1 : Nat) = 0 ∨ ∃ u, some (Value.int x) = some u ∧ dW ρ [] (1, p, 0) u := Or.inr ⟨_, rfl, x, x.toInt, rfl, e, by show _ = _ + 0; omega⟩
theorem lw_j {ρ : List Int} {p : Nat} {x : Int64} (e : ρ[p]? = some x.toInt) : (2 : Nat) = 0 ∨ ∃ u, some (Value.long x) = some u ∧ dW ρ [] (2, p, 0) u := Or.inr ⟨_, rfl, x, x.toInt, rfl, e, by show _ = _ + 0; omega⟩
theorem lw_r {ρ : List Int} {c : Nat} (hc : c < 146) : (3 : Nat) = 0 ∨ ∃ u, some (Value.ref c) = some u ∧ dW ρ [] (3, c, 0) u := Or.inr ⟨_, rfl, c, rfl, Or.inl ⟨hc, rfl⟩⟩
theorem lw_0 {ρ : List Int} {p : Nat} {o : Int} {v : Option Value} : (0 : Nat) = 0 ∨ ∃ u, v = some u ∧ dW ρ [] (0, p, o) u := Or.inl rfl
section WG
variable {X : aX} {D : Nat} {M : aM} {Q : Option Value → aH → Prop} {pc pc' len a b : Nat} {l l' : aL} {st r : List Value} {h : aH}
theorem wp_good {C : cC} {Y : aM} (G : dGood X C) (hY : zmt[C.1]? = some Y) {σ : List Nat} (I : dI σ h) {ρ : List Int} {l1 : aL} (K : dK σ h ρ [] C.2.2.2.1.2.2) (L : dL ρ [] C.2.2.2.1.1 l1)
    (hs : ∀ (n d : Nat) (v : Option Value) (h1 : aH), arun X n d Y 0 l1 [] h = some (v, h1) → arun X (n + 1) (d + 1) M pc l st h = arun X n (d + 1) M pc' l' (v.toList ++ r) h1) (hd : C.2.1 + 1 ≤ D)
    (k : ∀ (v : Option Value) (h1 : aH) (σ1 : List Nat), dI σ1 h1 → dG C.2.2.1 σ h σ1 h1 → (∃ P, P ∈ C.2.2.2.2.1 ∧ dPost P σ1 h1 v) → Wp X D M Q pc' l' (v.toList ++ r) h1) : Wp X D M Q pc l st h := by
  obtain ⟨N, v, h1, σ1, e1, e2, e3, e4⟩ := G Y hY l1 h σ ρ [] I K L
  exact wp_call (fun n d e => hs n d v h1 e) hd e1 (k v h1 σ1 e2 e3 e4)
theorem wp_in {Y : aM} {lv : Nat} {l1 : aL} {Q' : Option Value → aH → Prop} (k1 : Wp X lv Y Q' 0 l1 [] h) (hs : ∀ (n d : Nat) (v : Option Value) (h1 : aH), arun X n d Y 0 l1 [] h = some (v, h1) → arun X (n + 1) (d + 1) M pc l st h = arun X n (d + 1) M pc' l' (v.toList ++ r) h1) (hd : lv + 1 ≤ D)
    (k : ∀ (v : Option Value) (h1 : aH), Q' v h1 → Wp X D M Q pc' l' (v.toList ++ r) h1) : Wp X D M Q pc l st h := by
  obtain ⟨N, v, h1, q, e1⟩ := k1
  exact wp_call (fun n d e => hs n d v h1 e) hd e1 (k v h1 q)
end WG
theorem rpost_i {σ : List Nat} {h : aH} {v : Option Value} {lo hi : Int} {Ps : List cT} (hP : ∃ P, P ∈ Ps ∧ dPost P σ h v) (e : Ps = [([], [(1, 1, 0)], ([(0, 0), (lo, hi)], [], [], [], [], [], []))]) : ∃ x : Int32, v = some (.int x) ∧ lo ≤ x.toInt ∧ x.toInt ≤ hi := by
  subst e
  obtain ⟨P, hm, ρ, rh, k, s⟩ := hP
  cases List.mem_singleton.mp hm
  cases v with
  | none => exact s.elim
  | some v =>
    obtain ⟨⟨x, y, rfl, e1, e2⟩, -⟩ := s
    have := k.1.2.2 1 y (lo, hi) e1 rfl
    dsimp only at this e2
    exact ⟨x, rfl, by omega, by omega⟩
theorem rpost_0 {σ : List Nat} {h : aH} {v : Option Value} {K : cK} {Ps : List cT} (hP : ∃ P, P ∈ Ps ∧ dPost P σ h v) (e : Ps = [([], [], K)]) : v = none := by
  subst e
  obtain ⟨P, hm, ρ, rh, k, s⟩ := hP
  cases List.mem_singleton.mp hm
  cases v with
  | none => rfl
  | some v => exact s.elim
theorem dG_o {W : List (Nat × Nat)} {σ σ1 : List Nat} {h h1 : aH} (H : dH σ h) (G : dG W σ h σ1 h1) {r ci : Nat} {fs : List Value} (c : h.1[r]? = some (.inr (ci, fs))) (hr : r < 146) : ∃ fs1 : List Value, h1.1[r]? = some (.inr (ci, fs1)) ∧ ∀ i, cWn W r i = false → fs1[i]? = fs[i]? := by
  obtain ⟨c1, a1, a2⟩ := G.2.1 r r _ (H.2.2.2 r hr) c
  obtain ⟨fs1, rfl, a3⟩ := a2.2 ci fs rfl
  exact ⟨fs1, a1, a3⟩
theorem dG_a {W : List (Nat × Nat)} {σ σ1 : List Nat} {h h1 : aH} (H : dH σ h) (G : dG W σ h σ1 h1) {r : Nat} {x : Nat × vp_A} (c : h.1[r]? = some (.inl x)) (hr : r < 146) (hW : cWn W r 0 = false) : h1.1[r]? = some (.inl x) := by
  obtain ⟨c1, a1, a2⟩ := G.2.1 r r _ (H.2.2.2 r hr) c
  rw [a2.1 x rfl hW] at a1
  exact a1
end
section
-- ===== by hand: lay and copy =====
theorem hS_j {σ : List Nat} {h : aH} (H : dH σ h) {W : List (Nat × Nat)} {r n : Nat} {lo hi : Int} (k : tkJ r n lo hi = true) (hW : cWn W r 0 = true) {g g' : Nat → Int64} (c : h.1[r]? = some (.inl (1, n, .inr (.inl g)))) (hg : ∀ j, j < n → lo ≤ (g' j).toInt ∧ (g' j).toInt ≤ hi) :
    dH σ (h.1.set r (.inl (1, n, .inr (.inl g'))), h.2) ∧ dG W σ h σ (h.1.set r (.inl (1, n, .inr (.inl g'))), h.2) := by
  unfold tkJ at k
  split at k
  · rename_i t e
    simp only [Bool.and_eq_true, Nat.blt_eq, ceI_i] at k
    obtain ⟨⟨⟨⟨k1, k2⟩, k4⟩, k5⟩, k6⟩ := k
    have e1 : t.1 = 2 := Nat.eq_of_beq_eq_true k1
    have e4 : t.2.2.1 = n := Nat.eq_of_beq_eq_true k4
    have hs := H.2.2.2 r k2
    refine ⟨dH_set H hs e ?_, dG_set H hs e (by omega) c ⟨fun x _ hw => ?_, fun ci fs0 hx => by cases hx⟩⟩
    · unfold dC
      rw [e1]
      exact ⟨g', by rw [e4], by rw [e4, k5, k6]; exact hg⟩
    · rw [hW] at hw; cases hw
  · cases k
theorem hI_l {σ : List Nat} {h : aH} (I : dI σ h) {W : List (Nat × Nat)} {r n : Nat} (k : tkJ r n (-9223372036854775808) 9223372036854775807 = true) (hW : cWn W r 0 = true) (hr : r = 71 ∨ r = 144 ∨ r = 145) {g g' : Nat → Int64} (c : h.1[r]? = some (.inl (1, n, .inr (.inl g)))) :
    dI σ (h.1.set r (.inl (1, n, .inr (.inl g'))), h.2) ∧ dG W σ h σ (h.1.set r (.inl (1, n, .inr (.inl g'))), h.2) := by
  obtain ⟨H1, G1⟩ := hS_j I.1 k hW c (fun j _ => jR (g' j))
  exact ⟨⟨H1, hJ2 I.2.1 fun q hq => set_ne' (by omega), hJ3 I.2.2 fun q hq => set_ne' (by omega)⟩, G1⟩
theorem f109_0 : aF 0 zM109.2.2.2.2.2.2.2 = some (0, (.aload_n 0), 1, 0, 0) := by decide +kernel
theorem f109_1 : aF 1 zM109.2.2.2.2.2.2.2 = some (1, (.getfield 9), 3, 9, 0) := by decide +kernel
theorem f109_4 : aF 4 zM109.2.2.2.2.2.2.2 = some (4, (.iload_n 1), 1, 0, 0) := by decide +kernel
theorem f109_5 : aF 5 zM109.2.2.2.2.2.2.2 = some (5, (.iload_n 2), 1, 0, 0) := by decide +kernel
theorem f109_6 : aF 6 zM109.2.2.2.2.2.2.2 = some (6, .iastore, 1, 0, 0) := by decide +kernel
theorem f109_7 : aF 7 zM109.2.2.2.2.2.2.2 = some (7, (.aload_n 0), 1, 0, 0) := by decide +kernel
theorem f109_8 : aF 8 zM109.2.2.2.2.2.2.2 = some (8, (.getfield 15), 3, 9, 1) := by decide +kernel
theorem f109_11 : aF 11 zM109.2.2.2.2.2.2.2 = some (11, (.iload_n 1), 1, 0, 0) := by decide +kernel
theorem f109_12 : aF 12 zM109.2.2.2.2.2.2.2 = some (12, (.iload_n 3), 1, 0, 0) := by decide +kernel
theorem f109_13 : aF 13 zM109.2.2.2.2.2.2.2 = some (13, .iastore, 1, 0, 0) := by decide +kernel
theorem f109_14 : aF 14 zM109.2.2.2.2.2.2.2 = some (14, (.aload_n 0), 1, 0, 0) := by decide +kernel
theorem f109_15 : aF 15 zM109.2.2.2.2.2.2.2 = some (15, (.getfield 18), 3, 9, 2) := by decide +kernel
theorem f109_18 : aF 18 zM109.2.2.2.2.2.2.2 = some (18, (.iload_n 1), 1, 0, 0) := by decide +kernel
theorem f109_19 : aF 19 zM109.2.2.2.2.2.2.2 = some (19, (.bipush 60), 2, 0, 0) := by decide +kernel
theorem f109_21 : aF 21 zM109.2.2.2.2.2.2.2 = some (21, .imul, 1, 0, 0) := by decide +kernel
theorem f109_22 : aF 22 zM109.2.2.2.2.2.2.2 = some (22, (.iload_n 1), 1, 0, 0) := by decide +kernel
theorem f109_23 : aF 23 zM109.2.2.2.2.2.2.2 = some (23, (.bipush 60), 2, 0, 0) := by decide +kernel
theorem f109_25 : aF 25 zM109.2.2.2.2.2.2.2 = some (25, .imul, 1, 0, 0) := by decide +kernel
theorem f109_26 : aF 26 zM109.2.2.2.2.2.2.2 = some (26, (.iload_n 3), 1, 0, 0) := by decide +kernel
theorem f109_27 : aF 27 zM109.2.2.2.2.2.2.2 = some (27, .iadd, 1, 0, 0) := by decide +kernel
theorem f109_28 : aF 28 zM109.2.2.2.2.2.2.2 = some (28, (.lconst 0), 1, 0, 0) := by decide +kernel
theorem f109_29 : aF 29 zM109.2.2.2.2.2.2.2 = some (29, (.invokestatic 22), 3, 331, 0) := by decide +kernel
theorem f109_32 : aF 32 zM109.2.2.2.2.2.2.2 = some (32, (.iconst 1), 1, 0, 0) := by decide +kernel
theorem f109_33 : aF 33 zM109.2.2.2.2.2.2.2 = some (33, .ireturn, 1, 0, 0) := by decide +kernel
theorem f330_0 : aF 0 zM330.2.2.2.2.2.2.2 = some (0, (.iload_n 1), 1, 0, 0) := by decide +kernel
theorem f330_1 : aF 1 zM330.2.2.2.2.2.2.2 = some (1, (.iload_n 2), 1, 0, 0) := by decide +kernel
theorem f330_2 : aF 2 zM330.2.2.2.2.2.2.2 = some (2, (.if_icmp .le 44), 3, 46, 0) := by decide +kernel
theorem f330_46 : aF 46 zM330.2.2.2.2.2.2.2 = some (46, (.iload_n 1), 1, 0, 0) := by decide +kernel
theorem f330_47 : aF 47 zM330.2.2.2.2.2.2.2 = some (47, (.ifCond .ge 12), 3, 59, 0) := by decide +kernel
theorem f330_59 : aF 59 zM330.2.2.2.2.2.2.2 = some (59, (.iload_n 2), 1, 0, 0) := by decide +kernel
theorem f330_60 : aF 60 zM330.2.2.2.2.2.2.2 = some (60, (.iload_n 0), 1, 0, 0) := by decide +kernel
theorem f330_61 : aF 61 zM330.2.2.2.2.2.2.2 = some (61, (.if_icmp .le 12), 3, 73, 0) := by decide +kernel
theorem f330_73 : aF 73 zM330.2.2.2.2.2.2.2 = some (73, .return_, 1, 0, 0) := by decide +kernel
theorem f331_0 : aF 0 zM331.2.2.2.2.2.2.2 = some (0, (.aload_n 0), 1, 0, 0) := by decide +kernel
theorem f331_1 : aF 1 zM331.2.2.2.2.2.2.2 = some (1, .arraylength, 1, 0, 0) := by decide +kernel
theorem f331_2 : aF 2 zM331.2.2.2.2.2.2.2 = some (2, (.iload_n 1), 1, 0, 0) := by decide +kernel
theorem f331_3 : aF 3 zM331.2.2.2.2.2.2.2 = some (3, (.iload_n 2), 1, 0, 0) := by decide +kernel
theorem f331_4 : aF 4 zM331.2.2.2.2.2.2.2 = some (4, (.invokestatic 13), 3, 330, 0) := by decide +kernel
theorem f331_7 : aF 7 zM331.2.2.2.2.2.2.2 = some (7, (.iload_n 1), 1, 0, 0) := by decide +kernel
theorem f331_8 : aF 8 zM331.2.2.2.2.2.2.2 = some (8, (.istore 5), 2, 0, 0) := by decide +kernel
theorem f331_10 : aF 10 zM331.2.2.2.2.2.2.2 = some (10, (.iload 5), 2, 0, 0) := by decide +kernel
theorem f331_12 : aF 12 zM331.2.2.2.2.2.2.2 = some (12, (.iload_n 2), 1, 0, 0) := by decide +kernel
theorem f331_13 : aF 13 zM331.2.2.2.2.2.2.2 = some (13, (.if_icmp .ge 14), 3, 27, 0) := by decide +kernel
theorem f331_16 : aF 16 zM331.2.2.2.2.2.2.2 = some (16, (.aload_n 0), 1, 0, 0) := by decide +kernel
theorem f331_17 : aF 17 zM331.2.2.2.2.2.2.2 = some (17, (.iload 5), 2, 0, 0) := by decide +kernel
theorem f331_19 : aF 19 zM331.2.2.2.2.2.2.2 = some (19, (.lload_n 3), 1, 0, 0) := by decide +kernel
theorem f331_20 : aF 20 zM331.2.2.2.2.2.2.2 = some (20, .lastore, 1, 0, 0) := by decide +kernel
theorem f331_21 : aF 21 zM331.2.2.2.2.2.2.2 = some (21, (.iinc 5 1), 3, 0, 0) := by decide +kernel
theorem f331_24 : aF 24 zM331.2.2.2.2.2.2.2 = some (24, (.goto (-14)), 3, 10, 0) := by decide +kernel
theorem f331_27 : aF 27 zM331.2.2.2.2.2.2.2 = some (27, .return_, 1, 0, 0) := by decide +kernel
theorem fill_loop {X : aX} {D : Nat} {σ : List Nat} {W : List (Nat × Nat)} (hW : cWn W 71 0 = true) {Q : Option Value → aH → Prop} {i0 t : Int32} {z : Int64} (ht : t.toInt ≤ 360) : ∀ (k : Nat) (i : Int32) (h : aH), (t.toInt - i.toInt).toNat = k → 0 ≤ i.toInt → dI σ h → (∀ h', dI σ h' → dG W σ h σ h' → Q none h') →
    Wp X D zM331 Q 10 [some (.ref 71), some (.int i0), some (.int t), some (.long z), none, some (.int i)] [] h := by
  intro k
  induction k with
  | zero =>
    intro i h hk hi I kq
    refine wp1 (fun n d => r_iload f331_10 rfl) ?_
    refine wp1 (fun n d => r_iloadn f331_12 rfl) ?_
    refine w_icmp_ge f331_13 (fun e => ?_) (fun e => absurd e (by omega))
    exact wp_end (fun n d => r_vreturn f331_27 rfl) (kq h I (dG_refl _ _ _))
  | succ k ih =>
    intro i h hk hi I kq
    refine wp1 (fun n d => r_iload f331_10 rfl) ?_
    refine wp1 (fun n d => r_iloadn f331_12 rfl) ?_
    refine w_icmp_ge f331_13 (fun e => ?_) (fun e => ?_)
    · exact wp_end (fun n d => r_vreturn f331_27 rfl) (kq h I (dG_refl _ _ _))
    · obtain ⟨g, c71, -⟩ := hI_j I (r := 71) (n := 360) (lo := -9223372036854775808) (hi := 9223372036854775807) (by decide +kernel)
      refine wp1 (fun n d => r_aloadn f331_16 rfl) ?_
      refine wp1 (fun n d => r_iload f331_17 rfl) ?_
      refine wp1 (fun n d => r_lloadn f331_19 rfl) ?_
      refine w_last f331_20 c71 (by omega) (by omega) ?_
      have hs := hI_l I (W := W) (r := 71) (n := 360) (by decide +kernel) hW (Or.inl rfl) (g' := vp_updL g i.toInt.toNat z) c71
      refine w_iinc f331_21 rfl (by omega) (by omega) (fun v21 hv21 => ?_)
      show Wp _ _ _ _ 24 [some (.ref 71), some (.int i0), some (.int t), some (.long z), none, some (.int v21)] _ _
      refine wp1 (fun n d => r_goto f331_24) ?_
      exact ih _ _ (by omega) (by omega) hs.1 (fun h' I' G' => kq h' I' (dG_trans hs.2 G'))
theorem rng_wp {X : aX} {h : aH} {n i0 t : Int32} (h1 : 0 ≤ i0.toInt) (h2 : i0.toInt ≤ t.toInt) (h3 : t.toInt ≤ n.toInt) : Wp X 0 zM330 (fun v h' => v = none ∧ h' = h) 0 [some (.int n), some (.int i0), some (.int t)] [] h := by
  refine wp1 (fun n d => r_iloadn f330_0 rfl) ?_
  refine wp1 (fun n d => r_iloadn f330_1 rfl) ?_
  refine w_icmp_le f330_2 (fun e2 => ?_) (fun e2 => absurd e2 (by omega))
  refine wp1 (fun n d => r_iloadn f330_46 rfl) ?_
  refine w_if_ge f330_47 (fun e47 => ?_) (fun e47 => absurd e47 (by omega))
  refine wp1 (fun n d => r_iloadn f330_59 rfl) ?_
  refine wp1 (fun n d => r_iloadn f330_60 rfl) ?_
  refine w_icmp_le f330_61 (fun e61 => ?_) (fun e61 => absurd e61 (by omega))
  exact wp_end (fun n d => r_vreturn f330_73 rfl) ⟨rfl, rfl⟩
theorem fill_wp {X : aX} {σ : List Nat} {W : List (Nat × Nat)} (hW : cWn W 71 0 = true) {h : aH} (I : dI σ h) {i0 t : Int32} {z : Int64} (h1 : 0 ≤ i0.toInt) (h2 : i0.toInt ≤ t.toInt) (ht : t.toInt ≤ 360) :
    Wp X 1 zM331 (fun v h' => v = none ∧ dI σ h' ∧ dG W σ h σ h') 0 [some (.ref 71), some (.int i0), some (.int t), some (.long z), none, none] [] h := by
  obtain ⟨g, c71, -⟩ := hI_j I (r := 71) (n := 360) (lo := -9223372036854775808) (hi := 9223372036854775807) (by decide +kernel)
  refine wp1 (fun n d => r_aloadn f331_0 rfl) ?_
  refine wp1 (fun n d => r_alen1 (v := 360) f331_1 c71 rfl) ?_
  refine wp1 (fun n d => r_iloadn f331_2 rfl) ?_
  refine wp1 (fun n d => r_iloadn f331_3 rfl) ?_
  refine wp_in (lv := 0) (Y := zM330) (rng_wp (n := 360) (i0 := i0) (t := t) h1 h2 (by show _ ≤ (360 : Int); omega)) (fun n d v h' e => r_stat (as := [.int 360, .int i0, .int t]) (r := []) f331_4 rfl (show zmt[330]? = some zM330 from rfl) rfl rfl rfl rfl rfl rfl e) (by omega) ?_
  rintro v h' ⟨rfl, rfl⟩
  refine wp1 (fun n d => r_iloadn f331_7 rfl) ?_
  refine wp1 (fun n d => r_istore (L' := [some (.ref 71), some (.int i0), some (.int t), some (.long z), none, some (.int i0)]) f331_8 rfl rfl) ?_
  exact fill_loop hW ht _ i0 _ rfl h1 I (fun h' I' G' => ⟨rfl, I', G'⟩)
theorem hand_284 {X : aX} : dGood X cC284 := by
  intro M hM l h σ ρ rh I K L
  have hM0 : zmt[109]? = some zM109 := rfl
  cases (show zmt[109]? = some M from hM).symm.trans hM0
  have a0 := dL_r L (i := 0) (c := 68) (o := 0) rfl (by decide)
  obtain ⟨x1, a1, b1, b1'⟩ := hL_i L K.1 (i := 1) (p := 1) (o := 0) (lo := 0) (hi := 5) rfl rfl
  obtain ⟨x2, a2, b2, b2'⟩ := hL_i L K.1 (i := 2) (p := 2) (o := 0) (lo := 0) (hi := 4) rfl rfl
  obtain ⟨x3, a3, b3, b3'⟩ := hL_i L K.1 (i := 3) (p := 3) (o := 0) (lo := 0) (hi := 60) rfl rfl
  obtain ⟨u0, l1, rfl, e1⟩ := hcons (show l.length = 4 from L.1)
  obtain ⟨u1, l2, rfl, e2⟩ := hcons e1
  obtain ⟨u2, l3, rfl, e3⟩ := hcons e2
  obtain ⟨u3, l4, rfl, e4⟩ := hcons e3
  cases hnil e4
  cases Option.some.inj a0
  cases Option.some.inj a1
  cases Option.some.inj a2
  cases Option.some.inj a3
  obtain ⟨fs, c68⟩ := hI_o I (r := 68) (ci := 9) (by decide +kernel)
  have F68_0 := hI_r I c68 (f := 0) (q := 69) (by decide +kernel)
  have F68_1 := hI_r I c68 (f := 1) (q := 70) (by decide +kernel)
  obtain ⟨gs, c69, -⟩ := hI_a I (r := 69) (a := 0) (n := 6) (lo := -1) (hi := 5) (by decide +kernel)
  obtain ⟨gh, c70, -⟩ := hI_a I (r := 70) (a := 0) (n := 6) (lo := 0) (hi := 149) (by decide +kernel)
  have key : ∀ h2 : aH, dI σ h2 → dG [(69, 0), (70, 0), (71, 0)] σ h σ h2 → Wp X 5 zM109 (hQ cC284 σ h) 14 [some (.ref 68), some (.int x1), some (.int x2), some (.int x3)] [] h2 := by
    intro h2 I2 G2
    obtain ⟨fs2, d68⟩ := hI_o I2 (r := 68) (ci := 9) (by decide +kernel)
    have F2 := hI_r I2 d68 (f := 2) (q := 71) (by decide +kernel)
    refine wp1 (fun n d => r_aloadn f109_14 rfl) ?_
    refine w_get f109_15 d68 F2 ?_
    refine wp1 (fun n d => r_iloadn f109_18 rfl) ?_
    refine w_bipush f109_19 (fun v19 hv19 => ?_)
    refine w_imul f109_21 (by rw [hv19]; omega) (by rw [hv19]; omega) (fun v21 hv21 => ?_)
    rw [hv19] at hv21
    refine wp1 (fun n d => r_iloadn f109_22 rfl) ?_
    refine w_bipush f109_23 (fun v23 hv23 => ?_)
    refine w_imul f109_25 (by rw [hv23]; omega) (by rw [hv23]; omega) (fun v25 hv25 => ?_)
    rw [hv23] at hv25
    refine wp1 (fun n d => r_iloadn f109_26 rfl) ?_
    refine w_iadd f109_27 (by omega) (by omega) (fun v27 hv27 => ?_)
    refine w_lconst f109_28 (fun v28 hv28 => ?_)
    refine wp_in (lv := 1) (Y := zM331) (fill_wp (W := [(69, 0), (70, 0), (71, 0)]) rfl I2 (i0 := v21) (t := v27) (z := v28) (by omega) (by omega) (by omega)) (fun n d v h' e => r_stat (as := [.ref 71, .int v21, .int v27, .long v28]) (r := []) f109_29 rfl (show zmt[331]? = some zM331 from rfl) rfl rfl rfl rfl rfl rfl e) (by omega) ?_
    rintro v h3 ⟨rfl, I3, G3⟩
    refine w_iconst f109_32 (fun v32 hv32 => ?_)
    refine wp_end (fun n d => r_ireturn f109_33 rfl) ?_
    exact ⟨σ, I3, dG_trans G2 G3, _, List.mem_cons_self, post_i I3.1 (by show (1 : Int) ≤ _; omega) (by show _ ≤ (1 : Int); omega)⟩
  refine hEnd ?_
  refine wp1 (fun n d => r_aloadn f109_0 rfl) ?_
  refine w_get f109_1 c68 F68_0 ?_
  refine wp1 (fun n d => r_iloadn f109_4 rfl) ?_
  refine wp1 (fun n d => r_iloadn f109_5 rfl) ?_
  refine w_iast f109_6 c69 (by omega) (by omega) ?_
  have c68b : (h.1.set 69 (.inl (0, 6, .inl (upd gs x1.toInt.toNat x2))))[68]? = some (.inr (9, fs)) := (set_ne' (by decide)).trans c68
  have c70b : (h.1.set 69 (.inl (0, 6, .inl (upd gs x1.toInt.toNat x2))))[70]? = some (.inl (0, 6, .inl gh)) := (set_ne' (by decide)).trans c70
  refine wp1 (fun n d => r_aloadn f109_7 rfl) ?_
  refine w_get f109_8 c68b F68_1 ?_
  refine wp1 (fun n d => r_iloadn f109_11 rfl) ?_
  refine wp1 (fun n d => r_iloadn f109_12 rfl) ?_
  refine w_iast f109_13 c70b (by omega) (by omega) ?_
  obtain ⟨I', G'⟩ := hI_sh I (W := [(69, 0), (70, 0), (71, 0)]) (by decide) (by decide) c69 c70 (j := x1.toInt.toNat) (s := x2) (x := x3) (by omega) (by omega) (by omega) (by omega) (fun _ _ => by omega)
  exact key _ I' G'
end
section
-- ===== by hand: copy =====
theorem f110_0 : aF 0 zM110.2.2.2.2.2.2.2 = some (0, (.aload_n 0), 1, 0, 0) := by decide +kernel
theorem f110_1 : aF 1 zM110.2.2.2.2.2.2.2 = some (1, (.getfield 9), 3, 9, 0) := by decide +kernel
theorem f110_4 : aF 4 zM110.2.2.2.2.2.2.2 = some (4, (.iload_n 1), 1, 0, 0) := by decide +kernel
theorem f110_5 : aF 5 zM110.2.2.2.2.2.2.2 = some (5, .iaload, 1, 0, 0) := by decide +kernel
theorem f110_6 : aF 6 zM110.2.2.2.2.2.2.2 = some (6, (.iconst (-1)), 1, 0, 0) := by decide +kernel
theorem f110_7 : aF 7 zM110.2.2.2.2.2.2.2 = some (7, (.if_icmp .ne 6), 3, 13, 0) := by decide +kernel
theorem f110_10 : aF 10 zM110.2.2.2.2.2.2.2 = some (10, (.bipush (-11)), 2, 0, 0) := by decide +kernel
theorem f110_12 : aF 12 zM110.2.2.2.2.2.2.2 = some (12, .ireturn, 1, 0, 0) := by decide +kernel
theorem f110_13 : aF 13 zM110.2.2.2.2.2.2.2 = some (13, (.aload_n 0), 1, 0, 0) := by decide +kernel
theorem f110_14 : aF 14 zM110.2.2.2.2.2.2.2 = some (14, (.getfield 9), 3, 9, 0) := by decide +kernel
theorem f110_17 : aF 17 zM110.2.2.2.2.2.2.2 = some (17, (.iload_n 1), 1, 0, 0) := by decide +kernel
theorem f110_18 : aF 18 zM110.2.2.2.2.2.2.2 = some (18, .iaload, 1, 0, 0) := by decide +kernel
theorem f110_19 : aF 19 zM110.2.2.2.2.2.2.2 = some (19, (.iconst 5), 1, 0, 0) := by decide +kernel
theorem f110_20 : aF 20 zM110.2.2.2.2.2.2.2 = some (20, (.if_icmp .ne 8), 3, 28, 0) := by decide +kernel
theorem f110_23 : aF 23 zM110.2.2.2.2.2.2.2 = some (23, (.bipush (-12)), 2, 0, 0) := by decide +kernel
theorem f110_25 : aF 25 zM110.2.2.2.2.2.2.2 = some (25, (.goto 4), 3, 29, 0) := by decide +kernel
theorem f110_28 : aF 28 zM110.2.2.2.2.2.2.2 = some (28, (.iconst 1), 1, 0, 0) := by decide +kernel
theorem f110_29 : aF 29 zM110.2.2.2.2.2.2.2 = some (29, .ireturn, 1, 0, 0) := by decide +kernel
theorem f115_0 : aF 0 zM115.2.2.2.2.2.2.2 = some (0, (.aload_n 0), 1, 0, 0) := by decide +kernel
theorem f115_1 : aF 1 zM115.2.2.2.2.2.2.2 = some (1, (.iload_n 1), 1, 0, 0) := by decide +kernel
theorem f115_2 : aF 2 zM115.2.2.2.2.2.2.2 = some (2, (.invokevirtual 28), 3, 110, 0) := by decide +kernel
theorem f115_5 : aF 5 zM115.2.2.2.2.2.2.2 = some (5, (.istore 6), 2, 0, 0) := by decide +kernel
theorem f115_7 : aF 7 zM115.2.2.2.2.2.2.2 = some (7, (.aload_n 0), 1, 0, 0) := by decide +kernel
theorem f115_8 : aF 8 zM115.2.2.2.2.2.2.2 = some (8, (.iload_n 3), 1, 0, 0) := by decide +kernel
theorem f115_9 : aF 9 zM115.2.2.2.2.2.2.2 = some (9, (.invokevirtual 28), 3, 110, 0) := by decide +kernel
theorem f115_12 : aF 12 zM115.2.2.2.2.2.2.2 = some (12, (.istore 7), 2, 0, 0) := by decide +kernel
theorem f115_14 : aF 14 zM115.2.2.2.2.2.2.2 = some (14, (.iload 6), 2, 0, 0) := by decide +kernel
theorem f115_16 : aF 16 zM115.2.2.2.2.2.2.2 = some (16, (.bipush (-11)), 2, 0, 0) := by decide +kernel
theorem f115_18 : aF 18 zM115.2.2.2.2.2.2.2 = some (18, (.if_icmp .eq 10), 3, 28, 0) := by decide +kernel
theorem f115_21 : aF 21 zM115.2.2.2.2.2.2.2 = some (21, (.iload 7), 2, 0, 0) := by decide +kernel
theorem f115_23 : aF 23 zM115.2.2.2.2.2.2.2 = some (23, (.bipush (-11)), 2, 0, 0) := by decide +kernel
theorem f115_25 : aF 25 zM115.2.2.2.2.2.2.2 = some (25, (.if_icmp .ne 6), 3, 31, 0) := by decide +kernel
theorem f115_28 : aF 28 zM115.2.2.2.2.2.2.2 = some (28, (.bipush (-11)), 2, 0, 0) := by decide +kernel
theorem f115_30 : aF 30 zM115.2.2.2.2.2.2.2 = some (30, .ireturn, 1, 0, 0) := by decide +kernel
theorem f115_31 : aF 31 zM115.2.2.2.2.2.2.2 = some (31, (.iload 6), 2, 0, 0) := by decide +kernel
theorem f115_33 : aF 33 zM115.2.2.2.2.2.2.2 = some (33, (.bipush (-12)), 2, 0, 0) := by decide +kernel
theorem f115_35 : aF 35 zM115.2.2.2.2.2.2.2 = some (35, (.if_icmp .eq 25), 3, 60, 0) := by decide +kernel
theorem f115_38 : aF 38 zM115.2.2.2.2.2.2.2 = some (38, (.iload 7), 2, 0, 0) := by decide +kernel
theorem f115_40 : aF 40 zM115.2.2.2.2.2.2.2 = some (40, (.bipush (-12)), 2, 0, 0) := by decide +kernel
theorem f115_42 : aF 42 zM115.2.2.2.2.2.2.2 = some (42, (.if_icmp .eq 18), 3, 60, 0) := by decide +kernel
theorem f115_45 : aF 45 zM115.2.2.2.2.2.2.2 = some (45, (.aload_n 0), 1, 0, 0) := by decide +kernel
theorem f115_46 : aF 46 zM115.2.2.2.2.2.2.2 = some (46, (.getfield 9), 3, 9, 0) := by decide +kernel
theorem f115_49 : aF 49 zM115.2.2.2.2.2.2.2 = some (49, (.iload_n 1), 1, 0, 0) := by decide +kernel
theorem f115_50 : aF 50 zM115.2.2.2.2.2.2.2 = some (50, .iaload, 1, 0, 0) := by decide +kernel
theorem f115_51 : aF 51 zM115.2.2.2.2.2.2.2 = some (51, (.aload_n 0), 1, 0, 0) := by decide +kernel
theorem f115_52 : aF 52 zM115.2.2.2.2.2.2.2 = some (52, (.getfield 9), 3, 9, 0) := by decide +kernel
theorem f115_55 : aF 55 zM115.2.2.2.2.2.2.2 = some (55, (.iload_n 3), 1, 0, 0) := by decide +kernel
theorem f115_56 : aF 56 zM115.2.2.2.2.2.2.2 = some (56, .iaload, 1, 0, 0) := by decide +kernel
theorem f115_57 : aF 57 zM115.2.2.2.2.2.2.2 = some (57, (.if_icmp .eq 6), 3, 63, 0) := by decide +kernel
theorem f115_60 : aF 60 zM115.2.2.2.2.2.2.2 = some (60, (.bipush (-12)), 2, 0, 0) := by decide +kernel
theorem f115_62 : aF 62 zM115.2.2.2.2.2.2.2 = some (62, .ireturn, 1, 0, 0) := by decide +kernel
theorem f115_63 : aF 63 zM115.2.2.2.2.2.2.2 = some (63, (.iload 5), 2, 0, 0) := by decide +kernel
theorem f115_65 : aF 65 zM115.2.2.2.2.2.2.2 = some (65, (.ifCond .lt 39), 3, 104, 0) := by decide +kernel
theorem f115_68 : aF 68 zM115.2.2.2.2.2.2.2 = some (68, (.iload_n 2), 1, 0, 0) := by decide +kernel
theorem f115_69 : aF 69 zM115.2.2.2.2.2.2.2 = some (69, (.ifCond .lt 35), 3, 104, 0) := by decide +kernel
theorem f115_72 : aF 72 zM115.2.2.2.2.2.2.2 = some (72, (.iload 4), 2, 0, 0) := by decide +kernel
theorem f115_74 : aF 74 zM115.2.2.2.2.2.2.2 = some (74, (.ifCond .lt 30), 3, 104, 0) := by decide +kernel
theorem f115_77 : aF 77 zM115.2.2.2.2.2.2.2 = some (77, (.iload_n 2), 1, 0, 0) := by decide +kernel
theorem f115_78 : aF 78 zM115.2.2.2.2.2.2.2 = some (78, (.aload_n 0), 1, 0, 0) := by decide +kernel
theorem f115_79 : aF 79 zM115.2.2.2.2.2.2.2 = some (79, (.getfield 15), 3, 9, 1) := by decide +kernel
theorem f115_82 : aF 82 zM115.2.2.2.2.2.2.2 = some (82, (.iload_n 1), 1, 0, 0) := by decide +kernel
theorem f115_83 : aF 83 zM115.2.2.2.2.2.2.2 = some (83, .iaload, 1, 0, 0) := by decide +kernel
theorem f115_84 : aF 84 zM115.2.2.2.2.2.2.2 = some (84, (.iload 5), 2, 0, 0) := by decide +kernel
theorem f115_86 : aF 86 zM115.2.2.2.2.2.2.2 = some (86, .isub, 1, 0, 0) := by decide +kernel
theorem f115_87 : aF 87 zM115.2.2.2.2.2.2.2 = some (87, (.if_icmp .gt 17), 3, 104, 0) := by decide +kernel
theorem f115_90 : aF 90 zM115.2.2.2.2.2.2.2 = some (90, (.iload 4), 2, 0, 0) := by decide +kernel
theorem f115_92 : aF 92 zM115.2.2.2.2.2.2.2 = some (92, (.aload_n 0), 1, 0, 0) := by decide +kernel
theorem f115_93 : aF 93 zM115.2.2.2.2.2.2.2 = some (93, (.getfield 15), 3, 9, 1) := by decide +kernel
theorem f115_96 : aF 96 zM115.2.2.2.2.2.2.2 = some (96, (.iload_n 3), 1, 0, 0) := by decide +kernel
theorem f115_97 : aF 97 zM115.2.2.2.2.2.2.2 = some (97, .iaload, 1, 0, 0) := by decide +kernel
theorem f115_98 : aF 98 zM115.2.2.2.2.2.2.2 = some (98, (.iload 5), 2, 0, 0) := by decide +kernel
theorem f115_100 : aF 100 zM115.2.2.2.2.2.2.2 = some (100, .isub, 1, 0, 0) := by decide +kernel
theorem f115_101 : aF 101 zM115.2.2.2.2.2.2.2 = some (101, (.if_icmp .le 6), 3, 107, 0) := by decide +kernel
theorem f115_104 : aF 104 zM115.2.2.2.2.2.2.2 = some (104, (.bipush (-13)), 2, 0, 0) := by decide +kernel
theorem f115_106 : aF 106 zM115.2.2.2.2.2.2.2 = some (106, .ireturn, 1, 0, 0) := by decide +kernel
theorem f115_107 : aF 107 zM115.2.2.2.2.2.2.2 = some (107, (.aload_n 0), 1, 0, 0) := by decide +kernel
theorem f115_108 : aF 108 zM115.2.2.2.2.2.2.2 = some (108, (.getfield 18), 3, 9, 2) := by decide +kernel
theorem f115_111 : aF 111 zM115.2.2.2.2.2.2.2 = some (111, (.iload_n 1), 1, 0, 0) := by decide +kernel
theorem f115_112 : aF 112 zM115.2.2.2.2.2.2.2 = some (112, (.bipush 60), 2, 0, 0) := by decide +kernel
theorem f115_114 : aF 114 zM115.2.2.2.2.2.2.2 = some (114, .imul, 1, 0, 0) := by decide +kernel
theorem f115_115 : aF 115 zM115.2.2.2.2.2.2.2 = some (115, (.iload_n 2), 1, 0, 0) := by decide +kernel
theorem f115_116 : aF 116 zM115.2.2.2.2.2.2.2 = some (116, .iadd, 1, 0, 0) := by decide +kernel
theorem f115_117 : aF 117 zM115.2.2.2.2.2.2.2 = some (117, (.aload_n 0), 1, 0, 0) := by decide +kernel
theorem f115_118 : aF 118 zM115.2.2.2.2.2.2.2 = some (118, (.getfield 18), 3, 9, 2) := by decide +kernel
theorem f115_121 : aF 121 zM115.2.2.2.2.2.2.2 = some (121, (.iload_n 3), 1, 0, 0) := by decide +kernel
theorem f115_122 : aF 122 zM115.2.2.2.2.2.2.2 = some (122, (.bipush 60), 2, 0, 0) := by decide +kernel
theorem f115_124 : aF 124 zM115.2.2.2.2.2.2.2 = some (124, .imul, 1, 0, 0) := by decide +kernel
theorem f115_125 : aF 125 zM115.2.2.2.2.2.2.2 = some (125, (.iload 4), 2, 0, 0) := by decide +kernel
theorem f115_127 : aF 127 zM115.2.2.2.2.2.2.2 = some (127, .iadd, 1, 0, 0) := by decide +kernel
theorem f115_128 : aF 128 zM115.2.2.2.2.2.2.2 = some (128, (.iload 5), 2, 0, 0) := by decide +kernel
theorem f115_130 : aF 130 zM115.2.2.2.2.2.2.2 = some (130, (.invokestatic 44), 3, 1002, 0) := by decide +kernel
theorem f115_133 : aF 133 zM115.2.2.2.2.2.2.2 = some (133, (.iload 5), 2, 0, 0) := by decide +kernel
theorem f115_135 : aF 135 zM115.2.2.2.2.2.2.2 = some (135, .ireturn, 1, 0, 0) := by decide +kernel
theorem cp_ok {sp dp k : Int32} {n0 n1 : Nat} (h1 : 0 ≤ sp.toInt) (h2 : 0 ≤ dp.toInt) (h3 : 0 ≤ k.toInt) (h4 : sp.toInt + k.toInt ≤ n0) (h5 : dp.toInt + k.toInt ≤ n1) : ¬ (sp < 0 ∨ dp < 0 ∨ k < 0 ∨ n0 < sp.toNatClampNeg + k.toNatClampNeg ∨ n1 < dp.toNatClampNeg + k.toNatClampNeg) := by
  have e1 : sp.toNatClampNeg = sp.toInt.toNat := rfl
  have e2 : dp.toNatClampNeg = dp.toInt.toNat := rfl
  have e3 : k.toNatClampNeg = k.toInt.toNat := rfl
  have e0 : (0 : Int32).toInt = 0 := by decide
  rw [e1, e2, e3]
  rintro (q | q | q | q | q)
  · have := Int32.lt_iff_toInt_lt.mp q; omega
  · have := Int32.lt_iff_toInt_lt.mp q; omega
  · have := Int32.lt_iff_toInt_lt.mp q; omega
  · omega
  · omega
theorem rowOn_wp {X : aX} {h : aH} {fs : List Value} {gs : Nat → Int32} (c68 : h.1[68]? = some (.inr (9, fs))) (F68_0 : fs[0]? = some (.ref 69)) (c69 : h.1[69]? = some (.inl (0, 6, .inl gs))) {x : Int32} (h1 : 0 ≤ x.toInt) (h2 : x.toInt ≤ 5) (hg : -1 ≤ (gs x.toInt.toNat).toInt ∧ (gs x.toInt.toNat).toInt ≤ 5) :
    Wp X 0 zM110 (fun v h' => h = h' ∧ ∃ r : Int32, v = some (.int r) ∧ (r.toInt = -11 ∨ r.toInt = -12 ∨ 0 ≤ (gs x.toInt.toNat).toInt ∧ (gs x.toInt.toNat).toInt ≤ 4)) 0 [some (.ref 68), some (.int x)] [] h := by
  refine wp1 (fun n d => r_aloadn f110_0 rfl) ?_
  refine w_get f110_1 c68 F68_0 ?_
  refine wp1 (fun n d => r_iloadn f110_4 rfl) ?_
  refine w_iald f110_5 c69 (by omega) (by omega) (fun v5 hv5 => ?_)
  refine w_iconst f110_6 (fun v6 hv6 => ?_)
  refine w_icmp_ne f110_7 (fun e => ?_) (fun e => ?_)
  · refine wp1 (fun n d => r_aloadn f110_13 rfl) ?_
    refine w_get f110_14 c68 F68_0 ?_
    refine wp1 (fun n d => r_iloadn f110_17 rfl) ?_
    refine w_iald f110_18 c69 (by omega) (by omega) (fun v18 hv18 => ?_)
    refine w_iconst f110_19 (fun v19 hv19 => ?_)
    refine w_icmp_ne f110_20 (fun e2 => ?_) (fun e2 => ?_)
    · refine w_iconst f110_28 (fun v28 hv28 => ?_)
      exact wp_end (fun n d => r_ireturn f110_29 rfl) ⟨rfl, _, rfl, Or.inr (Or.inr (by rw [hv5] at e; rw [hv18] at e2; omega))⟩
    · refine w_bipush f110_23 (fun v23 hv23 => ?_)
      refine wp1 (fun n d => r_goto f110_25) ?_
      exact wp_end (fun n d => r_ireturn f110_29 rfl) ⟨rfl, _, rfl, Or.inr (Or.inl hv23)⟩
  · refine w_bipush f110_10 (fun v10 hv10 => ?_)
    exact wp_end (fun n d => r_ireturn f110_12 rfl) ⟨rfl, _, rfl, Or.inl hv10⟩
theorem hand_291 {X : aX} : dGood X cC291 := by
  intro M hM l h σ ρ rh I K L
  have hM0 : zmt[115]? = some zM115 := rfl
  cases (show zmt[115]? = some M from hM).symm.trans hM0
  have a0 := dL_r L (i := 0) (c := 68) (o := 0) rfl (by decide)
  obtain ⟨x1, a1, b1, b1'⟩ := hL_i L K.1 (i := 1) (p := 1) (o := 0) (lo := 0) (hi := 5) rfl rfl
  obtain ⟨x2, a2, b2, b2'⟩ := hL_i L K.1 (i := 2) (p := 2) (o := 0) (lo := -2147483648) (hi := 2147483647) rfl rfl
  obtain ⟨x3, a3, b3, b3'⟩ := hL_i L K.1 (i := 3) (p := 3) (o := 0) (lo := 0) (hi := 5) rfl rfl
  obtain ⟨x4, a4, b4, b4'⟩ := hL_i L K.1 (i := 4) (p := 4) (o := 0) (lo := -2147483648) (hi := 2147483647) rfl rfl
  obtain ⟨x5, a5, b5, b5'⟩ := hL_i L K.1 (i := 5) (p := 5) (o := 0) (lo := -2147483648) (hi := 2147483647) rfl rfl
  obtain ⟨u0, l1, rfl, e1⟩ := hcons (show l.length = 8 from L.1)
  obtain ⟨u1, l2, rfl, e2⟩ := hcons e1
  obtain ⟨u2, l3, rfl, e3⟩ := hcons e2
  obtain ⟨u3, l4, rfl, e4⟩ := hcons e3
  obtain ⟨u4, l5, rfl, e5⟩ := hcons e4
  obtain ⟨u5, l6, rfl, e6⟩ := hcons e5
  obtain ⟨u6, l7, rfl, e7⟩ := hcons e6
  obtain ⟨u7, l8, rfl, e8⟩ := hcons e7
  cases hnil e8
  cases Option.some.inj a0
  cases Option.some.inj a1
  cases Option.some.inj a2
  cases Option.some.inj a3
  cases Option.some.inj a4
  cases Option.some.inj a5
  obtain ⟨fs, c68⟩ := hI_o I (r := 68) (ci := 9) (by decide +kernel)
  have F68_0 := hI_r I c68 (f := 0) (q := 69) (by decide +kernel)
  have F68_1 := hI_r I c68 (f := 1) (q := 70) (by decide +kernel)
  have F68_2 := hI_r I c68 (f := 2) (q := 71) (by decide +kernel)
  obtain ⟨gs, c69, r69⟩ := hI_a I (r := 69) (a := 0) (n := 6) (lo := -1) (hi := 5) (by decide +kernel)
  obtain ⟨gh, c70, r70⟩ := hI_a I (r := 70) (a := 0) (n := 6) (lo := 0) (hi := 149) (by decide +kernel)
  obtain ⟨gl, c71, -⟩ := hI_j I (r := 71) (n := 360) (lo := -9223372036854775808) (hi := 9223372036854775807) (by decide +kernel)
  obtain ⟨gs', gh', d1, d2, d3⟩ := I.2.1
  cases c69.symm.trans d1
  cases c70.symm.trans d2
  have J1 := d3 x1.toInt.toNat (by omega)
  have J3 := d3 x3.toInt.toNat (by omega)
  have R1 := r70 x1.toInt.toNat (by omega)
  have R3 := r70 x3.toInt.toNat (by omega)
  have fin : ∀ x : Int32, hQ cC291 σ h (some (.int x)) h := fun x => ⟨σ, I, dG_refl _ _ _, _, List.mem_cons_self, post_i I.1 (iR x).1 (iR x).2⟩
  refine hEnd ?_
  refine wp1 (fun n d => r_aloadn f115_0 rfl) ?_
  refine wp1 (fun n d => r_iloadn f115_1 rfl) ?_
  refine wp_in (lv := 0) (Y := zM110) (rowOn_wp c68 F68_0 c69 (x := x1) (by omega) (by omega) (r69 _ (by omega))) (fun n d v h' e => r_virt (as := [.int x1]) (r := []) f115_2 c68 (show zmt[110]? = some zM110 from rfl) rfl rfl rfl rfl rfl rfl e) (by decide) ?_
  rintro v h' ⟨rfl, r1, rfl, hr1⟩
  refine wp1 (fun n d => r_istore (L' := [some (.ref 68), some (.int x1), some (.int x2), some (.int x3), some (.int x4), some (.int x5), some (.int r1), u7]) f115_5 rfl rfl) ?_
  refine wp1 (fun n d => r_aloadn f115_7 rfl) ?_
  refine wp1 (fun n d => r_iloadn f115_8 rfl) ?_
  refine wp_in (lv := 0) (Y := zM110) (rowOn_wp c68 F68_0 c69 (x := x3) (by omega) (by omega) (r69 _ (by omega))) (fun n d v h' e => r_virt (as := [.int x3]) (r := []) f115_9 c68 (show zmt[110]? = some zM110 from rfl) rfl rfl rfl rfl rfl rfl e) (by decide) ?_
  rintro v h' ⟨rfl, r3, rfl, hr3⟩
  refine wp1 (fun n d => r_istore (L' := [some (.ref 68), some (.int x1), some (.int x2), some (.int x3), some (.int x4), some (.int x5), some (.int r1), some (.int r3)]) f115_12 rfl rfl) ?_
  refine wp1 (fun n d => r_iload f115_14 rfl) ?_
  refine w_bipush f115_16 (fun v16 hv16 => ?_)
  have k28 : Wp X 5 zM115 (hQ cC291 σ h) 28 [some (.ref 68), some (.int x1), some (.int x2), some (.int x3), some (.int x4), some (.int x5), some (.int r1), some (.int r3)] [] h := w_bipush f115_28 (fun v _ => wp_end (fun n d => r_ireturn f115_30 rfl) (fin v))
  have k60 : Wp X 5 zM115 (hQ cC291 σ h) 60 [some (.ref 68), some (.int x1), some (.int x2), some (.int x3), some (.int x4), some (.int x5), some (.int r1), some (.int r3)] [] h := w_bipush f115_60 (fun v _ => wp_end (fun n d => r_ireturn f115_62 rfl) (fin v))
  have k104 : Wp X 5 zM115 (hQ cC291 σ h) 104 [some (.ref 68), some (.int x1), some (.int x2), some (.int x3), some (.int x4), some (.int x5), some (.int r1), some (.int r3)] [] h := w_bipush f115_104 (fun v _ => wp_end (fun n d => r_ireturn f115_106 rfl) (fin v))
  refine w_icmp_eq f115_18 (fun _ => k28) (fun e18 => ?_)
  refine wp1 (fun n d => r_iload f115_21 rfl) ?_
  refine w_bipush f115_23 (fun v23 hv23 => ?_)
  refine w_icmp_ne f115_25 (fun e25 => ?_) (fun _ => k28)
  refine wp1 (fun n d => r_iload f115_31 rfl) ?_
  refine w_bipush f115_33 (fun v33 hv33 => ?_)
  refine w_icmp_eq f115_35 (fun _ => k60) (fun e35 => ?_)
  refine wp1 (fun n d => r_iload f115_38 rfl) ?_
  refine w_bipush f115_40 (fun v40 hv40 => ?_)
  refine w_icmp_eq f115_42 (fun _ => k60) (fun e42 => ?_)
  refine wp1 (fun n d => r_aloadn f115_45 rfl) ?_
  refine w_get f115_46 c68 F68_0 ?_
  refine wp1 (fun n d => r_iloadn f115_49 rfl) ?_
  refine w_iald f115_50 c69 (by omega) (by omega) (fun v50 hv50 => ?_)
  have g50 := congrArg Int32.toInt hv50
  refine wp1 (fun n d => r_aloadn f115_51 rfl) ?_
  refine w_get f115_52 c68 F68_0 ?_
  refine wp1 (fun n d => r_iloadn f115_55 rfl) ?_
  refine w_iald f115_56 c69 (by omega) (by omega) (fun v56 hv56 => ?_)
  have g56 := congrArg Int32.toInt hv56
  refine w_icmp_eq f115_57 (fun e57 => ?_) (fun _ => k60)
  refine wp1 (fun n d => r_iload f115_63 rfl) ?_
  refine w_if_lt f115_65 (fun _ => k104) (fun e65 => ?_)
  refine wp1 (fun n d => r_iloadn f115_68 rfl) ?_
  refine w_if_lt f115_69 (fun _ => k104) (fun e69 => ?_)
  refine wp1 (fun n d => r_iload f115_72 rfl) ?_
  refine w_if_lt f115_74 (fun _ => k104) (fun e74 => ?_)
  refine wp1 (fun n d => r_iloadn f115_77 rfl) ?_
  refine wp1 (fun n d => r_aloadn f115_78 rfl) ?_
  refine w_get f115_79 c68 F68_1 ?_
  refine wp1 (fun n d => r_iloadn f115_82 rfl) ?_
  refine w_iald f115_83 c70 (by omega) (by omega) (fun v83 hv83 => ?_)
  have g83 := congrArg Int32.toInt hv83
  refine wp1 (fun n d => r_iload f115_84 rfl) ?_
  refine w_isub f115_86 (by omega) (by omega) (fun v86 hv86 => ?_)
  refine w_icmp_gt f115_87 (fun _ => k104) (fun e87 => ?_)
  refine wp1 (fun n d => r_iload f115_90 rfl) ?_
  refine wp1 (fun n d => r_aloadn f115_92 rfl) ?_
  refine w_get f115_93 c68 F68_1 ?_
  refine wp1 (fun n d => r_iloadn f115_96 rfl) ?_
  refine w_iald f115_97 c70 (by omega) (by omega) (fun v97 hv97 => ?_)
  have g97 := congrArg Int32.toInt hv97
  refine wp1 (fun n d => r_iload f115_98 rfl) ?_
  refine w_isub f115_100 (by omega) (by omega) (fun v100 hv100 => ?_)
  refine w_icmp_le f115_101 (fun e101 => ?_) (fun _ => k104)
  refine wp1 (fun n d => r_aloadn f115_107 rfl) ?_
  refine w_get f115_108 c68 F68_2 ?_
  refine wp1 (fun n d => r_iloadn f115_111 rfl) ?_
  refine w_bipush f115_112 (fun v112 hv112 => ?_)
  refine w_imul f115_114 (by rw [hv112]; omega) (by rw [hv112]; omega) (fun v114 hv114 => ?_)
  rw [hv112] at hv114
  refine wp1 (fun n d => r_iloadn f115_115 rfl) ?_
  refine w_iadd f115_116 (by omega) (by omega) (fun v116 hv116 => ?_)
  refine wp1 (fun n d => r_aloadn f115_117 rfl) ?_
  refine w_get f115_118 c68 F68_2 ?_
  refine wp1 (fun n d => r_iloadn f115_121 rfl) ?_
  refine w_bipush f115_122 (fun v122 hv122 => ?_)
  refine w_imul f115_124 (by rw [hv122]; omega) (by rw [hv122]; omega) (fun v124 hv124 => ?_)
  rw [hv122] at hv124
  refine wp1 (fun n d => r_iload f115_125 rfl) ?_
  refine w_iadd f115_127 (by omega) (by omega) (fun v127 hv127 => ?_)
  refine wp1 (fun n d => r_iload f115_128 rfl) ?_
  have hs := hI_l I (W := [(71, 0)]) (r := 71) (n := 360) (by decide +kernel) rfl (Or.inl rfl) (g' := va_cpy gl gl v116.toNatClampNeg v127.toNatClampNeg x5.toNatClampNeg) c71
  refine wp1 (D := 5) (fun n d => r_cp1 (d := d + 4) f115_130 rfl c71 c71 (cp_ok (by omega) (by omega) (by omega) (by omega) (by omega)) rfl rfl) ?_
  refine wp1 (fun n d => r_iload f115_133 rfl) ?_
  refine wp_end (fun n d => r_ireturn f115_135 rfl) ?_
  exact ⟨σ, hs.1, hs.2, _, List.mem_cons_self, post_i hs.1.1 (iR x5).1 (iR x5).2⟩
end

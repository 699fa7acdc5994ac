theorem zq_288 : ∀ pc, pc < 1781 → zst zp_288 code 12 7 false (some .boolean) 15 558 pc (code.data.toList.drop pc) = true := by
  intro pc h
  by_cases h0 : pc < 151
  · have h9 := zwk_at _ _ _ zq_288_0 (pc - 0) (by omega)
    rw [List.drop_drop, show 0 + (pc - 0) = pc by omega] at h9
    exact h9
  by_cases h151 : pc < 302
  · have h9 := zwk_at _ _ _ zq_288_151 (pc - 151) (by omega)
    rw [List.drop_drop, show 151 + (pc - 151) = pc by omega] at h9
    exact h9
  by_cases h302 : pc < 453
  · have h9 := zwk_at _ _ _ zq_288_302 (pc - 302) (by omega)
    rw [List.drop_drop, show 302 + (pc - 302) = pc by omega] at h9
    exact h9
  by_cases h453 : pc < 604
  · have h9 := zwk_at _ _ _ zq_288_453 (pc - 453) (by omega)
    rw [List.drop_drop, show 453 + (pc - 453) = pc by omega] at h9
    exact h9
  by_cases h604 : pc < 755
  · have h9 := zwk_at _ _ _ zq_288_604 (pc - 604) (by omega)
    rw [List.drop_drop, show 604 + (pc - 604) = pc by omega] at h9
    exact h9
  by_cases h755 : pc < 906
  · have h9 := zwk_at _ _ _ zq_288_755 (pc - 755) (by omega)
    rw [List.drop_drop, show 755 + (pc - 755) = pc by omega] at h9
    exact h9
  by_cases h906 : pc < 1057
  · have h9 := zwk_at _ _ _ zq_288_906 (pc - 906) (by omega)
    rw [List.drop_drop, show 906 + (pc - 906) = pc by omega] at h9
    exact h9
  by_cases h1057 : pc < 1208
  · have h9 := zwk_at _ _ _ zq_288_1057 (pc - 1057) (by omega)
    rw [List.drop_drop, show 1057 + (pc - 1057) = pc by omega] at h9
    exact h9
  by_cases h1208 : pc < 1359
  · have h9 := zwk_at _ _ _ zq_288_1208 (pc - 1208) (by omega)
    rw [List.drop_drop, show 1208 + (pc - 1208) = pc by omega] at h9
    exact h9
  by_cases h1359 : pc < 1510
  · have h9 := zwk_at _ _ _ zq_288_1359 (pc - 1359) (by omega)
    rw [List.drop_drop, show 1359 + (pc - 1359) = pc by omega] at h9
    exact h9
  by_cases h1510 : pc < 1661
  · have h9 := zwk_at _ _ _ zq_288_1510 (pc - 1510) (by omega)
    rw [List.drop_drop, show 1510 + (pc - 1510) = pc by omega] at h9
    exact h9
  by_cases h1661 : pc < 1781
  · have h9 := zwk_at _ _ _ zq_288_1661 (pc - 1661) (by omega)
    rw [List.drop_drop, show 1661 + (pc - 1661) = pc by omega] at h9
    exact h9
  omega
theorem zn_288 : ∀ pc, 1781 ≤ pc → pc < 4096 → zp_288 pc = none := fun pc h _ => zno2 h
set_option maxRecDepth 100000 in
theorem zr_288 : zRow 288 := zrow_ok2 (f := zp_288) (N := 1781) (kd := 9) rfl (by decide) (fun _ => rfl) zn_288 zq_288
theorem zrows_0 (y : Nat) (h : 0 ≤ y) (h2 : y < 16) : zRow y := by
  rcases (show y = 0 ∨ y = 1 ∨ y = 2 ∨ y = 3 ∨ y = 4 ∨ y = 5 ∨ y = 6 ∨ y = 7 ∨ y = 8 ∨ y = 9 ∨ y = 10 ∨ y = 11 ∨ y = 12 ∨ y = 13 ∨ y = 14 ∨ y = 15 by omega) with rfl | rfl | rfl | rfl | rfl | rfl | rfl | rfl | rfl | rfl | rfl | rfl | rfl | rfl | rfl | rfl
  · exact zr_0
  · exact zr_1
  · exact zr_2
  · exact zr_3
  · exact zr_4
  · exact zr_5
  · exact zr_6
  · exact zr_7
  · exact zr_8
  · exact zr_9
  · exact zr_10
  · exact zr_11
  · exact zr_12
  · exact zr_13
  · exact zr_14
  · exact zr_15
theorem zrows_1 (y : Nat) (h : 16 ≤ y) (h2 : y < 32) : zRow y := by
  rcases (show y = 16 ∨ y = 17 ∨ y = 18 ∨ y = 19 ∨ y = 20 ∨ y = 21 ∨ y = 22 ∨ y = 23 ∨ y = 24 ∨ y = 25 ∨ y = 26 ∨ y = 27 ∨ y = 28 ∨ y = 29 ∨ y = 30 ∨ y = 31 by omega) with rfl | rfl | rfl | rfl | rfl | rfl | rfl | rfl | rfl | rfl | rfl | rfl | rfl | rfl | rfl | rfl
  · exact zr_16
  · exact zr_17
  · exact zr_18
  · exact zr_19
  · exact zr_20
  · exact zr_21
  · exact zr_22
  · exact zr_23
  · exact zr_24
  · exact zr_25
  · exact zr_26
  · exact zr_27
  · exact zr_28
  · exact zr_29
  · exact zr_30
  · exact zr_31
theorem zrows_2 (y : Nat) (h : 32 ≤ y) (h2 : y < 48) : zRow y := by
  rcases (show y = 32 ∨ y = 33 ∨ y = 34 ∨ y = 35 ∨ y = 36 ∨ y = 37 ∨ y = 38 ∨ y = 39 ∨ y = 40 ∨ y = 41 ∨ y = 42 ∨ y = 43 ∨ y = 44 ∨ y = 45 ∨ y = 46 ∨ y = 47 by omega) with rfl | rfl | rfl | rfl | rfl | rfl | rfl | rfl | rfl | rfl | rfl | rfl | rfl | rfl | rfl | rfl
  · exact zr_32
  · exact zr_33
  · exact zr_34
  · exact zr_35
  · exact zr_36
  · exact zr_37
  · exact zr_38
  · exact zr_39
  · exact zr_40
  · exact zr_41
  · exact zr_42
  · exact zr_43
  · exact zr_44
  · exact zr_45
  · exact zr_46
  · exact zr_47
theorem zrows_3 (y : Nat) (h : 48 ≤ y) (h2 : y < 64) : zRow y := by
  rcases (show y = 48 ∨ y = 49 ∨ y = 50 ∨ y = 51 ∨ y = 52 ∨ y = 53 ∨ y = 54 ∨ y = 55 ∨ y = 56 ∨ y = 57 ∨ y = 58 ∨ y = 59 ∨ y = 60 ∨ y = 61 ∨ y = 62 ∨ y = 63 by omega) with rfl | rfl | rfl | rfl | rfl | rfl | rfl | rfl | rfl | rfl | rfl | rfl | rfl | rfl | rfl | rfl
  · exact zr_48
  · exact zr_49
  · exact zr_50
  · exact zr_51
  · exact zr_52
  · exact zr_53
  · exact zr_54
  · exact zr_55
  · exact zr_56
  · exact zr_57
  · exact zr_58
  · exact zr_59
  · exact zr_60
  · exact zr_61
  · exact zr_62
  · exact zr_63
theorem zrows_4 (y : Nat) (h : 64 ≤ y) (h2 : y < 80) : zRow y := by
  rcases (show y = 64 ∨ y = 65 ∨ y = 66 ∨ y = 67 ∨ y = 68 ∨ y = 69 ∨ y = 70 ∨ y = 71 ∨ y = 72 ∨ y = 73 ∨ y = 74 ∨ y = 75 ∨ y = 76 ∨ y = 77 ∨ y = 78 ∨ y = 79 by omega) with rfl | rfl | rfl | rfl | rfl | rfl | rfl | rfl | rfl | rfl | rfl | rfl | rfl | rfl | rfl | rfl
  · exact zr_64
  · exact zr_65
  · exact zr_66
  · exact zr_67
  · exact zr_68
  · exact zr_69
  · exact zr_70
  · exact zr_71
  · exact zr_72
  · exact zr_73
  · exact zr_74
  · exact zr_75
  · exact zr_76
  · exact zr_77
  · exact zr_78
  · exact zr_79
theorem zrows_5 (y : Nat) (h : 80 ≤ y) (h2 : y < 96) : zRow y := by
  rcases (show y = 80 ∨ y = 81 ∨ y = 82 ∨ y = 83 ∨ y = 84 ∨ y = 85 ∨ y = 86 ∨ y = 87 ∨ y = 88 ∨ y = 89 ∨ y = 90 ∨ y = 91 ∨ y = 92 ∨ y = 93 ∨ y = 94 ∨ y = 95 by omega) with rfl | rfl | rfl | rfl | rfl | rfl | rfl | rfl | rfl | rfl | rfl | rfl | rfl | rfl | rfl | rfl
  · exact zr_80
  · exact zr_81
  · exact zr_82
  · exact zr_83
  · exact zr_84
  · exact zr_85
  · exact zr_86
  · exact zr_87
  · exact zr_88
  · exact zr_89
  · exact zr_90
  · exact zr_91
  · exact zr_92
  · exact zr_93
  · exact zr_94
  · exact zr_95
theorem zrows_6 (y : Nat) (h : 96 ≤ y) (h2 : y < 112) : zRow y := by
  rcases (show y = 96 ∨ y = 97 ∨ y = 98 ∨ y = 99 ∨ y = 100 ∨ y = 101 ∨ y = 102 ∨ y = 103 ∨ y = 104 ∨ y = 105 ∨ y = 106 ∨ y = 107 ∨ y = 108 ∨ y = 109 ∨ y = 110 ∨ y = 111 by omega) with rfl | rfl | rfl | rfl | rfl | rfl | rfl | rfl | rfl | rfl | rfl | rfl | rfl | rfl | rfl | rfl
  · exact zr_96
  · exact zr_97
  · exact zr_98
  · exact zr_99
  · exact zr_100
  · exact zr_101
  · exact zr_102
  · exact zr_103
  · exact zr_104
  · exact zr_105
  · exact zr_106
  · exact zr_107
  · exact zr_108
  · exact zr_109
  · exact zr_110
  · exact zr_111
theorem zrows_7 (y : Nat) (h : 112 ≤ y) (h2 : y < 128) : zRow y := by
  rcases (show y = 112 ∨ y = 113 ∨ y = 114 ∨ y = 115 ∨ y = 116 ∨ y = 117 ∨ y = 118 ∨ y = 119 ∨ y = 120 ∨ y = 121 ∨ y = 122 ∨ y = 123 ∨ y = 124 ∨ y = 125 ∨ y = 126 ∨ y = 127 by omega) with rfl | rfl | rfl | rfl | rfl | rfl | rfl | rfl | rfl | rfl | rfl | rfl | rfl | rfl | rfl | rfl
  · exact zr_112
  · exact zr_113
  · exact zr_114
  · exact zr_115
  · exact zr_116
  · exact zr_117
  · exact zr_118
  · exact zr_119
  · exact zr_120
  · exact zr_121
  · exact zr_122
  · exact zr_123
  · exact zr_124
  · exact zr_125
  · exact zr_126
  · exact zr_127
theorem zrows_8 (y : Nat) (h : 128 ≤ y) (h2 : y < 144) : zRow y := by
  rcases (show y = 128 ∨ y = 129 ∨ y = 130 ∨ y = 131 ∨ y = 132 ∨ y = 133 ∨ y = 134 ∨ y = 135 ∨ y = 136 ∨ y = 137 ∨ y = 138 ∨ y = 139 ∨ y = 140 ∨ y = 141 ∨ y = 142 ∨ y = 143 by omega) with rfl | rfl | rfl | rfl | rfl | rfl | rfl | rfl | rfl | rfl | rfl | rfl | rfl | rfl | rfl | rfl
  · exact zr_128
  · exact zr_129
  · exact zr_130
  · exact zr_131
  · exact zr_132
  · exact zr_133
  · exact zr_134
  · exact zr_135
  · exact zr_136
  · exact zr_137
  · exact zr_138
  · exact zr_139
  · exact zr_140
  · exact zr_141
  · exact zr_142
  · exact zr_143
theorem zrows_9 (y : Nat) (h : 144 ≤ y) (h2 : y < 160) : zRow y := by
  rcases (show y = 144 ∨ y = 145 ∨ y = 146 ∨ y = 147 ∨ y = 148 ∨ y = 149 ∨ y = 150 ∨ y = 151 ∨ y = 152 ∨ y = 153 ∨ y = 154 ∨ y = 155 ∨ y = 156 ∨ y = 157 ∨ y = 158 ∨ y = 159 by omega) with rfl | rfl | rfl | rfl | rfl | rfl | rfl | rfl | rfl | rfl | rfl | rfl | rfl | rfl | rfl | rfl
  · exact zr_144
  · exact zr_145
  · exact zr_146
  · exact zr_147
  · exact zr_148
  · exact zr_149
  · exact zr_150
  · exact zr_151
  · exact zr_152
  · exact zr_153
  · exact zr_154
  · exact zr_155
  · exact zr_156
  · exact zr_157
  · exact zr_158
  · exact zr_159
theorem zrows_10 (y : Nat) (h : 160 ≤ y) (h2 : y < 176) : zRow y := by
  rcases (show y = 160 ∨ y = 161 ∨ y = 162 ∨ y = 163 ∨ y = 164 ∨ y = 165 ∨ y = 166 ∨ y = 167 ∨ y = 168 ∨ y = 169 ∨ y = 170 ∨ y = 171 ∨ y = 172 ∨ y = 173 ∨ y = 174 ∨ y = 175 by omega) with rfl | rfl | rfl | rfl | rfl | rfl | rfl | rfl | rfl | rfl | rfl | rfl | rfl | rfl | rfl | rfl
  · exact zr_160
  · exact zr_161
  · exact zr_162
  · exact zr_163
  · exact zr_164
  · exact zr_165
  · exact zr_166
  · exact zr_167
  · exact zr_168
  · exact zr_169
  · exact zr_170
  · exact zr_171
  · exact zr_172
  · exact zr_173
  · exact zr_174
  · exact zr_175
theorem zrows_11 (y : Nat) (h : 176 ≤ y) (h2 : y < 192) : zRow y := by
  rcases (show y = 176 ∨ y = 177 ∨ y = 178 ∨ y = 179 ∨ y = 180 ∨ y = 181 ∨ y = 182 ∨ y = 183 ∨ y = 184 ∨ y = 185 ∨ y = 186 ∨ y = 187 ∨ y = 188 ∨ y = 189 ∨ y = 190 ∨ y = 191 by omega) with rfl | rfl | rfl | rfl | rfl | rfl | rfl | rfl | rfl | rfl | rfl | rfl | rfl | rfl | rfl | rfl
  · exact zr_176
  · exact zr_177
  · exact zr_178
  · exact zr_179
  · exact zr_180
  · exact zr_181
  · exact zr_182
  · exact zr_183
  · exact zr_184
  · exact zr_185
  · exact zr_186
  · exact zr_187
  · exact zr_188
  · exact zr_189
  · exact zr_190
  · exact zr_191
theorem zrows_12 (y : Nat) (h : 192 ≤ y) (h2 : y < 208) : zRow y := by
  rcases (show y = 192 ∨ y = 193 ∨ y = 194 ∨ y = 195 ∨ y = 196 ∨ y = 197 ∨ y = 198 ∨ y = 199 ∨ y = 200 ∨ y = 201 ∨ y = 202 ∨ y = 203 ∨ y = 204 ∨ y = 205 ∨ y = 206 ∨ y = 207 by omega) with rfl | rfl | rfl | rfl | rfl | rfl | rfl | rfl | rfl | rfl | rfl | rfl | rfl | rfl | rfl | rfl
  · exact zr_192
  · exact zr_193
  · exact zr_194
  · exact zr_195
  · exact zr_196
  · exact zr_197
  · exact zr_198
  · exact zr_199
  · exact zr_200
  · exact zr_201
  · exact zr_202
  · exact zr_203
  · exact zr_204
  · exact zr_205
  · exact zr_206
  · exact zr_207
theorem zrows_13 (y : Nat) (h : 208 ≤ y) (h2 : y < 224) : zRow y := by
  rcases (show y = 208 ∨ y = 209 ∨ y = 210 ∨ y = 211 ∨ y = 212 ∨ y = 213 ∨ y = 214 ∨ y = 215 ∨ y = 216 ∨ y = 217 ∨ y = 218 ∨ y = 219 ∨ y = 220 ∨ y = 221 ∨ y = 222 ∨ y = 223 by omega) with rfl | rfl | rfl | rfl | rfl | rfl | rfl | rfl | rfl | rfl | rfl | rfl | rfl | rfl | rfl | rfl
  · exact zr_208
  · exact zr_209
  · exact zr_210
  · exact zr_211
  · exact zr_212
  · exact zr_213
  · exact zr_214
  · exact zr_215
  · exact zr_216
  · exact zr_217
  · exact zr_218
  · exact zr_219
  · exact zr_220
  · exact zr_221
  · exact zr_222
  · exact zr_223
theorem zrows_14 (y : Nat) (h : 224 ≤ y) (h2 : y < 240) : zRow y := by
  rcases (show y = 224 ∨ y = 225 ∨ y = 226 ∨ y = 227 ∨ y = 228 ∨ y = 229 ∨ y = 230 ∨ y = 231 ∨ y = 232 ∨ y = 233 ∨ y = 234 ∨ y = 235 ∨ y = 236 ∨ y = 237 ∨ y = 238 ∨ y = 239 by omega) with rfl | rfl | rfl | rfl | rfl | rfl | rfl | rfl | rfl | rfl | rfl | rfl | rfl | rfl | rfl | rfl
  · exact zr_224
  · exact zr_225
  · exact zr_226
  · exact zr_227
  · exact zr_228
  · exact zr_229
  · exact zr_230
  · exact zr_231
  · exact zr_232
  · exact zr_233
  · exact zr_234
  · exact zr_235
  · exact zr_236
  · exact zr_237
  · exact zr_238
  · exact zr_239
theorem zrows_15 (y : Nat) (h : 240 ≤ y) (h2 : y < 256) : zRow y := by
  rcases (show y = 240 ∨ y = 241 ∨ y = 242 ∨ y = 243 ∨ y = 244 ∨ y = 245 ∨ y = 246 ∨ y = 247 ∨ y = 248 ∨ y = 249 ∨ y = 250 ∨ y = 251 ∨ y = 252 ∨ y = 253 ∨ y = 254 ∨ y = 255 by omega) with rfl | rfl | rfl | rfl | rfl | rfl | rfl | rfl | rfl | rfl | rfl | rfl | rfl | rfl | rfl | rfl
  · exact zr_240
  · exact zr_241
  · exact zr_242
  · exact zr_243
  · exact zr_244
  · exact zr_245
  · exact zr_246
  · exact zr_247
  · exact zr_248
  · exact zr_249
  · exact zr_250
  · exact zr_251
  · exact zr_252
  · exact zr_253
  · exact zr_254
  · exact zr_255
theorem zrows_16 (y : Nat) (h : 256 ≤ y) (h2 : y < 272) : zRow y := by
  rcases (show y = 256 ∨ y = 257 ∨ y = 258 ∨ y = 259 ∨ y = 260 ∨ y = 261 ∨ y = 262 ∨ y = 263 ∨ y = 264 ∨ y = 265 ∨ y = 266 ∨ y = 267 ∨ y = 268 ∨ y = 269 ∨ y = 270 ∨ y = 271 by omega) with rfl | rfl | rfl | rfl | rfl | rfl | rfl | rfl | rfl | rfl | rfl | rfl | rfl | rfl | rfl | rfl
  · exact zr_256
  · exact zr_257
  · exact zr_258
  · exact zr_259
  · exact zr_260
  · exact zr_261
  · exact zr_262
  · exact zr_263
  · exact zr_264
  · exact zr_265
  · exact zr_266
  · exact zr_267
  · exact zr_268
  · exact zr_269
  · exact zr_270
  · exact zr_271
theorem zrows_17 (y : Nat) (h : 272 ≤ y) (h2 : y < 288) : zRow y := by
  rcases (show y = 272 ∨ y = 273 ∨ y = 274 ∨ y = 275 ∨ y = 276 ∨ y = 277 ∨ y = 278 ∨ y = 279 ∨ y = 280 ∨ y = 281 ∨ y = 282 ∨ y = 283 ∨ y = 284 ∨ y = 285 ∨ y = 286 ∨ y = 287 by omega) with rfl | rfl | rfl | rfl | rfl | rfl | rfl | rfl | rfl | rfl | rfl | rfl | rfl | rfl | rfl | rfl
  · exact zr_272
  · exact zr_273
  · exact zr_274
  · exact zr_275
  · exact zr_276
  · exact zr_277
  · exact zr_278
  · exact zr_279
  · exact zr_280
  · exact zr_281
  · exact zr_282
  · exact zr_283
  · exact zr_284
  · exact zr_285
  · exact zr_286
  · exact zr_287
theorem zrows_18 (y : Nat) (h : 288 ≤ y) (h2 : y < 289) : zRow y := by
  rcases (show y = 288 by omega) with rfl
  · exact zr_288
theorem zrows (y : Nat) (h : y < 289) : zRow y := by
  by_cases h0 : y < 16
  · exact zrows_0 y (by omega) h0
  by_cases h1 : y < 32
  · exact zrows_1 y (by omega) h1
  by_cases h2 : y < 48
  · exact zrows_2 y (by omega) h2
  by_cases h3 : y < 64
  · exact zrows_3 y (by omega) h3
  by_cases h4 : y < 80
  · exact zrows_4 y (by omega) h4
  by_cases h5 : y < 96
  · exact zrows_5 y (by omega) h5
  by_cases h6 : y < 112
  · exact zrows_6 y (by omega) h6
  by_cases h7 : y < 128
  · exact zrows_7 y (by omega) h7
  by_cases h8 : y < 144
  · exact zrows_8 y (by omega) h8
  by_cases h9 : y < 160
  · exact zrows_9 y (by omega) h9
  by_cases h10 : y < 176
  · exact zrows_10 y (by omega) h10
  by_cases h11 : y < 192
  · exact zrows_11 y (by omega) h11
  by_cases h12 : y < 208
  · exact zrows_12 y (by omega) h12
  by_cases h13 : y < 224
  · exact zrows_13 y (by omega) h13
  by_cases h14 : y < 240
  · exact zrows_14 y (by omega) h14
  by_cases h15 : y < 256
  · exact zrows_15 y (by omega) h15
  by_cases h16 : y < 272
  · exact zrows_16 y (by omega) h16
  by_cases h17 : y < 288
  · exact zrows_17 y (by omega) h17
  exact zrows_18 y (by omega) h
theorem zOK0 : zOK zcl zTs lw_tbl zZs0 zF zty zM zP := by
  refine ⟨fun w hw => (List.mem_filter.mp hw).2, fun ci q h => (zcls_ok ci q h).imp id And.left, ⟨_, rfl, rfl⟩, fun y pc i len K tg h => ?_⟩
  unfold zP at h
  cases hq : (Nat.blt pc 4096 && Nat.blt y 289) with
  | false => rw [hq] at h; cases h
  | true =>
    rw [hq] at h
    simp only [Bool.and_eq_true] at hq
    exact zrows y (Nat.le_of_ble_eq_true hq.2) pc i len K tg (Nat.le_of_ble_eq_true hq.1) h

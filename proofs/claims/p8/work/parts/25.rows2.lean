set_option maxRecDepth 100000 in
theorem zq_160 : zwk zp_160 prog_13_method_8_code 10 1 false none 1 20 64 0 prog_13_method_8_code.data.toList = true := by decide +kernel
theorem zn_160 : ∀ pc, 64 ≤ pc → pc < 4096 → zp_160 pc = none := fun pc h _ => zno2 h
set_option maxRecDepth 100000 in
theorem zr_160 : zRow 160 := zrow_ok (f := zp_160) (N := 64) (kd := 0) rfl (by decide) (fun _ => rfl) zn_160 zq_160
set_option maxRecDepth 100000 in
theorem zq_161 : zwk zp_161 prog_13_method_9_code 10 4 false (some (.int)) 4 85 125 0 prog_13_method_9_code.data.toList = true := by decide +kernel
theorem zn_161 : ∀ pc, 125 ≤ pc → pc < 4096 → zp_161 pc = none := fun pc h _ => zno2 h
set_option maxRecDepth 100000 in
theorem zr_161 : zRow 161 := zrow_ok (f := zp_161) (N := 125) (kd := 0) rfl (by decide) (fun _ => rfl) zn_161 zq_161
set_option maxRecDepth 100000 in
theorem zq_162 : zwk zp_162 prog_13_method_10_code 10 2 false none 0 0 64 0 prog_13_method_10_code.data.toList = true := by decide +kernel
theorem zn_162 : ∀ pc, 64 ≤ pc → pc < 4096 → zp_162 pc = none := fun pc h _ => zno2 h
set_option maxRecDepth 100000 in
theorem zr_162 : zRow 162 := zrow_ok (f := zp_162) (N := 64) (kd := 0) rfl (by decide) (fun _ => rfl) zn_162 zq_162
set_option maxRecDepth 100000 in
theorem zq_163 : zwk zp_163 prog_13_method_11_code 10 2 false none 0 0 22 0 prog_13_method_11_code.data.toList = true := by decide +kernel
theorem zn_163 : ∀ pc, 22 ≤ pc → pc < 4096 → zp_163 pc = none := fun pc h _ => zno2 h
set_option maxRecDepth 100000 in
theorem zr_163 : zRow 163 := zrow_ok (f := zp_163) (N := 22) (kd := 0) rfl (by decide) (fun _ => rfl) zn_163 zq_163
set_option maxRecDepth 100000 in
theorem zq_164 : zwk zp_164 prog_13_method_12_code 10 1 false none 6 129 12 0 prog_13_method_12_code.data.toList = true := by decide +kernel
theorem zn_164 : ∀ pc, 12 ≤ pc → pc < 4096 → zp_164 pc = none := fun pc h _ => zno2 h
set_option maxRecDepth 100000 in
theorem zr_164 : zRow 164 := zrow_ok (f := zp_164) (N := 12) (kd := 0) rfl (by decide) (fun _ => rfl) zn_164 zq_164
set_option maxRecDepth 100000 in
theorem zq_165 : zwk zp_165 prog_13_method_13_code 10 4 false (some (.int)) 1 21 74 0 prog_13_method_13_code.data.toList = true := by decide +kernel
theorem zn_165 : ∀ pc, 74 ≤ pc → pc < 4096 → zp_165 pc = none := fun pc h _ => zno2 h
set_option maxRecDepth 100000 in
theorem zr_165 : zRow 165 := zrow_ok (f := zp_165) (N := 74) (kd := 0) rfl (by decide) (fun _ => rfl) zn_165 zq_165
set_option maxRecDepth 100000 in
theorem zq_166 : zwk zp_166 prog_13_method_14_code 10 4 false (some (.int)) 7 149 14 0 prog_13_method_14_code.data.toList = true := by decide +kernel
theorem zn_166 : ∀ pc, 14 ≤ pc → pc < 4096 → zp_166 pc = none := fun pc h _ => zno2 h
set_option maxRecDepth 100000 in
theorem zr_166 : zRow 166 := zrow_ok (f := zp_166) (N := 14) (kd := 0) rfl (by decide) (fun _ => rfl) zn_166 zq_166
set_option maxRecDepth 100000 in
theorem zq_167 : zwk zp_167 prog_13_method_15_code 10 1 false (some (.int)) 0 0 21 0 prog_13_method_15_code.data.toList = true := by decide +kernel
theorem zn_167 : ∀ pc, 21 ≤ pc → pc < 4096 → zp_167 pc = none := fun pc h _ => zno2 h
set_option maxRecDepth 100000 in
theorem zr_167 : zRow 167 := zrow_ok (f := zp_167) (N := 21) (kd := 1) rfl (by decide) (fun _ => rfl) zn_167 zq_167
set_option maxRecDepth 100000 in
theorem zq_168 : zwk zp_168 prog_13_method_16_code 10 1 false (some (.int)) 0 0 22 0 prog_13_method_16_code.data.toList = true := by decide +kernel
theorem zn_168 : ∀ pc, 22 ≤ pc → pc < 4096 → zp_168 pc = none := fun pc h _ => zno2 h
set_option maxRecDepth 100000 in
theorem zr_168 : zRow 168 := zrow_ok (f := zp_168) (N := 22) (kd := 1) rfl (by decide) (fun _ => rfl) zn_168 zq_168
set_option maxRecDepth 100000 in
theorem zq_169 : zwk zp_169 prog_13_method_17_code 10 2 false (some (.int)) 0 0 10 0 prog_13_method_17_code.data.toList = true := by decide +kernel
theorem zn_169 : ∀ pc, 10 ≤ pc → pc < 4096 → zp_169 pc = none := fun pc h _ => zno2 h
set_option maxRecDepth 100000 in
theorem zr_169 : zRow 169 := zrow_ok (f := zp_169) (N := 10) (kd := 0) rfl (by decide) (fun _ => rfl) zn_169 zq_169
set_option maxRecDepth 100000 in
theorem zq_170 : zwk zp_170 prog_13_method_18_code 10 3 false none 0 0 11 0 prog_13_method_18_code.data.toList = true := by decide +kernel
theorem zn_170 : ∀ pc, 11 ≤ pc → pc < 4096 → zp_170 pc = none := fun pc h _ => zno2 h
set_option maxRecDepth 100000 in
theorem zr_170 : zRow 170 := zrow_ok (f := zp_170) (N := 11) (kd := 0) rfl (by decide) (fun _ => rfl) zn_170 zq_170
set_option maxRecDepth 100000 in
theorem zq_171 : zwk zp_171 prog_13_method_19_code 10 2 false none 7 149 26 0 prog_13_method_19_code.data.toList = true := by decide +kernel
theorem zn_171 : ∀ pc, 26 ≤ pc → pc < 4096 → zp_171 pc = none := fun pc h _ => zno2 h
set_option maxRecDepth 100000 in
theorem zr_171 : zRow 171 := zrow_ok (f := zp_171) (N := 26) (kd := 0) rfl (by decide) (fun _ => rfl) zn_171 zq_171
set_option maxRecDepth 100000 in
theorem zq_172 : zwk zp_172 prog_13_method_20_code 10 4 false none 7 149 37 0 prog_13_method_20_code.data.toList = true := by decide +kernel
theorem zn_172 : ∀ pc, 37 ≤ pc → pc < 4096 → zp_172 pc = none := fun pc h _ => zno2 h
set_option maxRecDepth 100000 in
theorem zr_172 : zRow 172 := zrow_ok (f := zp_172) (N := 37) (kd := 0) rfl (by decide) (fun _ => rfl) zn_172 zq_172
set_option maxRecDepth 100000 in
theorem zq_173 : zwk zp_173 prog_13_method_21_code 10 3 false (some (.int)) 7 149 47 0 prog_13_method_21_code.data.toList = true := by decide +kernel
theorem zn_173 : ∀ pc, 47 ≤ pc → pc < 4096 → zp_173 pc = none := fun pc h _ => zno2 h
set_option maxRecDepth 100000 in
theorem zr_173 : zRow 173 := zrow_ok (f := zp_173) (N := 47) (kd := 0) rfl (by decide) (fun _ => rfl) zn_173 zq_173
set_option maxRecDepth 100000 in
theorem zq_174 : zwk zp_174 prog_13_method_22_code 10 4 false none 8 171 83 0 prog_13_method_22_code.data.toList = true := by decide +kernel
theorem zn_174 : ∀ pc, 83 ≤ pc → pc < 4096 → zp_174 pc = none := fun pc h _ => zno2 h
set_option maxRecDepth 100000 in
theorem zr_174 : zRow 174 := zrow_ok (f := zp_174) (N := 83) (kd := 0) rfl (by decide) (fun _ => rfl) zn_174 zq_174
set_option maxRecDepth 100000 in
theorem zq_175 : zwk zp_175 prog_13_method_23_code 10 2 false none 8 172 26 0 prog_13_method_23_code.data.toList = true := by decide +kernel
theorem zn_175 : ∀ pc, 26 ≤ pc → pc < 4096 → zp_175 pc = none := fun pc h _ => zno2 h
set_option maxRecDepth 100000 in
theorem zr_175 : zRow 175 := zrow_ok (f := zp_175) (N := 26) (kd := 0) rfl (by decide) (fun _ => rfl) zn_175 zq_175
set_option maxRecDepth 100000 in
theorem zq_176 : zwk zp_176 prog_13_method_24_code 10 5 false (some (.int)) 0 0 33 0 prog_13_method_24_code.data.toList = true := by decide +kernel
theorem zn_176 : ∀ pc, 33 ≤ pc → pc < 4096 → zp_176 pc = none := fun pc h _ => zno2 h
set_option maxRecDepth 100000 in
theorem zr_176 : zRow 176 := zrow_ok (f := zp_176) (N := 33) (kd := 0) rfl (by decide) (fun _ => rfl) zn_176 zq_176
set_option maxRecDepth 100000 in
theorem zq_177 : zwk zp_177 prog_13_method_25_code 10 2 false none 8 172 123 0 prog_13_method_25_code.data.toList = true := by decide +kernel
theorem zn_177 : ∀ pc, 123 ≤ pc → pc < 4096 → zp_177 pc = none := fun pc h _ => zno2 h
set_option maxRecDepth 100000 in
theorem zr_177 : zRow 177 := zrow_ok (f := zp_177) (N := 123) (kd := 0) rfl (by decide) (fun _ => rfl) zn_177 zq_177
set_option maxRecDepth 100000 in
theorem zq_178 : zwk zp_178 prog_13_method_26_code 10 2 false none 7 149 120 0 prog_13_method_26_code.data.toList = true := by decide +kernel
theorem zn_178 : ∀ pc, 120 ≤ pc → pc < 4096 → zp_178 pc = none := fun pc h _ => zno2 h
set_option maxRecDepth 100000 in
theorem zr_178 : zRow 178 := zrow_ok (f := zp_178) (N := 120) (kd := 0) rfl (by decide) (fun _ => rfl) zn_178 zq_178
set_option maxRecDepth 100000 in
theorem zq_179 : zwk zp_179 prog_13_method_27_code 10 5 false none 8 172 18 0 prog_13_method_27_code.data.toList = true := by decide +kernel
theorem zn_179 : ∀ pc, 18 ≤ pc → pc < 4096 → zp_179 pc = none := fun pc h _ => zno2 h
set_option maxRecDepth 100000 in
theorem zr_179 : zRow 179 := zrow_ok (f := zp_179) (N := 18) (kd := 0) rfl (by decide) (fun _ => rfl) zn_179 zq_179
set_option maxRecDepth 100000 in
theorem zq_180 : zwk zp_180 prog_13_method_28_code 10 1 false none 9 196 217 0 prog_13_method_28_code.data.toList = true := by decide +kernel
theorem zn_180 : ∀ pc, 217 ≤ pc → pc < 4096 → zp_180 pc = none := fun pc h _ => zno2 h
set_option maxRecDepth 100000 in
theorem zr_180 : zRow 180 := zrow_ok (f := zp_180) (N := 217) (kd := 0) rfl (by decide) (fun _ => rfl) zn_180 zq_180
set_option maxRecDepth 100000 in
theorem zq_181 : zwk zp_181 prog_13_method_29_code 10 1 false none 8 172 17 0 prog_13_method_29_code.data.toList = true := by decide +kernel
theorem zn_181 : ∀ pc, 17 ≤ pc → pc < 4096 → zp_181 pc = none := fun pc h _ => zno2 h
set_option maxRecDepth 100000 in
theorem zr_181 : zRow 181 := zrow_ok (f := zp_181) (N := 17) (kd := 0) rfl (by decide) (fun _ => rfl) zn_181 zq_181
set_option maxRecDepth 100000 in
theorem zq_182 : zwk zp_182 prog_13_method_30_code 10 2 false none 1 22 142 0 prog_13_method_30_code.data.toList = true := by decide +kernel
theorem zn_182 : ∀ pc, 142 ≤ pc → pc < 4096 → zp_182 pc = none := fun pc h _ => zno2 h
set_option maxRecDepth 100000 in
theorem zr_182 : zRow 182 := zrow_ok (f := zp_182) (N := 142) (kd := 0) rfl (by decide) (fun _ => rfl) zn_182 zq_182
set_option maxRecDepth 100000 in
theorem zq_183 : zwk zp_183 prog_13_method_31_code 10 2 false none 10 216 51 0 prog_13_method_31_code.data.toList = true := by decide +kernel
theorem zn_183 : ∀ pc, 51 ≤ pc → pc < 4096 → zp_183 pc = none := fun pc h _ => zno2 h
set_option maxRecDepth 100000 in
theorem zr_183 : zRow 183 := zrow_ok (f := zp_183) (N := 51) (kd := 0) rfl (by decide) (fun _ => rfl) zn_183 zq_183
set_option maxRecDepth 100000 in
theorem zq_184 : zwk zp_184 prog_13_method_32_code 10 2 false none 1 21 208 0 prog_13_method_32_code.data.toList = true := by decide +kernel
theorem zn_184 : ∀ pc, 208 ≤ pc → pc < 4096 → zp_184 pc = none := fun pc h _ => zno2 h
set_option maxRecDepth 100000 in
theorem zr_184 : zRow 184 := zrow_ok (f := zp_184) (N := 208) (kd := 0) rfl (by decide) (fun _ => rfl) zn_184 zq_184
set_option maxRecDepth 100000 in
theorem zq_185 : zwk zp_185 prog_13_method_33_code 10 2 false (some (.int)) 11 237 79 0 prog_13_method_33_code.data.toList = true := by decide +kernel
theorem zn_185 : ∀ pc, 79 ≤ pc → pc < 4096 → zp_185 pc = none := fun pc h _ => zno2 h
set_option maxRecDepth 100000 in
theorem zr_185 : zRow 185 := zrow_ok (f := zp_185) (N := 79) (kd := 0) rfl (by decide) (fun _ => rfl) zn_185 zq_185
set_option maxRecDepth 100000 in
theorem zq_186 : zwk zp_186 prog_13_method_34_code 10 2 false (some (.int)) 0 0 30 0 prog_13_method_34_code.data.toList = true := by decide +kernel
theorem zn_186 : ∀ pc, 30 ≤ pc → pc < 4096 → zp_186 pc = none := fun pc h _ => zno2 h
set_option maxRecDepth 100000 in
theorem zr_186 : zRow 186 := zrow_ok (f := zp_186) (N := 30) (kd := 0) rfl (by decide) (fun _ => rfl) zn_186 zq_186
set_option maxRecDepth 100000 in
theorem zq_187 : zwk zp_187 prog_13_method_35_code 10 2 false (some (.int)) 1 24 18 0 prog_13_method_35_code.data.toList = true := by decide +kernel
theorem zn_187 : ∀ pc, 18 ≤ pc → pc < 4096 → zp_187 pc = none := fun pc h _ => zno2 h
set_option maxRecDepth 100000 in
theorem zr_187 : zRow 187 := zrow_ok (f := zp_187) (N := 18) (kd := 0) rfl (by decide) (fun _ => rfl) zn_187 zq_187
set_option maxRecDepth 100000 in
theorem zq_188 : zwk zp_188 prog_13_method_36_code 10 2 false none 5 115 50 0 prog_13_method_36_code.data.toList = true := by decide +kernel
theorem zn_188 : ∀ pc, 50 ≤ pc → pc < 4096 → zp_188 pc = none := fun pc h _ => zno2 h
set_option maxRecDepth 100000 in
theorem zr_188 : zRow 188 := zrow_ok (f := zp_188) (N := 50) (kd := 0) rfl (by decide) (fun _ => rfl) zn_188 zq_188
set_option maxRecDepth 100000 in
theorem zq_189 : zwk zp_189 prog_13_method_37_code 10 3 false none 0 0 52 0 prog_13_method_37_code.data.toList = true := by decide +kernel
theorem zn_189 : ∀ pc, 52 ≤ pc → pc < 4096 → zp_189 pc = none := fun pc h _ => zno2 h
set_option maxRecDepth 100000 in
theorem zr_189 : zRow 189 := zrow_ok (f := zp_189) (N := 52) (kd := 0) rfl (by decide) (fun _ => rfl) zn_189 zq_189
set_option maxRecDepth 100000 in
theorem zq_190 : zwk zp_190 prog_13_method_38_code 10 3 false none 1 20 56 0 prog_13_method_38_code.data.toList = true := by decide +kernel
theorem zn_190 : ∀ pc, 56 ≤ pc → pc < 4096 → zp_190 pc = none := fun pc h _ => zno2 h
set_option maxRecDepth 100000 in
theorem zr_190 : zRow 190 := zrow_ok (f := zp_190) (N := 56) (kd := 0) rfl (by decide) (fun _ => rfl) zn_190 zq_190
set_option maxRecDepth 100000 in
theorem zq_191 : zwk zp_191 prog_13_method_39_code 10 2 false none 1 22 68 0 prog_13_method_39_code.data.toList = true := by decide +kernel
theorem zn_191 : ∀ pc, 68 ≤ pc → pc < 4096 → zp_191 pc = none := fun pc h _ => zno2 h
set_option maxRecDepth 100000 in
theorem zr_191 : zRow 191 := zrow_ok (f := zp_191) (N := 68) (kd := 0) rfl (by decide) (fun _ => rfl) zn_191 zq_191
set_option maxRecDepth 100000 in
theorem zq_192 : zwk zp_192 prog_13_method_40_code 10 1 false (some (.int)) 2 42 37 0 prog_13_method_40_code.data.toList = true := by decide +kernel
theorem zn_192 : ∀ pc, 37 ≤ pc → pc < 4096 → zp_192 pc = none := fun pc h _ => zno2 h
set_option maxRecDepth 100000 in
theorem zr_192 : zRow 192 := zrow_ok (f := zp_192) (N := 37) (kd := 0) rfl (by decide) (fun _ => rfl) zn_192 zq_192
set_option maxRecDepth 100000 in
theorem zq_193 : zwk zp_193 prog_13_method_41_code 10 1 false (some (.boolean)) 1 22 18 0 prog_13_method_41_code.data.toList = true := by decide +kernel
theorem zn_193 : ∀ pc, 18 ≤ pc → pc < 4096 → zp_193 pc = none := fun pc h _ => zno2 h
set_option maxRecDepth 100000 in
theorem zr_193 : zRow 193 := zrow_ok (f := zp_193) (N := 18) (kd := 0) rfl (by decide) (fun _ => rfl) zn_193 zq_193
set_option maxRecDepth 100000 in
theorem zq_194 : zwk zp_194 prog_13_method_42_code 10 1 false (some (.boolean)) 2 42 27 0 prog_13_method_42_code.data.toList = true := by decide +kernel
theorem zn_194 : ∀ pc, 27 ≤ pc → pc < 4096 → zp_194 pc = none := fun pc h _ => zno2 h
set_option maxRecDepth 100000 in
theorem zr_194 : zRow 194 := zrow_ok (f := zp_194) (N := 27) (kd := 0) rfl (by decide) (fun _ => rfl) zn_194 zq_194
set_option maxRecDepth 100000 in
theorem zq_195 : zwk zp_195 prog_13_method_43_code 10 2 false (some (.int)) 0 0 40 0 prog_13_method_43_code.data.toList = true := by decide +kernel
theorem zn_195 : ∀ pc, 40 ≤ pc → pc < 4096 → zp_195 pc = none := fun pc h _ => zno2 h
set_option maxRecDepth 100000 in
theorem zr_195 : zRow 195 := zrow_ok (f := zp_195) (N := 40) (kd := 1) rfl (by decide) (fun _ => rfl) zn_195 zq_195
set_option maxRecDepth 100000 in
theorem zq_196 : zwk zp_196 prog_13_method_44_code 10 1 false (some (.int)) 1 21 8 0 prog_13_method_44_code.data.toList = true := by decide +kernel
theorem zn_196 : ∀ pc, 8 ≤ pc → pc < 4096 → zp_196 pc = none := fun pc h _ => zno2 h
set_option maxRecDepth 100000 in
theorem zr_196 : zRow 196 := zrow_ok (f := zp_196) (N := 8) (kd := 1) rfl (by decide) (fun _ => rfl) zn_196 zq_196
set_option maxRecDepth 100000 in
theorem zq_197 : zwk zp_197 prog_13_method_45_code 10 4 false (some (.int)) 1 21 29 0 prog_13_method_45_code.data.toList = true := by decide +kernel
theorem zn_197 : ∀ pc, 29 ≤ pc → pc < 4096 → zp_197 pc = none := fun pc h _ => zno2 h
set_option maxRecDepth 100000 in
theorem zr_197 : zRow 197 := zrow_ok (f := zp_197) (N := 29) (kd := 0) rfl (by decide) (fun _ => rfl) zn_197 zq_197
set_option maxRecDepth 100000 in
theorem zq_198 : zwk zp_198 prog_13_method_46_code 10 4 false (some (.int)) 2 41 40 0 prog_13_method_46_code.data.toList = true := by decide +kernel
theorem zn_198 : ∀ pc, 40 ≤ pc → pc < 4096 → zp_198 pc = none := fun pc h _ => zno2 h
set_option maxRecDepth 100000 in
theorem zr_198 : zRow 198 := zrow_ok (f := zp_198) (N := 40) (kd := 0) rfl (by decide) (fun _ => rfl) zn_198 zq_198
set_option maxRecDepth 100000 in
theorem zq_199 : zwk zp_199 prog_13_method_47_code 10 4 false (some (.int)) 2 44 30 0 prog_13_method_47_code.data.toList = true := by decide +kernel
theorem zn_199 : ∀ pc, 30 ≤ pc → pc < 4096 → zp_199 pc = none := fun pc h _ => zno2 h
set_option maxRecDepth 100000 in
theorem zr_199 : zRow 199 := zrow_ok (f := zp_199) (N := 30) (kd := 0) rfl (by decide) (fun _ => rfl) zn_199 zq_199
set_option maxRecDepth 100000 in
theorem zq_200 : zwk zp_200 prog_13_method_48_code 10 6 false none 3 67 131 0 prog_13_method_48_code.data.toList = true := by decide +kernel
theorem zn_200 : ∀ pc, 131 ≤ pc → pc < 4096 → zp_200 pc = none := fun pc h _ => zno2 h
set_option maxRecDepth 100000 in
theorem zr_200 : zRow 200 := zrow_ok (f := zp_200) (N := 131) (kd := 0) rfl (by decide) (fun _ => rfl) zn_200 zq_200
set_option maxRecDepth 100000 in
theorem zq_201 : zwk zp_201 prog_13_method_49_code 10 4 false none 4 92 33 0 prog_13_method_49_code.data.toList = true := by decide +kernel
theorem zn_201 : ∀ pc, 33 ≤ pc → pc < 4096 → zp_201 pc = none := fun pc h _ => zno2 h
set_option maxRecDepth 100000 in
theorem zr_201 : zRow 201 := zrow_ok (f := zp_201) (N := 33) (kd := 0) rfl (by decide) (fun _ => rfl) zn_201 zq_201
set_option maxRecDepth 100000 in
theorem zq_202 : zwk zp_202 prog_13_method_50_code 10 1 false (some (.int)) 0 0 18 0 prog_13_method_50_code.data.toList = true := by decide +kernel
theorem zn_202 : ∀ pc, 18 ≤ pc → pc < 4096 → zp_202 pc = none := fun pc h _ => zno2 h
set_option maxRecDepth 100000 in
theorem zr_202 : zRow 202 := zrow_ok (f := zp_202) (N := 18) (kd := 1) rfl (by decide) (fun _ => rfl) zn_202 zq_202
set_option maxRecDepth 100000 in
theorem zq_203 : zwk zp_203 prog_13_method_51_code 10 1 false (some (.int)) 0 0 11 0 prog_13_method_51_code.data.toList = true := by decide +kernel
theorem zn_203 : ∀ pc, 11 ≤ pc → pc < 4096 → zp_203 pc = none := fun pc h _ => zno2 h
set_option maxRecDepth 100000 in
theorem zr_203 : zRow 203 := zrow_ok (f := zp_203) (N := 11) (kd := 1) rfl (by decide) (fun _ => rfl) zn_203 zq_203
set_option maxRecDepth 100000 in
theorem zq_204 : zwk zp_204 prog_13_method_52_code 10 2 false (some (.int)) 2 41 12 0 prog_13_method_52_code.data.toList = true := by decide +kernel
theorem zn_204 : ∀ pc, 12 ≤ pc → pc < 4096 → zp_204 pc = none := fun pc h _ => zno2 h
set_option maxRecDepth 100000 in
theorem zr_204 : zRow 204 := zrow_ok (f := zp_204) (N := 12) (kd := 1) rfl (by decide) (fun _ => rfl) zn_204 zq_204
set_option maxRecDepth 100000 in
theorem zq_205 : zwk zp_205 prog_13_method_53_code 10 2 false (some (.int)) 2 41 12 0 prog_13_method_53_code.data.toList = true := by decide +kernel
theorem zn_205 : ∀ pc, 12 ≤ pc → pc < 4096 → zp_205 pc = none := fun pc h _ => zno2 h
set_option maxRecDepth 100000 in
theorem zr_205 : zRow 205 := zrow_ok (f := zp_205) (N := 12) (kd := 1) rfl (by decide) (fun _ => rfl) zn_205 zq_205
set_option maxRecDepth 100000 in
theorem zq_206 : zwk zp_206 prog_13_method_54_code 10 2 false (some (.int)) 2 41 25 0 prog_13_method_54_code.data.toList = true := by decide +kernel
theorem zn_206 : ∀ pc, 25 ≤ pc → pc < 4096 → zp_206 pc = none := fun pc h _ => zno2 h
set_option maxRecDepth 100000 in
theorem zr_206 : zRow 206 := zrow_ok (f := zp_206) (N := 25) (kd := 1) rfl (by decide) (fun _ => rfl) zn_206 zq_206
set_option maxRecDepth 100000 in
theorem zq_207 : zwk zp_207 prog_13_method_55_code 10 3 false (some (.boolean)) 0 0 26 0 prog_13_method_55_code.data.toList = true := by decide +kernel
theorem zn_207 : ∀ pc, 26 ≤ pc → pc < 4096 → zp_207 pc = none := fun pc h _ => zno2 h
set_option maxRecDepth 100000 in
theorem zr_207 : zRow 207 := zrow_ok (f := zp_207) (N := 26) (kd := 0) rfl (by decide) (fun _ => rfl) zn_207 zq_207
set_option maxRecDepth 100000 in
theorem zq_208 : zwk zp_208 prog_13_method_56_code 10 1 false (some (.boolean)) 0 0 16 0 prog_13_method_56_code.data.toList = true := by decide +kernel
theorem zn_208 : ∀ pc, 16 ≤ pc → pc < 4096 → zp_208 pc = none := fun pc h _ => zno2 h
set_option maxRecDepth 100000 in
theorem zr_208 : zRow 208 := zrow_ok (f := zp_208) (N := 16) (kd := 1) rfl (by decide) (fun _ => rfl) zn_208 zq_208
set_option maxRecDepth 100000 in
theorem zq_209 : zwk zp_209 prog_13_method_57_code 10 2 false (some (.boolean)) 0 0 20 0 prog_13_method_57_code.data.toList = true := by decide +kernel
theorem zn_209 : ∀ pc, 20 ≤ pc → pc < 4096 → zp_209 pc = none := fun pc h _ => zno2 h
set_option maxRecDepth 100000 in
theorem zr_209 : zRow 209 := zrow_ok (f := zp_209) (N := 20) (kd := 0) rfl (by decide) (fun _ => rfl) zn_209 zq_209
set_option maxRecDepth 100000 in
theorem zq_210 : zwk zp_210 prog_13_method_58_code 10 3 false (some (.int)) 1 20 83 0 prog_13_method_58_code.data.toList = true := by decide +kernel
theorem zn_210 : ∀ pc, 83 ≤ pc → pc < 4096 → zp_210 pc = none := fun pc h _ => zno2 h
set_option maxRecDepth 100000 in
theorem zr_210 : zRow 210 := zrow_ok (f := zp_210) (N := 83) (kd := 0) rfl (by decide) (fun _ => rfl) zn_210 zq_210
set_option maxRecDepth 100000 in
theorem zq_211 : zwk zp_211 prog_13_method_59_code 10 3 false (some (.int)) 1 21 36 0 prog_13_method_59_code.data.toList = true := by decide +kernel
theorem zn_211 : ∀ pc, 36 ≤ pc → pc < 4096 → zp_211 pc = none := fun pc h _ => zno2 h
set_option maxRecDepth 100000 in
theorem zr_211 : zRow 211 := zrow_ok (f := zp_211) (N := 36) (kd := 0) rfl (by decide) (fun _ => rfl) zn_211 zq_211
set_option maxRecDepth 100000 in
theorem zq_212 : zwk zp_212 prog_13_method_60_code 10 3 false (some (.boolean)) 2 43 40 0 prog_13_method_60_code.data.toList = true := by decide +kernel
theorem zn_212 : ∀ pc, 40 ≤ pc → pc < 4096 → zp_212 pc = none := fun pc h _ => zno2 h
set_option maxRecDepth 100000 in
theorem zr_212 : zRow 212 := zrow_ok (f := zp_212) (N := 40) (kd := 0) rfl (by decide) (fun _ => rfl) zn_212 zq_212
set_option maxRecDepth 100000 in
theorem zq_213 : zwk zp_213 prog_13_method_61_code 10 2 false (some (.long)) 4 92 55 0 prog_13_method_61_code.data.toList = true := by decide +kernel
theorem zn_213 : ∀ pc, 55 ≤ pc → pc < 4096 → zp_213 pc = none := fun pc h _ => zno2 h
set_option maxRecDepth 100000 in
theorem zr_213 : zRow 213 := zrow_ok (f := zp_213) (N := 55) (kd := 0) rfl (by decide) (fun _ => rfl) zn_213 zq_213
set_option maxRecDepth 100000 in
theorem zq_214 : zwk zp_214 prog_13_method_62_code 10 3 false (some (.int)) 1 22 40 0 prog_13_method_62_code.data.toList = true := by decide +kernel
theorem zn_214 : ∀ pc, 40 ≤ pc → pc < 4096 → zp_214 pc = none := fun pc h _ => zno2 h
set_option maxRecDepth 100000 in
theorem zr_214 : zRow 214 := zrow_ok (f := zp_214) (N := 40) (kd := 0) rfl (by decide) (fun _ => rfl) zn_214 zq_214
set_option maxRecDepth 100000 in
theorem zq_215 : zwk zp_215 prog_13_method_63_code 10 2 false (some (.int)) 3 62 67 0 prog_13_method_63_code.data.toList = true := by decide +kernel
theorem zn_215 : ∀ pc, 67 ≤ pc → pc < 4096 → zp_215 pc = none := fun pc h _ => zno2 h
set_option maxRecDepth 100000 in
theorem zr_215 : zRow 215 := zrow_ok (f := zp_215) (N := 67) (kd := 0) rfl (by decide) (fun _ => rfl) zn_215 zq_215
set_option maxRecDepth 100000 in
theorem zq_216 : zwk zp_216 prog_13_method_64_code 10 2 false (some (.long)) 0 0 27 0 prog_13_method_64_code.data.toList = true := by decide +kernel
theorem zn_216 : ∀ pc, 27 ≤ pc → pc < 4096 → zp_216 pc = none := fun pc h _ => zno2 h
set_option maxRecDepth 100000 in
theorem zr_216 : zRow 216 := zrow_ok (f := zp_216) (N := 27) (kd := 0) rfl (by decide) (fun _ => rfl) zn_216 zq_216
set_option maxRecDepth 100000 in
theorem zq_217 : zwk zp_217 prog_13_method_65_code 10 2 false (some (.boolean)) 5 115 60 0 prog_13_method_65_code.data.toList = true := by decide +kernel
theorem zn_217 : ∀ pc, 60 ≤ pc → pc < 4096 → zp_217 pc = none := fun pc h _ => zno2 h
set_option maxRecDepth 100000 in
theorem zr_217 : zRow 217 := zrow_ok (f := zp_217) (N := 60) (kd := 0) rfl (by decide) (fun _ => rfl) zn_217 zq_217
set_option maxRecDepth 100000 in
theorem zq_218 : zwk zp_218 prog_13_method_66_code 10 6 false (some (.boolean)) 2 43 73 0 prog_13_method_66_code.data.toList = true := by decide +kernel
theorem zn_218 : ∀ pc, 73 ≤ pc → pc < 4096 → zp_218 pc = none := fun pc h _ => zno2 h
set_option maxRecDepth 100000 in
theorem zr_218 : zRow 218 := zrow_ok (f := zp_218) (N := 73) (kd := 0) rfl (by decide) (fun _ => rfl) zn_218 zq_218
set_option maxRecDepth 100000 in
theorem zq_219 : zwk zp_219 prog_13_method_67_code 10 4 false (some (.long)) 0 0 48 0 prog_13_method_67_code.data.toList = true := by decide +kernel
theorem zn_219 : ∀ pc, 48 ≤ pc → pc < 4096 → zp_219 pc = none := fun pc h _ => zno2 h
set_option maxRecDepth 100000 in
theorem zr_219 : zRow 219 := zrow_ok (f := zp_219) (N := 48) (kd := 1) rfl (by decide) (fun _ => rfl) zn_219 zq_219
set_option maxRecDepth 100000 in
theorem zq_220 : zwk zp_220 prog_13_method_68_code 10 6 false (some (.int)) 0 0 49 0 prog_13_method_68_code.data.toList = true := by decide +kernel
theorem zn_220 : ∀ pc, 49 ≤ pc → pc < 4096 → zp_220 pc = none := fun pc h _ => zno2 h
set_option maxRecDepth 100000 in
theorem zr_220 : zRow 220 := zrow_ok (f := zp_220) (N := 49) (kd := 0) rfl (by decide) (fun _ => rfl) zn_220 zq_220
set_option maxRecDepth 100000 in
theorem zq_221 : zwk zp_221 prog_13_method_69_code 10 6 false none 1 25 31 0 prog_13_method_69_code.data.toList = true := by decide +kernel
theorem zn_221 : ∀ pc, 31 ≤ pc → pc < 4096 → zp_221 pc = none := fun pc h _ => zno2 h
set_option maxRecDepth 100000 in
theorem zr_221 : zRow 221 := zrow_ok (f := zp_221) (N := 31) (kd := 0) rfl (by decide) (fun _ => rfl) zn_221 zq_221
set_option maxRecDepth 100000 in
theorem zq_222 : zwk zp_222 prog_13_method_70_code 10 5 false none 0 0 91 0 prog_13_method_70_code.data.toList = true := by decide +kernel
theorem zn_222 : ∀ pc, 91 ≤ pc → pc < 4096 → zp_222 pc = none := fun pc h _ => zno2 h
set_option maxRecDepth 100000 in
theorem zr_222 : zRow 222 := zrow_ok (f := zp_222) (N := 91) (kd := 0) rfl (by decide) (fun _ => rfl) zn_222 zq_222
set_option maxRecDepth 100000 in
theorem zq_223 : zwk zp_223 prog_13_method_71_code 10 3 false none 1 24 71 0 prog_13_method_71_code.data.toList = true := by decide +kernel
theorem zn_223 : ∀ pc, 71 ≤ pc → pc < 4096 → zp_223 pc = none := fun pc h _ => zno2 h
set_option maxRecDepth 100000 in
theorem zr_223 : zRow 223 := zrow_ok (f := zp_223) (N := 71) (kd := 0) rfl (by decide) (fun _ => rfl) zn_223 zq_223
set_option maxRecDepth 100000 in
theorem zq_224 : zwk zp_224 prog_13_method_72_code 10 11 false none 2 46 153 0 prog_13_method_72_code.data.toList = true := by decide +kernel
theorem zn_224 : ∀ pc, 153 ≤ pc → pc < 4096 → zp_224 pc = none := fun pc h _ => zno2 h
set_option maxRecDepth 100000 in
theorem zr_224 : zRow 224 := zrow_ok (f := zp_224) (N := 153) (kd := 0) rfl (by decide) (fun _ => rfl) zn_224 zq_224
set_option maxRecDepth 100000 in
theorem zq_225 : zwk zp_225 prog_13_method_73_code 10 1 false (some (.int)) 0 0 11 0 prog_13_method_73_code.data.toList = true := by decide +kernel
theorem zn_225 : ∀ pc, 11 ≤ pc → pc < 4096 → zp_225 pc = none := fun pc h _ => zno2 h
set_option maxRecDepth 100000 in
theorem zr_225 : zRow 225 := zrow_ok (f := zp_225) (N := 11) (kd := 1) rfl (by decide) (fun _ => rfl) zn_225 zq_225
set_option maxRecDepth 100000 in
theorem zq_226 : zwk zp_226 prog_13_method_74_code 10 10 false none 3 76 314 0 prog_13_method_74_code.data.toList = true := by decide +kernel
theorem zn_226 : ∀ pc, 314 ≤ pc → pc < 4096 → zp_226 pc = none := fun pc h _ => zno2 h
set_option maxRecDepth 100000 in
theorem zr_226 : zRow 226 := zrow_ok (f := zp_226) (N := 314) (kd := 0) rfl (by decide) (fun _ => rfl) zn_226 zq_226
set_option maxRecDepth 100000 in
theorem zq_227 : zwk zp_227 prog_13_method_75_code 10 1 false none 4 105 52 0 prog_13_method_75_code.data.toList = true := by decide +kernel
theorem zn_227 : ∀ pc, 52 ≤ pc → pc < 4096 → zp_227 pc = none := fun pc h _ => zno2 h
set_option maxRecDepth 100000 in
theorem zr_227 : zRow 227 := zrow_ok (f := zp_227) (N := 52) (kd := 0) rfl (by decide) (fun _ => rfl) zn_227 zq_227
set_option maxRecDepth 100000 in
theorem zq_228 : zwk zp_228 prog_13_method_76_code 10 2 false (some (.long)) 0 0 11 0 prog_13_method_76_code.data.toList = true := by decide +kernel
theorem zn_228 : ∀ pc, 11 ≤ pc → pc < 4096 → zp_228 pc = none := fun pc h _ => zno2 h
set_option maxRecDepth 100000 in
theorem zr_228 : zRow 228 := zrow_ok (f := zp_228) (N := 11) (kd := 0) rfl (by decide) (fun _ => rfl) zn_228 zq_228
set_option maxRecDepth 100000 in
theorem zq_229 : zwk zp_229 prog_13_method_77_code 10 1 false (some (.int)) 5 125 14 0 prog_13_method_77_code.data.toList = true := by decide +kernel
theorem zn_229 : ∀ pc, 14 ≤ pc → pc < 4096 → zp_229 pc = none := fun pc h _ => zno2 h
set_option maxRecDepth 100000 in
theorem zr_229 : zRow 229 := zrow_ok (f := zp_229) (N := 14) (kd := 0) rfl (by decide) (fun _ => rfl) zn_229 zq_229
set_option maxRecDepth 100000 in
theorem zq_230 : zwk zp_230 prog_13_method_78_code 10 2 false (some (.boolean)) 5 125 22 0 prog_13_method_78_code.data.toList = true := by decide +kernel
theorem zn_230 : ∀ pc, 22 ≤ pc → pc < 4096 → zp_230 pc = none := fun pc h _ => zno2 h
set_option maxRecDepth 100000 in
theorem zr_230 : zRow 230 := zrow_ok (f := zp_230) (N := 22) (kd := 0) rfl (by decide) (fun _ => rfl) zn_230 zq_230
set_option maxRecDepth 100000 in
theorem zq_231 : zwk zp_231 prog_13_method_79_code 10 3 false (some (.int)) 6 146 36 0 prog_13_method_79_code.data.toList = true := by decide +kernel
theorem zn_231 : ∀ pc, 36 ≤ pc → pc < 4096 → zp_231 pc = none := fun pc h _ => zno2 h
set_option maxRecDepth 100000 in
theorem zr_231 : zRow 231 := zrow_ok (f := zp_231) (N := 36) (kd := 0) rfl (by decide) (fun _ => rfl) zn_231 zq_231
set_option maxRecDepth 100000 in
theorem zq_232 : zwk zp_232 prog_13_method_80_code 10 1 false (some (.int)) 5 125 14 0 prog_13_method_80_code.data.toList = true := by decide +kernel
theorem zn_232 : ∀ pc, 14 ≤ pc → pc < 4096 → zp_232 pc = none := fun pc h _ => zno2 h
set_option maxRecDepth 100000 in
theorem zr_232 : zRow 232 := zrow_ok (f := zp_232) (N := 14) (kd := 0) rfl (by decide) (fun _ => rfl) zn_232 zq_232
set_option maxRecDepth 100000 in
theorem zq_233 : zwk zp_233 prog_13_method_81_code 10 8 false (some (.int)) 1 20 75 0 prog_13_method_81_code.data.toList = true := by decide +kernel
theorem zn_233 : ∀ pc, 75 ≤ pc → pc < 4096 → zp_233 pc = none := fun pc h _ => zno2 h
set_option maxRecDepth 100000 in
theorem zr_233 : zRow 233 := zrow_ok (f := zp_233) (N := 75) (kd := 0) rfl (by decide) (fun _ => rfl) zn_233 zq_233
set_option maxRecDepth 100000 in
theorem zq_234 : zwk zp_234 prog_13_method_82_code 10 5 false (some (.boolean)) 3 62 51 0 prog_13_method_82_code.data.toList = true := by decide +kernel
theorem zn_234 : ∀ pc, 51 ≤ pc → pc < 4096 → zp_234 pc = none := fun pc h _ => zno2 h
set_option maxRecDepth 100000 in
theorem zr_234 : zRow 234 := zrow_ok (f := zp_234) (N := 51) (kd := 0) rfl (by decide) (fun _ => rfl) zn_234 zq_234
set_option maxRecDepth 100000 in
theorem zq_235 : zwk zp_235 prog_13_method_83_code 10 4 false (some (.int)) 0 0 18 0 prog_13_method_83_code.data.toList = true := by decide +kernel
theorem zn_235 : ∀ pc, 18 ≤ pc → pc < 4096 → zp_235 pc = none := fun pc h _ => zno2 h
set_option maxRecDepth 100000 in
theorem zr_235 : zRow 235 := zrow_ok (f := zp_235) (N := 18) (kd := 1) rfl (by decide) (fun _ => rfl) zn_235 zq_235
set_option maxRecDepth 100000 in
theorem zq_236 : zwk zp_236 prog_13_method_84_code 10 3 false (some (.int)) 6 146 127 0 prog_13_method_84_code.data.toList = true := by decide +kernel
theorem zn_236 : ∀ pc, 127 ≤ pc → pc < 4096 → zp_236 pc = none := fun pc h _ => zno2 h
set_option maxRecDepth 100000 in
theorem zr_236 : zRow 236 := zrow_ok (f := zp_236) (N := 127) (kd := 0) rfl (by decide) (fun _ => rfl) zn_236 zq_236
set_option maxRecDepth 100000 in
theorem zq_237 : zwk zp_237 prog_13_method_85_code 10 6 false (some (.int)) 5 125 119 0 prog_13_method_85_code.data.toList = true := by decide +kernel
theorem zn_237 : ∀ pc, 119 ≤ pc → pc < 4096 → zp_237 pc = none := fun pc h _ => zno2 h
set_option maxRecDepth 100000 in
theorem zr_237 : zRow 237 := zrow_ok (f := zp_237) (N := 119) (kd := 0) rfl (by decide) (fun _ => rfl) zn_237 zq_237
set_option maxRecDepth 100000 in
theorem zq_238 : zwk zp_238 prog_13_method_86_code 10 4 false (some (.int)) 5 125 84 0 prog_13_method_86_code.data.toList = true := by decide +kernel
theorem zn_238 : ∀ pc, 84 ≤ pc → pc < 4096 → zp_238 pc = none := fun pc h _ => zno2 h
set_option maxRecDepth 100000 in
theorem zr_238 : zRow 238 := zrow_ok (f := zp_238) (N := 84) (kd := 0) rfl (by decide) (fun _ => rfl) zn_238 zq_238
set_option maxRecDepth 100000 in
theorem zq_239 : zwk zp_239 prog_13_method_87_code 10 2 false (some (.boolean)) 6 146 39 0 prog_13_method_87_code.data.toList = true := by decide +kernel
theorem zn_239 : ∀ pc, 39 ≤ pc → pc < 4096 → zp_239 pc = none := fun pc h _ => zno2 h
set_option maxRecDepth 100000 in
theorem zr_239 : zRow 239 := zrow_ok (f := zp_239) (N := 39) (kd := 0) rfl (by decide) (fun _ => rfl) zn_239 zq_239

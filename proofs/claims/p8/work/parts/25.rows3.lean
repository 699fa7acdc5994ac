set_option maxRecDepth 100000 in
theorem zq_240 : zwk zp_240 prog_13_method_88_code 10 5 false (some (.int)) 2 47 81 0 prog_13_method_88_code.data.toList = true := by decide +kernel
theorem zn_240 : ∀ pc, 81 ≤ pc → pc < 4096 → zp_240 pc = none := fun pc h _ => zno2 h
set_option maxRecDepth 100000 in
theorem zr_240 : zRow 240 := zrow_ok (f := zp_240) (N := 81) (kd := 0) rfl (by decide) (fun _ => rfl) zn_240 zq_240
set_option maxRecDepth 100000 in
theorem zq_241 : zwk zp_241 prog_13_method_89_code 10 5 false (some (.int)) 3 62 109 0 prog_13_method_89_code.data.toList = true := by decide +kernel
theorem zn_241 : ∀ pc, 109 ≤ pc → pc < 4096 → zp_241 pc = none := fun pc h _ => zno2 h
set_option maxRecDepth 100000 in
theorem zr_241 : zRow 241 := zrow_ok (f := zp_241) (N := 109) (kd := 0) rfl (by decide) (fun _ => rfl) zn_241 zq_241
set_option maxRecDepth 100000 in
theorem zq_242 : zwk zp_242 prog_13_method_90_code 10 1 false none 0 0 20 0 prog_13_method_90_code.data.toList = true := by decide +kernel
theorem zn_242 : ∀ pc, 20 ≤ pc → pc < 4096 → zp_242 pc = none := fun pc h _ => zno2 h
set_option maxRecDepth 100000 in
theorem zr_242 : zRow 242 := zrow_ok (f := zp_242) (N := 20) (kd := 0) rfl (by decide) (fun _ => rfl) zn_242 zq_242
set_option maxRecDepth 100000 in
theorem zq_243 : zwk zp_243 prog_13_method_91_code 10 3 false (some (.int)) 4 105 78 0 prog_13_method_91_code.data.toList = true := by decide +kernel
theorem zn_243 : ∀ pc, 78 ≤ pc → pc < 4096 → zp_243 pc = none := fun pc h _ => zno2 h
set_option maxRecDepth 100000 in
theorem zr_243 : zRow 243 := zrow_ok (f := zp_243) (N := 78) (kd := 0) rfl (by decide) (fun _ => rfl) zn_243 zq_243
set_option maxRecDepth 100000 in
theorem zq_244 : zwk zp_244 prog_13_method_92_code 10 1 false (some (.int)) 0 0 8 0 prog_13_method_92_code.data.toList = true := by decide +kernel
theorem zn_244 : ∀ pc, 8 ≤ pc → pc < 4096 → zp_244 pc = none := fun pc h _ => zno2 h
set_option maxRecDepth 100000 in
theorem zr_244 : zRow 244 := zrow_ok (f := zp_244) (N := 8) (kd := 0) rfl (by decide) (fun _ => rfl) zn_244 zq_244
set_option maxRecDepth 100000 in
theorem zq_245 : zwk zp_245 prog_13_method_93_code 10 5 false none 2 50 25 0 prog_13_method_93_code.data.toList = true := by decide +kernel
theorem zn_245 : ∀ pc, 25 ≤ pc → pc < 4096 → zp_245 pc = none := fun pc h _ => zno2 h
set_option maxRecDepth 100000 in
theorem zr_245 : zRow 245 := zrow_ok (f := zp_245) (N := 25) (kd := 0) rfl (by decide) (fun _ => rfl) zn_245 zq_245
set_option maxRecDepth 100000 in
theorem zq_246 : zwk zp_246 prog_13_method_94_code 10 9 false (some (.int)) 4 86 136 0 prog_13_method_94_code.data.toList = true := by decide +kernel
theorem zn_246 : ∀ pc, 136 ≤ pc → pc < 4096 → zp_246 pc = none := fun pc h _ => zno2 h
set_option maxRecDepth 100000 in
theorem zr_246 : zRow 246 := zrow_ok (f := zp_246) (N := 136) (kd := 0) rfl (by decide) (fun _ => rfl) zn_246 zq_246
set_option maxRecDepth 100000 in
theorem zq_247 : zwk zp_247 prog_13_method_95_code 10 5 false none 5 114 97 0 prog_13_method_95_code.data.toList = true := by decide +kernel
theorem zn_247 : ∀ pc, 97 ≤ pc → pc < 4096 → zp_247 pc = none := fun pc h _ => zno2 h
set_option maxRecDepth 100000 in
theorem zr_247 : zRow 247 := zrow_ok (f := zp_247) (N := 97) (kd := 0) rfl (by decide) (fun _ => rfl) zn_247 zq_247
set_option maxRecDepth 100000 in
theorem zq_248 : zwk zp_248 prog_13_method_96_code 10 7 false (some (.int)) 4 86 92 0 prog_13_method_96_code.data.toList = true := by decide +kernel
theorem zn_248 : ∀ pc, 92 ≤ pc → pc < 4096 → zp_248 pc = none := fun pc h _ => zno2 h
set_option maxRecDepth 100000 in
theorem zr_248 : zRow 248 := zrow_ok (f := zp_248) (N := 92) (kd := 0) rfl (by decide) (fun _ => rfl) zn_248 zq_248
set_option maxRecDepth 100000 in
theorem zq_249 : zwk zp_249 prog_13_method_97_code 10 8 false none 6 138 391 0 prog_13_method_97_code.data.toList = true := by decide +kernel
theorem zn_249 : ∀ pc, 391 ≤ pc → pc < 4096 → zp_249 pc = none := fun pc h _ => zno2 h
set_option maxRecDepth 100000 in
theorem zr_249 : zRow 249 := zrow_ok (f := zp_249) (N := 391) (kd := 0) rfl (by decide) (fun _ => rfl) zn_249 zq_249
set_option maxRecDepth 100000 in
theorem zq_250 : zwk zp_250 prog_13_method_98_code 10 2 false (some (.int)) 7 165 28 0 prog_13_method_98_code.data.toList = true := by decide +kernel
theorem zn_250 : ∀ pc, 28 ≤ pc → pc < 4096 → zp_250 pc = none := fun pc h _ => zno2 h
set_option maxRecDepth 100000 in
theorem zr_250 : zRow 250 := zrow_ok (f := zp_250) (N := 28) (kd := 0) rfl (by decide) (fun _ => rfl) zn_250 zq_250
set_option maxRecDepth 100000 in
theorem zq_251 : zwk zp_251 prog_13_method_99_code 10 2 false (some (.int)) 8 186 11 0 prog_13_method_99_code.data.toList = true := by decide +kernel
theorem zn_251 : ∀ pc, 11 ≤ pc → pc < 4096 → zp_251 pc = none := fun pc h _ => zno2 h
set_option maxRecDepth 100000 in
theorem zr_251 : zRow 251 := zrow_ok (f := zp_251) (N := 11) (kd := 0) rfl (by decide) (fun _ => rfl) zn_251 zq_251
set_option maxRecDepth 100000 in
theorem zq_252 : zwk zp_252 prog_13_method_100_code 10 4 false (some (.int)) 8 186 51 0 prog_13_method_100_code.data.toList = true := by decide +kernel
theorem zn_252 : ∀ pc, 51 ≤ pc → pc < 4096 → zp_252 pc = none := fun pc h _ => zno2 h
set_option maxRecDepth 100000 in
theorem zr_252 : zRow 252 := zrow_ok (f := zp_252) (N := 51) (kd := 0) rfl (by decide) (fun _ => rfl) zn_252 zq_252
set_option maxRecDepth 100000 in
theorem zq_253 : zwk zp_253 prog_13_method_101_code 10 7 false (some (.int)) 1 23 152 0 prog_13_method_101_code.data.toList = true := by decide +kernel
theorem zn_253 : ∀ pc, 152 ≤ pc → pc < 4096 → zp_253 pc = none := fun pc h _ => zno2 h
set_option maxRecDepth 100000 in
theorem zr_253 : zRow 253 := zrow_ok (f := zp_253) (N := 152) (kd := 0) rfl (by decide) (fun _ => rfl) zn_253 zq_253
set_option maxRecDepth 100000 in
theorem zq_254 : zwk zp_254 prog_13_method_102_code 10 7 false (some (.int)) 2 49 40 0 prog_13_method_102_code.data.toList = true := by decide +kernel
theorem zn_254 : ∀ pc, 40 ≤ pc → pc < 4096 → zp_254 pc = none := fun pc h _ => zno2 h
set_option maxRecDepth 100000 in
theorem zr_254 : zRow 254 := zrow_ok (f := zp_254) (N := 40) (kd := 0) rfl (by decide) (fun _ => rfl) zn_254 zq_254
set_option maxRecDepth 100000 in
theorem zq_255 : zwk zp_255 prog_13_method_103_code 10 5 false (some (.int)) 8 186 55 0 prog_13_method_103_code.data.toList = true := by decide +kernel
theorem zn_255 : ∀ pc, 55 ≤ pc → pc < 4096 → zp_255 pc = none := fun pc h _ => zno2 h
set_option maxRecDepth 100000 in
theorem zr_255 : zRow 255 := zrow_ok (f := zp_255) (N := 55) (kd := 0) rfl (by decide) (fun _ => rfl) zn_255 zq_255
set_option maxRecDepth 100000 in
theorem zq_256 : zwk zp_256 prog_13_method_104_code 10 6 false (some (.int)) 8 186 72 0 prog_13_method_104_code.data.toList = true := by decide +kernel
theorem zn_256 : ∀ pc, 72 ≤ pc → pc < 4096 → zp_256 pc = none := fun pc h _ => zno2 h
set_option maxRecDepth 100000 in
theorem zr_256 : zRow 256 := zrow_ok (f := zp_256) (N := 72) (kd := 0) rfl (by decide) (fun _ => rfl) zn_256 zq_256
set_option maxRecDepth 100000 in
theorem zq_257 : zwk zp_257 prog_13_method_105_code 10 10 false (some (.int)) 8 186 129 0 prog_13_method_105_code.data.toList = true := by decide +kernel
theorem zn_257 : ∀ pc, 129 ≤ pc → pc < 4096 → zp_257 pc = none := fun pc h _ => zno2 h
set_option maxRecDepth 100000 in
theorem zr_257 : zRow 257 := zrow_ok (f := zp_257) (N := 129) (kd := 0) rfl (by decide) (fun _ => rfl) zn_257 zq_257
set_option maxRecDepth 100000 in
theorem zq_258 : zwk zp_258 prog_13_method_106_code 10 5 false (some (.int)) 3 75 51 0 prog_13_method_106_code.data.toList = true := by decide +kernel
theorem zn_258 : ∀ pc, 51 ≤ pc → pc < 4096 → zp_258 pc = none := fun pc h _ => zno2 h
set_option maxRecDepth 100000 in
theorem zr_258 : zRow 258 := zrow_ok (f := zp_258) (N := 51) (kd := 0) rfl (by decide) (fun _ => rfl) zn_258 zq_258
set_option maxRecDepth 100000 in
theorem zq_259 : zwk zp_259 prog_13_method_107_code 10 5 false (some (.int)) 8 186 65 0 prog_13_method_107_code.data.toList = true := by decide +kernel
theorem zn_259 : ∀ pc, 65 ≤ pc → pc < 4096 → zp_259 pc = none := fun pc h _ => zno2 h
set_option maxRecDepth 100000 in
theorem zr_259 : zRow 259 := zrow_ok (f := zp_259) (N := 65) (kd := 0) rfl (by decide) (fun _ => rfl) zn_259 zq_259
set_option maxRecDepth 100000 in
theorem zq_260 : zwk zp_260 prog_13_method_108_code 10 5 false (some (.int)) 8 186 61 0 prog_13_method_108_code.data.toList = true := by decide +kernel
theorem zn_260 : ∀ pc, 61 ≤ pc → pc < 4096 → zp_260 pc = none := fun pc h _ => zno2 h
set_option maxRecDepth 100000 in
theorem zr_260 : zRow 260 := zrow_ok (f := zp_260) (N := 61) (kd := 0) rfl (by decide) (fun _ => rfl) zn_260 zq_260
set_option maxRecDepth 100000 in
theorem zq_261 : zwk zp_261 prog_13_method_109_code 10 6 false (some (.boolean)) 4 99 58 0 prog_13_method_109_code.data.toList = true := by decide +kernel
theorem zn_261 : ∀ pc, 58 ≤ pc → pc < 4096 → zp_261 pc = none := fun pc h _ => zno2 h
set_option maxRecDepth 100000 in
theorem zr_261 : zRow 261 := zrow_ok (f := zp_261) (N := 58) (kd := 0) rfl (by decide) (fun _ => rfl) zn_261 zq_261
set_option maxRecDepth 100000 in
theorem zq_262 : zwk zp_262 prog_13_method_110_code 10 4 false none 2 49 28 0 prog_13_method_110_code.data.toList = true := by decide +kernel
theorem zn_262 : ∀ pc, 28 ≤ pc → pc < 4096 → zp_262 pc = none := fun pc h _ => zno2 h
set_option maxRecDepth 100000 in
theorem zr_262 : zRow 262 := zrow_ok (f := zp_262) (N := 28) (kd := 0) rfl (by decide) (fun _ => rfl) zn_262 zq_262
set_option maxRecDepth 100000 in
theorem zq_263 : zwk zp_263 prog_13_method_111_code 10 5 false (some (.int)) 8 186 63 0 prog_13_method_111_code.data.toList = true := by decide +kernel
theorem zn_263 : ∀ pc, 63 ≤ pc → pc < 4096 → zp_263 pc = none := fun pc h _ => zno2 h
set_option maxRecDepth 100000 in
theorem zr_263 : zRow 263 := zrow_ok (f := zp_263) (N := 63) (kd := 0) rfl (by decide) (fun _ => rfl) zn_263 zq_263
set_option maxRecDepth 100000 in
theorem zq_264 : zwk zp_264 prog_13_method_112_code 10 8 false (some (.int)) 3 72 105 0 prog_13_method_112_code.data.toList = true := by decide +kernel
theorem zn_264 : ∀ pc, 105 ≤ pc → pc < 4096 → zp_264 pc = none := fun pc h _ => zno2 h
set_option maxRecDepth 100000 in
theorem zr_264 : zRow 264 := zrow_ok (f := zp_264) (N := 105) (kd := 0) rfl (by decide) (fun _ => rfl) zn_264 zq_264
set_option maxRecDepth 100000 in
theorem zq_265 : zwk zp_265 prog_13_method_113_code 10 7 false (some (.int)) 2 49 78 0 prog_13_method_113_code.data.toList = true := by decide +kernel
theorem zn_265 : ∀ pc, 78 ≤ pc → pc < 4096 → zp_265 pc = none := fun pc h _ => zno2 h
set_option maxRecDepth 100000 in
theorem zr_265 : zRow 265 := zrow_ok (f := zp_265) (N := 78) (kd := 0) rfl (by decide) (fun _ => rfl) zn_265 zq_265
set_option maxRecDepth 100000 in
theorem zq_266 : zwk zp_266 prog_13_method_114_code 10 10 false (some (.long)) 8 186 153 0 prog_13_method_114_code.data.toList = true := by decide +kernel
theorem zn_266 : ∀ pc, 153 ≤ pc → pc < 4096 → zp_266 pc = none := fun pc h _ => zno2 h
set_option maxRecDepth 100000 in
theorem zr_266 : zRow 266 := zrow_ok (f := zp_266) (N := 153) (kd := 0) rfl (by decide) (fun _ => rfl) zn_266 zq_266
set_option maxRecDepth 100000 in
theorem zq_267 : zwk zp_267 prog_13_method_115_code 10 6 false (some (.int)) 8 186 88 0 prog_13_method_115_code.data.toList = true := by decide +kernel
theorem zn_267 : ∀ pc, 88 ≤ pc → pc < 4096 → zp_267 pc = none := fun pc h _ => zno2 h
set_option maxRecDepth 100000 in
theorem zr_267 : zRow 267 := zrow_ok (f := zp_267) (N := 88) (kd := 0) rfl (by decide) (fun _ => rfl) zn_267 zq_267
set_option maxRecDepth 100000 in
theorem zq_268 : zwk zp_268 prog_13_method_116_code 10 6 false (some (.int)) 8 186 76 0 prog_13_method_116_code.data.toList = true := by decide +kernel
theorem zn_268 : ∀ pc, 76 ≤ pc → pc < 4096 → zp_268 pc = none := fun pc h _ => zno2 h
set_option maxRecDepth 100000 in
theorem zr_268 : zRow 268 := zrow_ok (f := zp_268) (N := 76) (kd := 0) rfl (by decide) (fun _ => rfl) zn_268 zq_268
set_option maxRecDepth 100000 in
theorem zq_269 : zwk zp_269 prog_13_method_117_code 10 7 false (some (.int)) 3 69 97 0 prog_13_method_117_code.data.toList = true := by decide +kernel
theorem zn_269 : ∀ pc, 97 ≤ pc → pc < 4096 → zp_269 pc = none := fun pc h _ => zno2 h
set_option maxRecDepth 100000 in
theorem zr_269 : zRow 269 := zrow_ok (f := zp_269) (N := 97) (kd := 0) rfl (by decide) (fun _ => rfl) zn_269 zq_269
set_option maxRecDepth 100000 in
theorem zq_270 : zwk zp_270 prog_13_method_118_code 10 3 false (some (.int)) 2 47 46 0 prog_13_method_118_code.data.toList = true := by decide +kernel
theorem zn_270 : ∀ pc, 46 ≤ pc → pc < 4096 → zp_270 pc = none := fun pc h _ => zno2 h
set_option maxRecDepth 100000 in
theorem zr_270 : zRow 270 := zrow_ok (f := zp_270) (N := 46) (kd := 0) rfl (by decide) (fun _ => rfl) zn_270 zq_270
set_option maxRecDepth 100000 in
theorem zq_271 : zwk zp_271 prog_13_method_119_code 10 3 false none 4 95 66 0 prog_13_method_119_code.data.toList = true := by decide +kernel
theorem zn_271 : ∀ pc, 66 ≤ pc → pc < 4096 → zp_271 pc = none := fun pc h _ => zno2 h
set_option maxRecDepth 100000 in
theorem zr_271 : zRow 271 := zrow_ok (f := zp_271) (N := 66) (kd := 0) rfl (by decide) (fun _ => rfl) zn_271 zq_271
set_option maxRecDepth 100000 in
theorem zq_272 : zwk zp_272 prog_13_method_120_code 10 1 false (some (.int)) 5 117 16 0 prog_13_method_120_code.data.toList = true := by decide +kernel
theorem zn_272 : ∀ pc, 16 ≤ pc → pc < 4096 → zp_272 pc = none := fun pc h _ => zno2 h
set_option maxRecDepth 100000 in
theorem zr_272 : zRow 272 := zrow_ok (f := zp_272) (N := 16) (kd := 0) rfl (by decide) (fun _ => rfl) zn_272 zq_272
set_option maxRecDepth 100000 in
theorem zq_273 : zwk zp_273 prog_13_method_121_code 10 7 false (some (.int)) 5 117 107 0 prog_13_method_121_code.data.toList = true := by decide +kernel
theorem zn_273 : ∀ pc, 107 ≤ pc → pc < 4096 → zp_273 pc = none := fun pc h _ => zno2 h
set_option maxRecDepth 100000 in
theorem zr_273 : zRow 273 := zrow_ok (f := zp_273) (N := 107) (kd := 0) rfl (by decide) (fun _ => rfl) zn_273 zq_273
set_option maxRecDepth 100000 in
theorem zq_274 : zwk zp_274 prog_13_method_122_code 10 5 false (some (.int)) 3 62 107 0 prog_13_method_122_code.data.toList = true := by decide +kernel
theorem zn_274 : ∀ pc, 107 ≤ pc → pc < 4096 → zp_274 pc = none := fun pc h _ => zno2 h
set_option maxRecDepth 100000 in
theorem zr_274 : zRow 274 := zrow_ok (f := zp_274) (N := 107) (kd := 0) rfl (by decide) (fun _ => rfl) zn_274 zq_274
set_option maxRecDepth 100000 in
theorem zq_275 : zwk zp_275 prog_13_method_123_code 10 7 false (some (.int)) 0 0 114 0 prog_13_method_123_code.data.toList = true := by decide +kernel
theorem zn_275 : ∀ pc, 114 ≤ pc → pc < 4096 → zp_275 pc = none := fun pc h _ => zno2 h
set_option maxRecDepth 100000 in
theorem zr_275 : zRow 275 := zrow_ok (f := zp_275) (N := 114) (kd := 0) rfl (by decide) (fun _ => rfl) zn_275 zq_275
set_option maxRecDepth 100000 in
theorem zq_276 : zwk zp_276 prog_13_method_124_code 10 10 false (some (.int)) 3 64 219 0 prog_13_method_124_code.data.toList = true := by decide +kernel
theorem zn_276 : ∀ pc, 219 ≤ pc → pc < 4096 → zp_276 pc = none := fun pc h _ => zno2 h
set_option maxRecDepth 100000 in
theorem zr_276 : zRow 276 := zrow_ok (f := zp_276) (N := 219) (kd := 0) rfl (by decide) (fun _ => rfl) zn_276 zq_276
set_option maxRecDepth 100000 in
theorem zq_277 : zwk zp_277 prog_13_method_125_code 10 8 false (some (.int)) 3 64 136 0 prog_13_method_125_code.data.toList = true := by decide +kernel
theorem zn_277 : ∀ pc, 136 ≤ pc → pc < 4096 → zp_277 pc = none := fun pc h _ => zno2 h
set_option maxRecDepth 100000 in
theorem zr_277 : zRow 277 := zrow_ok (f := zp_277) (N := 136) (kd := 0) rfl (by decide) (fun _ => rfl) zn_277 zq_277
set_option maxRecDepth 100000 in
theorem zq_278 : zwk zp_278 prog_13_method_126_code 10 2 false (some (.int)) 0 0 30 0 prog_13_method_126_code.data.toList = true := by decide +kernel
theorem zn_278 : ∀ pc, 30 ≤ pc → pc < 4096 → zp_278 pc = none := fun pc h _ => zno2 h
set_option maxRecDepth 100000 in
theorem zr_278 : zRow 278 := zrow_ok (f := zp_278) (N := 30) (kd := 0) rfl (by decide) (fun _ => rfl) zn_278 zq_278
set_option maxRecDepth 100000 in
theorem zq_279 : zwk zp_279 prog_13_method_127_code 10 5 false (some (.boolean)) 1 23 43 0 prog_13_method_127_code.data.toList = true := by decide +kernel
theorem zn_279 : ∀ pc, 43 ≤ pc → pc < 4096 → zp_279 pc = none := fun pc h _ => zno2 h
set_option maxRecDepth 100000 in
theorem zr_279 : zRow 279 := zrow_ok (f := zp_279) (N := 43) (kd := 0) rfl (by decide) (fun _ => rfl) zn_279 zq_279
set_option maxRecDepth 100000 in
theorem zq_280 : zwk zp_280 prog_13_method_128_code 10 7 false (some (.int)) 4 105 294 0 prog_13_method_128_code.data.toList = true := by decide +kernel
theorem zn_280 : ∀ pc, 294 ≤ pc → pc < 4096 → zp_280 pc = none := fun pc h _ => zno2 h
set_option maxRecDepth 100000 in
theorem zr_280 : zRow 280 := zrow_ok (f := zp_280) (N := 294) (kd := 0) rfl (by decide) (fun _ => rfl) zn_280 zq_280
set_option maxRecDepth 100000 in
theorem zq_281 : zwk zp_281 prog_13_method_129_code 10 2 false (some (.int)) 0 0 107 0 prog_13_method_129_code.data.toList = true := by decide +kernel
theorem zn_281 : ∀ pc, 107 ≤ pc → pc < 4096 → zp_281 pc = none := fun pc h _ => zno2 h
set_option maxRecDepth 100000 in
theorem zr_281 : zRow 281 := zrow_ok (f := zp_281) (N := 107) (kd := 0) rfl (by decide) (fun _ => rfl) zn_281 zq_281
set_option maxRecDepth 100000 in
theorem zq_282 : zwk zp_282 prog_20_method_47_code 13 3 false (some (.int)) 0 0 23 0 prog_20_method_47_code.data.toList = true := by decide +kernel
theorem zn_282 : ∀ pc, 23 ≤ pc → pc < 4096 → zp_282 pc = none := fun pc h _ => zno2 h
set_option maxRecDepth 100000 in
theorem zr_282 : zRow 282 := zrow_ok (f := zp_282) (N := 23) (kd := 1) rfl (by decide) (fun _ => rfl) zn_282 zq_282
set_option maxRecDepth 100000 in
theorem zq_283 : zwk zp_283 prog_20_method_59_code 13 1 false (some (.int)) 0 0 11 0 prog_20_method_59_code.data.toList = true := by decide +kernel
theorem zn_283 : ∀ pc, 11 ≤ pc → pc < 4096 → zp_283 pc = none := fun pc h _ => zno2 h
set_option maxRecDepth 100000 in
theorem zr_283 : zRow 283 := zrow_ok (f := zp_283) (N := 11) (kd := 1) rfl (by decide) (fun _ => rfl) zn_283 zq_283
set_option maxRecDepth 100000 in
theorem zq_284 : zwk zp_284 prog_20_method_65_code 13 2 false (some (.int)) 0 0 11 0 prog_20_method_65_code.data.toList = true := by decide +kernel
theorem zn_284 : ∀ pc, 11 ≤ pc → pc < 4096 → zp_284 pc = none := fun pc h _ => zno2 h
set_option maxRecDepth 100000 in
theorem zr_284 : zRow 284 := zrow_ok (f := zp_284) (N := 11) (kd := 1) rfl (by decide) (fun _ => rfl) zn_284 zq_284
set_option maxRecDepth 100000 in
theorem zq_285 : zwk zp_285 prog_20_method_69_code 13 2 false (some (.int)) 0 0 11 0 prog_20_method_69_code.data.toList = true := by decide +kernel
theorem zn_285 : ∀ pc, 11 ≤ pc → pc < 4096 → zp_285 pc = none := fun pc h _ => zno2 h
set_option maxRecDepth 100000 in
theorem zr_285 : zRow 285 := zrow_ok (f := zp_285) (N := 11) (kd := 1) rfl (by decide) (fun _ => rfl) zn_285 zq_285
set_option maxRecDepth 100000 in
theorem zq_286 : zwk zp_286 prog_29_method_103_code 14 4 false none 0 0 21 0 prog_29_method_103_code.data.toList = true := by decide +kernel
theorem zn_286 : ∀ pc, 21 ≤ pc → pc < 4096 → zp_286 pc = none := fun pc h _ => zno2 h
set_option maxRecDepth 100000 in
theorem zr_286 : zRow 286 := zrow_ok (f := zp_286) (N := 21) (kd := 1) rfl (by decide) (fun _ => rfl) zn_286 zq_286
set_option maxRecDepth 100000 in
theorem zq_287 : zwk zp_287 prog_29_method_124_code 14 3 false (some (.array .long)) 1 26 33 0 prog_29_method_124_code.data.toList = true := by decide +kernel
theorem zn_287 : ∀ pc, 33 ≤ pc → pc < 4096 → zp_287 pc = none := fun pc h _ => zno2 h
set_option maxRecDepth 100000 in
theorem zr_287 : zRow 287 := zrow_ok (f := zp_287) (N := 33) (kd := 1) rfl (by decide) (fun _ => rfl) zn_287 zq_287

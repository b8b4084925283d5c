/-! The code lists keep the check: group 3. -/
theorem wb_chk_226 : (wb_code 226).all (wb_ck 226) = true := by decide +kernel
theorem wb_chk_227 : (wb_code 227).all (wb_ck 227) = true := by decide +kernel
theorem wb_chk_228 : (wb_code 228).all (wb_ck 228) = true := by decide +kernel
theorem wb_chk_229 : (wb_code 229).all (wb_ck 229) = true := by decide +kernel
theorem wb_chk_230 : (wb_code 230).all (wb_ck 230) = true := by decide +kernel
theorem wb_chk_231 : (wb_code 231).all (wb_ck 231) = true := by decide +kernel
theorem wb_chk_232 : (wb_code 232).all (wb_ck 232) = true := by decide +kernel
theorem wb_chk_233 : (wb_code 233).all (wb_ck 233) = true := by decide +kernel
theorem wb_chk_234 : (wb_code 234).all (wb_ck 234) = true := by decide +kernel
theorem wb_chk_235 : (wb_code 235).all (wb_ck 235) = true := by decide +kernel
theorem wb_chk_236 : (wb_code 236).all (wb_ck 236) = true := by decide +kernel
theorem wb_chk_237 : (wb_code 237).all (wb_ck 237) = true := by decide +kernel
theorem wb_chk_238 : (wb_code 238).all (wb_ck 238) = true := by decide +kernel
theorem wb_chk_239 : (wb_code 239).all (wb_ck 239) = true := by decide +kernel
theorem wb_chk_240 : (wb_code 240).all (wb_ck 240) = true := by decide +kernel
theorem wb_chk_241 : (wb_code 241).all (wb_ck 241) = true := by decide +kernel
theorem wb_chk_242 : (wb_code 242).all (wb_ck 242) = true := by decide +kernel
theorem wb_chk_243 : (wb_code 243).all (wb_ck 243) = true := by decide +kernel
theorem wb_chk_244 : (wb_code 244).all (wb_ck 244) = true := by decide +kernel
theorem wb_chk_245 : (wb_code 245).all (wb_ck 245) = true := by decide +kernel
theorem wb_chk_246 : (wb_code 246).all (wb_ck 246) = true := by decide +kernel
theorem wb_chk_247 : (wb_code 247).all (wb_ck 247) = true := by decide +kernel
theorem wb_chk_248 : (wb_code 248).all (wb_ck 248) = true := by decide +kernel
theorem wb_chk_249 : (wb_code 249).all (wb_ck 249) = true := by decide +kernel
theorem wb_chk_250 : (wb_code 250).all (wb_ck 250) = true := by decide +kernel
theorem wb_chk_251 : (wb_code 251).all (wb_ck 251) = true := by decide +kernel
theorem wb_chk_252 : (wb_code 252).all (wb_ck 252) = true := by decide +kernel
theorem wb_chk_253 : (wb_code 253).all (wb_ck 253) = true := by decide +kernel
theorem wb_chk_254_0 : (((wb_code 254).drop 0).take 40).all (wb_ck 254) = true := by decide +kernel
theorem wb_chk_254_40 : (((wb_code 254).drop 40).take 40).all (wb_ck 254) = true := by decide +kernel
theorem wb_chk_254_80 : (((wb_code 254).drop 80).take 40).all (wb_ck 254) = true := by decide +kernel
theorem wb_chk_254 : (wb_code 254).all (wb_ck 254) = true := by
  have h : ((wb_code 254).drop 0).all (wb_ck 254) = true := (wb_all_cut (b := 40) rfl wb_chk_254_0 (wb_all_cut (b := 80) rfl wb_chk_254_40 (wb_all_cut (b := 120) rfl wb_chk_254_80 (by decide +kernel : ((wb_code 254).drop 120).all (wb_ck 254) = true))))
  rw [List.drop_zero] at h
  exact h
theorem wb_chk_255 : (wb_code 255).all (wb_ck 255) = true := by decide +kernel
theorem wb_chk_256 : (wb_code 256).all (wb_ck 256) = true := by decide +kernel
theorem wb_chk_257 : (wb_code 257).all (wb_ck 257) = true := by decide +kernel
theorem wb_chk_258 : (wb_code 258).all (wb_ck 258) = true := by decide +kernel
theorem wb_chk_259 : (wb_code 259).all (wb_ck 259) = true := by decide +kernel
theorem wb_chk_260 : (wb_code 260).all (wb_ck 260) = true := by decide +kernel
theorem wb_chk_261 : (wb_code 261).all (wb_ck 261) = true := by decide +kernel
theorem wb_chk_262 : (wb_code 262).all (wb_ck 262) = true := by decide +kernel
theorem wb_chk_263 : (wb_code 263).all (wb_ck 263) = true := by decide +kernel
theorem wb_chk_264 : (wb_code 264).all (wb_ck 264) = true := by decide +kernel
theorem wb_chk_265 : (wb_code 265).all (wb_ck 265) = true := by decide +kernel
theorem wb_chk_266 : (wb_code 266).all (wb_ck 266) = true := by decide +kernel
theorem wb_chk_267 : (wb_code 267).all (wb_ck 267) = true := by decide +kernel
theorem wb_chk_268 : (wb_code 268).all (wb_ck 268) = true := by decide +kernel
theorem wb_chk_269 : (wb_code 269).all (wb_ck 269) = true := by decide +kernel
theorem wb_chk_270 : (wb_code 270).all (wb_ck 270) = true := by decide +kernel
theorem wb_chk_271 : (wb_code 271).all (wb_ck 271) = true := by decide +kernel
theorem wb_chk_272 : (wb_code 272).all (wb_ck 272) = true := by decide +kernel
theorem wb_chk_273 : (wb_code 273).all (wb_ck 273) = true := by decide +kernel
theorem wb_chk_274 : (wb_code 274).all (wb_ck 274) = true := by decide +kernel
theorem wb_chk_275 : (wb_code 275).all (wb_ck 275) = true := by decide +kernel
theorem wb_chk_276 : (wb_code 276).all (wb_ck 276) = true := by decide +kernel
theorem wb_chk_277 : (wb_code 277).all (wb_ck 277) = true := by decide +kernel
theorem wb_chk_278 : (wb_code 278).all (wb_ck 278) = true := by decide +kernel
theorem wb_chk_279 : (wb_code 279).all (wb_ck 279) = true := by decide +kernel
theorem wb_chk_280 : (wb_code 280).all (wb_ck 280) = true := by decide +kernel
theorem wb_chk_281 : (wb_code 281).all (wb_ck 281) = true := by decide +kernel
theorem wb_chk_282 : (wb_code 282).all (wb_ck 282) = true := by decide +kernel
theorem wb_chk_283_0 : (((wb_code 283).drop 0).take 40).all (wb_ck 283) = true := by decide +kernel
theorem wb_chk_283_40 : (((wb_code 283).drop 40).take 40).all (wb_ck 283) = true := by decide +kernel
theorem wb_chk_283_80 : (((wb_code 283).drop 80).take 40).all (wb_ck 283) = true := by decide +kernel
theorem wb_chk_283_120 : (((wb_code 283).drop 120).take 40).all (wb_ck 283) = true := by decide +kernel
theorem wb_chk_283_160 : (((wb_code 283).drop 160).take 40).all (wb_ck 283) = true := by decide +kernel
theorem wb_chk_283_200 : (((wb_code 283).drop 200).take 40).all (wb_ck 283) = true := by decide +kernel
theorem wb_chk_283_240 : (((wb_code 283).drop 240).take 40).all (wb_ck 283) = true := by decide +kernel
theorem wb_chk_283_280 : (((wb_code 283).drop 280).take 40).all (wb_ck 283) = true := by decide +kernel
theorem wb_chk_283_320 : (((wb_code 283).drop 320).take 40).all (wb_ck 283) = true := by decide +kernel
theorem wb_chk_283_360 : (((wb_code 283).drop 360).take 40).all (wb_ck 283) = true := by decide +kernel
theorem wb_chk_283_400 : (((wb_code 283).drop 400).take 40).all (wb_ck 283) = true := by decide +kernel
theorem wb_chk_283_440 : (((wb_code 283).drop 440).take 40).all (wb_ck 283) = true := by decide +kernel
theorem wb_chk_283_480 : (((wb_code 283).drop 480).take 40).all (wb_ck 283) = true := by decide +kernel
theorem wb_chk_283_520 : (((wb_code 283).drop 520).take 40).all (wb_ck 283) = true := by decide +kernel
theorem wb_chk_283_560 : (((wb_code 283).drop 560).take 40).all (wb_ck 283) = true := by decide +kernel
theorem wb_chk_283_600 : (((wb_code 283).drop 600).take 40).all (wb_ck 283) = true := by decide +kernel
theorem wb_chk_283_640 : (((wb_code 283).drop 640).take 40).all (wb_ck 283) = true := by decide +kernel
theorem wb_chk_283_680 : (((wb_code 283).drop 680).take 40).all (wb_ck 283) = true := by decide +kernel
theorem wb_chk_283_720 : (((wb_code 283).drop 720).take 40).all (wb_ck 283) = true := by decide +kernel
theorem wb_chk_283_760 : (((wb_code 283).drop 760).take 40).all (wb_ck 283) = true := by decide +kernel
theorem wb_chk_283_800 : (((wb_code 283).drop 800).take 40).all (wb_ck 283) = true := by decide +kernel
theorem wb_chk_283_840 : (((wb_code 283).drop 840).take 40).all (wb_ck 283) = true := by decide +kernel
theorem wb_chk_283 : (wb_code 283).all (wb_ck 283) = true := by
  have h : ((wb_code 283).drop 0).all (wb_ck 283) = true := (wb_all_cut (b := 40) rfl wb_chk_283_0 (wb_all_cut (b := 80) rfl wb_chk_283_40 (wb_all_cut (b := 120) rfl wb_chk_283_80 (wb_all_cut (b := 160) rfl wb_chk_283_120 (wb_all_cut (b := 200) rfl wb_chk_283_160 (wb_all_cut (b := 240) rfl wb_chk_283_200 (wb_all_cut (b := 280) rfl wb_chk_283_240 (wb_all_cut (b := 320) rfl wb_chk_283_280 (wb_all_cut (b := 360) rfl wb_chk_283_320 (wb_all_cut (b := 400) rfl wb_chk_283_360 (wb_all_cut (b := 440) rfl wb_chk_283_400 (wb_all_cut (b := 480) rfl wb_chk_283_440 (wb_all_cut (b := 520) rfl wb_chk_283_480 (wb_all_cut (b := 560) rfl wb_chk_283_520 (wb_all_cut (b := 600) rfl wb_chk_283_560 (wb_all_cut (b := 640) rfl wb_chk_283_600 (wb_all_cut (b := 680) rfl wb_chk_283_640 (wb_all_cut (b := 720) rfl wb_chk_283_680 (wb_all_cut (b := 760) rfl wb_chk_283_720 (wb_all_cut (b := 800) rfl wb_chk_283_760 (wb_all_cut (b := 840) rfl wb_chk_283_800 (wb_all_cut (b := 880) rfl wb_chk_283_840 (by decide +kernel : ((wb_code 283).drop 880).all (wb_ck 283) = true)))))))))))))))))))))))
  rw [List.drop_zero] at h
  exact h

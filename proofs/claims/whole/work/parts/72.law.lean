theorem VS_insA {n : Nat} {f : zf} {a e nn t : Int32} (h : VS n f) (hw : zwA n a e nn t = 0) : VS (n + 1) (zins f a.toNatClampNeg (znew e nn t)) := by
  obtain ⟨q1, q2⟩ := zwA_0 hw
  obtain ⟨j, hj, ej⟩ := zsd_of (by have := h.1; omega) q1
  exact h.ins q2 (by rw [ej, nI_clamp (by have := h.1; omega)]; omega)
theorem VS_kinA {n : Nat} {f : zf} {a kd fg : Int32} (h : VS n f) (hw : zwK n a kd fg = 0) : VS n (zkin f a.toNatClampNeg kd fg) := by
  obtain ⟨-, q2, q3, q4⟩ := zwK_0 hw
  exact h.kin q2 q3 q4
theorem zV_ls {σ : zA} {l : Nat} {z : zls} {n : Int32} (h : zV σ) : zV (if n < 0 then σ else zsL σ l z) := by
  split
  · exact h
  · exact h
section zLaw
variable {Ls : Nat} {xs : Nat → Int32} {σ : zA} {h : zH} {i : Nat}
abbrev zLc (Ls : Nat) (xs : Nat → Int32) (i pc : Nat) (h : zH) : Prop := W_law Ls xs pc [some (.ref 3000), some (.ref 0), some (.ref 86), some (.int (nI i))] [] h
def zLk (Ls : Nat) (xs : Nat → Int32) (i : Nat) : Prop := ∀ (σ2 : zA) (h2 : zH), RX σ2 h2 → RM σ2 h2 → zV σ2 → zLc Ls xs i 1406 h2
set_option maxHeartbeats 4000000 in
set_option maxRecDepth 100000 in
theorem law_0 (hi : i + 6 ≤ Ls ∧ Ls ≤ 3072) (hX : RX σ h) (hM : RM σ h) (hV : zV σ) (K : zLk Ls xs i) : zLc Ls xs i 200 h := by
  refine WG.aload_n (pc' := 201) dL_law_200 rfl rfl ?_
  refine WG.aload_n (pc' := 202) dL_law_201 rfl rfl ?_
  refine WG.iload_n (pc' := 203) dL_law_202 rfl rfl ?_
  refine WG.iconst (v := 1) (pc' := 204) dL_law_203 rfl rfl ?_
  refine WG.iadd (pc' := 205) dL_law_204 rfl ?_
  refine WG.sldN (j := i + 1) (nI_1 i) (by omega) (pc' := 206) dL_law_205 rfl ?_
  refine WG.callV (x_letter hX _) m_L_13 b_X5_letter rfl rfl rfl (zrk_of rfl) rfl (Nat.le_of_ble_eq_true rfl) dL_law_206 (pc' := 209) rfl (fun r_ h_ q_ => ?_)
  obtain ⟨rfl, hX1, hF1⟩ := q_
  have hM1 := zBM hM hF1
  generalize h_ = h1 at *
  refine WG.aload_n (pc' := 210) dL_law_209 rfl rfl ?_
  refine WG.aload_n (pc' := 211) dL_law_210 rfl rfl ?_
  refine WG.iload_n (pc' := 212) dL_law_211 rfl rfl ?_
  refine WG.iconst (v := 1) (pc' := 213) dL_law_212 rfl rfl ?_
  refine WG.iadd (pc' := 214) dL_law_213 rfl ?_
  refine WG.sldN (j := i + 1) (nI_1 i) (by omega) (pc' := 215) dL_law_214 rfl ?_
  refine WG.callV (m_letter hM1 _) m_L_17 b_X6_letter rfl rfl rfl (zrk_of rfl) rfl (Nat.le_of_ble_eq_true rfl) dL_law_215 (pc' := 218) rfl (fun r_ h_ q_ => ?_)
  obtain ⟨rfl, hM2, hF2⟩ := q_
  refine WG.icmp_eq (tgt := 1406) (pc' := 221) dL_law_218 rfl (by decide) (fun c_218 => ?_) (fun c_218 => ?_)
  · exact K _ _ (zBX hX1 hF2) hM2 (zV_pi hV (fun c => zV_TO hV))
  · exact absurd rfl c_218
set_option maxHeartbeats 4000000 in
set_option maxRecDepth 100000 in
theorem law_1 (hi : i + 6 ≤ Ls ∧ Ls ≤ 3072) (hX : RX σ h) (hM : RM σ h) (hV : zV σ) (K : zLk Ls xs i) : zLc Ls xs i 223 h := by
  refine WG.aload_n (pc' := 224) dL_law_223 rfl rfl ?_
  refine WG.callV (x_tells hX) m_L_18 b_X5_tells rfl rfl rfl (zrk_of rfl) rfl (Nat.le_of_ble_eq_true rfl) dL_law_224 (pc' := 227) rfl (fun r_ h_ q_ => ?_)
  obtain ⟨rfl, hX1, hF1⟩ := q_
  have hM1 := zBM hM hF1
  generalize h_ = h1 at *
  refine WG.aload_n (pc' := 228) dL_law_227 rfl rfl ?_
  refine WG.callV (m_tells hM1) m_L_22 b_X6_tells rfl rfl rfl (zrk_of rfl) rfl (Nat.le_of_ble_eq_true rfl) dL_law_228 (pc' := 231) rfl (fun r_ h_ q_ => ?_)
  obtain ⟨rfl, hM2, hF2⟩ := q_
  refine WG.icmp_eq (tgt := 1406) (pc' := 234) dL_law_231 rfl (by decide) (fun c_231 => ?_) (fun c_231 => ?_)
  · exact K _ _ (zBX hX1 hF2) hM2 (zV_pi hV (fun c => zV_T hV))
  · exact absurd rfl c_231
set_option maxHeartbeats 4000000 in
set_option maxRecDepth 100000 in
theorem law_2 (hi : i + 6 ≤ Ls ∧ Ls ≤ 3072) (hX : RX σ h) (hM : RM σ h) (hV : zV σ) (K : zLk Ls xs i) : zLc Ls xs i 236 h := by
  refine WG.aload_n (pc' := 237) dL_law_236 rfl rfl ?_
  refine WG.aload_n (pc' := 238) dL_law_237 rfl rfl ?_
  refine WG.iload_n (pc' := 239) dL_law_238 rfl rfl ?_
  refine WG.iconst (v := 1) (pc' := 240) dL_law_239 rfl rfl ?_
  refine WG.iadd (pc' := 241) dL_law_240 rfl ?_
  refine WG.sldN (j := i + 1) (nI_1 i) (by omega) (pc' := 242) dL_law_241 rfl ?_
  refine WG.aload_n (pc' := 243) dL_law_242 rfl rfl ?_
  refine WG.iload_n (pc' := 244) dL_law_243 rfl rfl ?_
  refine WG.iconst (v := 2) (pc' := 245) dL_law_244 rfl rfl ?_
  refine WG.iadd (pc' := 246) dL_law_245 rfl ?_
  refine WG.sldN (j := i + 2) (nI_add i 2) (by omega) (pc' := 247) dL_law_246 rfl ?_
  refine WG.aload_n (pc' := 248) dL_law_247 rfl rfl ?_
  refine WG.iload_n (pc' := 249) dL_law_248 rfl rfl ?_
  refine WG.iconst (v := 3) (pc' := 250) dL_law_249 rfl rfl ?_
  refine WG.iadd (pc' := 251) dL_law_250 rfl ?_
  refine WG.sldN (j := i + 3) (nI_add i 3) (by omega) (pc' := 252) dL_law_251 rfl ?_
  refine WG.callV (x_side hX _ _ _) m_L_23 b_X5_side rfl rfl rfl (zrk_of rfl) rfl (Nat.le_of_ble_eq_true rfl) dL_law_252 (pc' := 255) rfl (fun r_ h_ q_ => ?_)
  obtain ⟨rfl, hX1, hF1⟩ := q_
  have hM1 := zBM hM hF1
  generalize h_ = h1 at *
  refine WG.aload_n (pc' := 256) dL_law_255 rfl rfl ?_
  refine WG.aload_n (pc' := 257) dL_law_256 rfl rfl ?_
  refine WG.iload_n (pc' := 258) dL_law_257 rfl rfl ?_
  refine WG.iconst (v := 1) (pc' := 259) dL_law_258 rfl rfl ?_
  refine WG.iadd (pc' := 260) dL_law_259 rfl ?_
  refine WG.sldN (j := i + 1) (nI_1 i) (by omega) (pc' := 261) dL_law_260 rfl ?_
  refine WG.aload_n (pc' := 262) dL_law_261 rfl rfl ?_
  refine WG.iload_n (pc' := 263) dL_law_262 rfl rfl ?_
  refine WG.iconst (v := 2) (pc' := 264) dL_law_263 rfl rfl ?_
  refine WG.iadd (pc' := 265) dL_law_264 rfl ?_
  refine WG.sldN (j := i + 2) (nI_add i 2) (by omega) (pc' := 266) dL_law_265 rfl ?_
  refine WG.aload_n (pc' := 267) dL_law_266 rfl rfl ?_
  refine WG.iload_n (pc' := 268) dL_law_267 rfl rfl ?_
  refine WG.iconst (v := 3) (pc' := 269) dL_law_268 rfl rfl ?_
  refine WG.iadd (pc' := 270) dL_law_269 rfl ?_
  refine WG.sldN (j := i + 3) (nI_add i 3) (by omega) (pc' := 271) dL_law_270 rfl ?_
  refine WG.callV (m_side hM1 _ _ _) m_L_27 b_X6_side rfl rfl rfl (zrk_of rfl) rfl (Nat.le_of_ble_eq_true rfl) dL_law_271 (pc' := 274) rfl (fun r_ h_ q_ => ?_)
  obtain ⟨rfl, hM2, hF2⟩ := q_
  refine WG.icmp_eq (tgt := 1406) (pc' := 277) dL_law_274 rfl (by decide) (fun c_274 => ?_) (fun c_274 => ?_)
  · exact K _ _ (zBX hX1 hF2) hM2 (zV_pi hV (fun c => zV_ch hV (hV.1.ins c (Nat.le_refl _))))
  · exact absurd rfl c_274
set_option maxHeartbeats 4000000 in
set_option maxRecDepth 100000 in
theorem law_3 (hi : i + 6 ≤ Ls ∧ Ls ≤ 3072) (hX : RX σ h) (hM : RM σ h) (hV : zV σ) (K : zLk Ls xs i) : zLc Ls xs i 279 h := by
  refine WG.aload_n (pc' := 280) dL_law_279 rfl rfl ?_
  refine WG.aload_n (pc' := 281) dL_law_280 rfl rfl ?_
  refine WG.iload_n (pc' := 282) dL_law_281 rfl rfl ?_
  refine WG.iconst (v := 1) (pc' := 283) dL_law_282 rfl rfl ?_
  refine WG.iadd (pc' := 284) dL_law_283 rfl ?_
  refine WG.sldN (j := i + 1) (nI_1 i) (by omega) (pc' := 285) dL_law_284 rfl ?_
  refine WG.aload_n (pc' := 286) dL_law_285 rfl rfl ?_
  refine WG.iload_n (pc' := 287) dL_law_286 rfl rfl ?_
  refine WG.iconst (v := 2) (pc' := 288) dL_law_287 rfl rfl ?_
  refine WG.iadd (pc' := 289) dL_law_288 rfl ?_
  refine WG.sldN (j := i + 2) (nI_add i 2) (by omega) (pc' := 290) dL_law_289 rfl ?_
  refine WG.aload_n (pc' := 291) dL_law_290 rfl rfl ?_
  refine WG.iload_n (pc' := 292) dL_law_291 rfl rfl ?_
  refine WG.iconst (v := 3) (pc' := 293) dL_law_292 rfl rfl ?_
  refine WG.iadd (pc' := 294) dL_law_293 rfl ?_
  refine WG.sldN (j := i + 3) (nI_add i 3) (by omega) (pc' := 295) dL_law_294 rfl ?_
  refine WG.aload_n (pc' := 296) dL_law_295 rfl rfl ?_
  refine WG.iload_n (pc' := 297) dL_law_296 rfl rfl ?_
  refine WG.iconst (v := 4) (pc' := 298) dL_law_297 rfl rfl ?_
  refine WG.iadd (pc' := 299) dL_law_298 rfl ?_
  refine WG.sldN (j := i + 4) (nI_add i 4) (by omega) (pc' := 300) dL_law_299 rfl ?_
  refine WG.callV (x_insert hX _ _ _ _) m_L_28 b_X5_insert rfl rfl rfl (zrk_of rfl) rfl (Nat.le_of_ble_eq_true rfl) dL_law_300 (pc' := 303) rfl (fun r_ h_ q_ => ?_)
  obtain ⟨rfl, hX1, hF1⟩ := q_
  have hM1 := zBM hM hF1
  generalize h_ = h1 at *
  refine WG.aload_n (pc' := 304) dL_law_303 rfl rfl ?_
  refine WG.aload_n (pc' := 305) dL_law_304 rfl rfl ?_
  refine WG.iload_n (pc' := 306) dL_law_305 rfl rfl ?_
  refine WG.iconst (v := 1) (pc' := 307) dL_law_306 rfl rfl ?_
  refine WG.iadd (pc' := 308) dL_law_307 rfl ?_
  refine WG.sldN (j := i + 1) (nI_1 i) (by omega) (pc' := 309) dL_law_308 rfl ?_
  refine WG.aload_n (pc' := 310) dL_law_309 rfl rfl ?_
  refine WG.iload_n (pc' := 311) dL_law_310 rfl rfl ?_
  refine WG.iconst (v := 2) (pc' := 312) dL_law_311 rfl rfl ?_
  refine WG.iadd (pc' := 313) dL_law_312 rfl ?_
  refine WG.sldN (j := i + 2) (nI_add i 2) (by omega) (pc' := 314) dL_law_313 rfl ?_
  refine WG.aload_n (pc' := 315) dL_law_314 rfl rfl ?_
  refine WG.iload_n (pc' := 316) dL_law_315 rfl rfl ?_
  refine WG.iconst (v := 3) (pc' := 317) dL_law_316 rfl rfl ?_
  refine WG.iadd (pc' := 318) dL_law_317 rfl ?_
  refine WG.sldN (j := i + 3) (nI_add i 3) (by omega) (pc' := 319) dL_law_318 rfl ?_
  refine WG.aload_n (pc' := 320) dL_law_319 rfl rfl ?_
  refine WG.iload_n (pc' := 321) dL_law_320 rfl rfl ?_
  refine WG.iconst (v := 4) (pc' := 322) dL_law_321 rfl rfl ?_
  refine WG.iadd (pc' := 323) dL_law_322 rfl ?_
  refine WG.sldN (j := i + 4) (nI_add i 4) (by omega) (pc' := 324) dL_law_323 rfl ?_
  refine WG.callV (m_insert hM1 _ _ _ _) m_L_32 b_X6_insert rfl rfl rfl (zrk_of rfl) rfl (Nat.le_of_ble_eq_true rfl) dL_law_324 (pc' := 327) rfl (fun r_ h_ q_ => ?_)
  obtain ⟨rfl, hM2, hF2⟩ := q_
  refine WG.icmp_eq (tgt := 1406) (pc' := 330) dL_law_327 rfl (by decide) (fun c_327 => ?_) (fun c_327 => ?_)
  · exact K _ _ (zBX hX1 hF2) hM2 (zV_pi hV (fun c => zV_ch hV (VS_insA hV.1 c)))
  · exact absurd rfl c_327
set_option maxHeartbeats 4000000 in
set_option maxRecDepth 100000 in
theorem law_4 (hi : i + 6 ≤ Ls ∧ Ls ≤ 3072) (hX : RX σ h) (hM : RM σ h) (hV : zV σ) (K : zLk Ls xs i) : zLc Ls xs i 332 h := by
  refine WG.aload_n (pc' := 333) dL_law_332 rfl rfl ?_
  refine WG.aload_n (pc' := 334) dL_law_333 rfl rfl ?_
  refine WG.iload_n (pc' := 335) dL_law_334 rfl rfl ?_
  refine WG.iconst (v := 1) (pc' := 336) dL_law_335 rfl rfl ?_
  refine WG.iadd (pc' := 337) dL_law_336 rfl ?_
  refine WG.sldN (j := i + 1) (nI_1 i) (by omega) (pc' := 338) dL_law_337 rfl ?_
  refine WG.aload_n (pc' := 339) dL_law_338 rfl rfl ?_
  refine WG.iload_n (pc' := 340) dL_law_339 rfl rfl ?_
  refine WG.iconst (v := 2) (pc' := 341) dL_law_340 rfl rfl ?_
  refine WG.iadd (pc' := 342) dL_law_341 rfl ?_
  refine WG.sldN (j := i + 2) (nI_add i 2) (by omega) (pc' := 343) dL_law_342 rfl ?_
  refine WG.aload_n (pc' := 344) dL_law_343 rfl rfl ?_
  refine WG.iload_n (pc' := 345) dL_law_344 rfl rfl ?_
  refine WG.iconst (v := 3) (pc' := 346) dL_law_345 rfl rfl ?_
  refine WG.iadd (pc' := 347) dL_law_346 rfl ?_
  refine WG.sldN (j := i + 3) (nI_add i 3) (by omega) (pc' := 348) dL_law_347 rfl ?_
  refine WG.callV (x_kind hX _ _ _) m_L_33 b_X5_kind rfl rfl rfl (zrk_of rfl) rfl (Nat.le_of_ble_eq_true rfl) dL_law_348 (pc' := 351) rfl (fun r_ h_ q_ => ?_)
  obtain ⟨rfl, hX1, hF1⟩ := q_
  have hM1 := zBM hM hF1
  generalize h_ = h1 at *
  refine WG.aload_n (pc' := 352) dL_law_351 rfl rfl ?_
  refine WG.aload_n (pc' := 353) dL_law_352 rfl rfl ?_
  refine WG.iload_n (pc' := 354) dL_law_353 rfl rfl ?_
  refine WG.iconst (v := 1) (pc' := 355) dL_law_354 rfl rfl ?_
  refine WG.iadd (pc' := 356) dL_law_355 rfl ?_
  refine WG.sldN (j := i + 1) (nI_1 i) (by omega) (pc' := 357) dL_law_356 rfl ?_
  refine WG.aload_n (pc' := 358) dL_law_357 rfl rfl ?_
  refine WG.iload_n (pc' := 359) dL_law_358 rfl rfl ?_
  refine WG.iconst (v := 2) (pc' := 360) dL_law_359 rfl rfl ?_
  refine WG.iadd (pc' := 361) dL_law_360 rfl ?_
  refine WG.sldN (j := i + 2) (nI_add i 2) (by omega) (pc' := 362) dL_law_361 rfl ?_
  refine WG.aload_n (pc' := 363) dL_law_362 rfl rfl ?_
  refine WG.iload_n (pc' := 364) dL_law_363 rfl rfl ?_
  refine WG.iconst (v := 3) (pc' := 365) dL_law_364 rfl rfl ?_
  refine WG.iadd (pc' := 366) dL_law_365 rfl ?_
  refine WG.sldN (j := i + 3) (nI_add i 3) (by omega) (pc' := 367) dL_law_366 rfl ?_
  refine WG.callV (m_kind hM1 _ _ _) m_L_36 b_X6_kind rfl rfl rfl (zrk_of rfl) rfl (Nat.le_of_ble_eq_true rfl) dL_law_367 (pc' := 370) rfl (fun r_ h_ q_ => ?_)
  obtain ⟨rfl, hM2, hF2⟩ := q_
  refine WG.icmp_eq (tgt := 1406) (pc' := 373) dL_law_370 rfl (by decide) (fun c_370 => ?_) (fun c_370 => ?_)
  · exact K _ _ (zBX hX1 hF2) hM2 (zV_pi hV (fun c => zV_ch hV (VS_kinA hV.1 c)))
  · exact absurd rfl c_370
set_option maxHeartbeats 4000000 in
set_option maxRecDepth 100000 in
theorem law_5 (hi : i + 6 ≤ Ls ∧ Ls ≤ 3072) (hX : RX σ h) (hM : RM σ h) (hV : zV σ) (K : zLk Ls xs i) : zLc Ls xs i 375 h := by
  refine WG.aload_n (pc' := 376) dL_law_375 rfl rfl ?_
  refine WG.aload_n (pc' := 377) dL_law_376 rfl rfl ?_
  refine WG.iload_n (pc' := 378) dL_law_377 rfl rfl ?_
  refine WG.iconst (v := 1) (pc' := 379) dL_law_378 rfl rfl ?_
  refine WG.iadd (pc' := 380) dL_law_379 rfl ?_
  refine WG.sldN (j := i + 1) (nI_1 i) (by omega) (pc' := 381) dL_law_380 rfl ?_
  refine WG.callV (x_gone hX _) m_L_37 b_X5_gone rfl rfl rfl (zrk_of rfl) rfl (Nat.le_of_ble_eq_true rfl) dL_law_381 (pc' := 384) rfl (fun r_ h_ q_ => ?_)
  obtain ⟨rfl, hX1, hF1⟩ := q_
  have hM1 := zBM hM hF1
  generalize h_ = h1 at *
  refine WG.aload_n (pc' := 385) dL_law_384 rfl rfl ?_
  refine WG.aload_n (pc' := 386) dL_law_385 rfl rfl ?_
  refine WG.iload_n (pc' := 387) dL_law_386 rfl rfl ?_
  refine WG.iconst (v := 1) (pc' := 388) dL_law_387 rfl rfl ?_
  refine WG.iadd (pc' := 389) dL_law_388 rfl ?_
  refine WG.sldN (j := i + 1) (nI_1 i) (by omega) (pc' := 390) dL_law_389 rfl ?_
  refine WG.callV (m_gone hM1 _) m_L_40 b_X6_gone rfl rfl rfl (zrk_of rfl) rfl (Nat.le_of_ble_eq_true rfl) dL_law_390 (pc' := 393) rfl (fun r_ h_ q_ => ?_)
  obtain ⟨rfl, hM2, hF2⟩ := q_
  refine WG.icmp_eq (tgt := 1406) (pc' := 396) dL_law_393 rfl (by decide) (fun c_393 => ?_) (fun c_393 => ?_)
  · exact K _ _ (zBX hX1 hF2) hM2 (zV_pi hV (fun c => zV_ch hV hV.1.del))
  · exact absurd rfl c_393
set_option maxHeartbeats 4000000 in
set_option maxRecDepth 100000 in
theorem law_6 (hi : i + 6 ≤ Ls ∧ Ls ≤ 3072) (hX : RX σ h) (hM : RM σ h) (hV : zV σ) (K : zLk Ls xs i) : zLc Ls xs i 398 h := by
  refine WG.aload_n (pc' := 399) dL_law_398 rfl rfl ?_
  refine WG.callV (x_turned hX) m_L_41 b_X5_turned rfl rfl rfl (zrk_of rfl) rfl (Nat.le_of_ble_eq_true rfl) dL_law_399 (pc' := 402) rfl (fun r_ h_ q_ => ?_)
  obtain ⟨rfl, hX1, hF1⟩ := q_
  have hM1 := zBM hM hF1
  generalize h_ = h1 at *
  refine WG.aload_n (pc' := 403) dL_law_402 rfl rfl ?_
  refine WG.callV (m_turned hM1) m_L_44 b_X6_turned rfl rfl rfl (zrk_of rfl) rfl (Nat.le_of_ble_eq_true rfl) dL_law_403 (pc' := 406) rfl (fun r_ h_ q_ => ?_)
  obtain ⟨rfl, hM2, hF2⟩ := q_
  refine WG.icmp_eq (tgt := 1406) (pc' := 409) dL_law_406 rfl (by decide) (fun c_406 => ?_) (fun c_406 => ?_)
  · exact K _ _ (zBX hX1 hF2) hM2 (zV_pi hV (fun c => zV_ch hV hV.1.rev))
  · exact absurd rfl c_406
set_option maxHeartbeats 4000000 in
set_option maxRecDepth 100000 in
theorem law_7 (hi : i + 6 ≤ Ls ∧ Ls ≤ 3072) (hX : RX σ h) (hM : RM σ h) (hV : zV σ) (K : zLk Ls xs i) : zLc Ls xs i 411 h := by
  refine WG.aload_n (pc' := 412) dL_law_411 rfl rfl ?_
  refine WG.aload_n (pc' := 413) dL_law_412 rfl rfl ?_
  refine WG.iload_n (pc' := 414) dL_law_413 rfl rfl ?_
  refine WG.iconst (v := 1) (pc' := 415) dL_law_414 rfl rfl ?_
  refine WG.iadd (pc' := 416) dL_law_415 rfl ?_
  refine WG.sldN (j := i + 1) (nI_1 i) (by omega) (pc' := 417) dL_law_416 rfl ?_
  refine WG.aload_n (pc' := 418) dL_law_417 rfl rfl ?_
  refine WG.iload_n (pc' := 419) dL_law_418 rfl rfl ?_
  refine WG.iconst (v := 2) (pc' := 420) dL_law_419 rfl rfl ?_
  refine WG.iadd (pc' := 421) dL_law_420 rfl ?_
  refine WG.sldN (j := i + 2) (nI_add i 2) (by omega) (pc' := 422) dL_law_421 rfl ?_
  refine WG.callV (x_of hX _ _) m_L_45 b_X5_of rfl rfl rfl (zrk_of rfl) rfl (Nat.le_of_ble_eq_true rfl) dL_law_422 (pc' := 425) rfl (fun r_ h_ q_ => ?_)
  obtain ⟨rfl, hX1, hF1⟩ := q_
  have hM1 := zBM hM hF1
  generalize h_ = h1 at *
  refine WG.aload_n (pc' := 426) dL_law_425 rfl rfl ?_
  refine WG.aload_n (pc' := 427) dL_law_426 rfl rfl ?_
  refine WG.iload_n (pc' := 428) dL_law_427 rfl rfl ?_
  refine WG.iconst (v := 1) (pc' := 429) dL_law_428 rfl rfl ?_
  refine WG.iadd (pc' := 430) dL_law_429 rfl ?_
  refine WG.sldN (j := i + 1) (nI_1 i) (by omega) (pc' := 431) dL_law_430 rfl ?_
  refine WG.aload_n (pc' := 432) dL_law_431 rfl rfl ?_
  refine WG.iload_n (pc' := 433) dL_law_432 rfl rfl ?_
  refine WG.iconst (v := 2) (pc' := 434) dL_law_433 rfl rfl ?_
  refine WG.iadd (pc' := 435) dL_law_434 rfl ?_
  refine WG.sldN (j := i + 2) (nI_add i 2) (by omega) (pc' := 436) dL_law_435 rfl ?_
  refine WG.callV (m_of hM1 _ _) m_L_49 b_X6_of rfl rfl rfl (zrk_of rfl) rfl (Nat.le_of_ble_eq_true rfl) dL_law_436 (pc' := 439) rfl (fun r_ h_ q_ => ?_)
  obtain ⟨rfl, hM2, hF2⟩ := q_
  refine WG.lif_eq (tgt := 1406) (pc1 := 440) (pc' := 443) dL_law_439 rfl dL_law_440 rfl (by decide) (fun c_440 => ?_) (fun c_440 => ?_)
  · exact K _ _ (zBX hX1 hF2) hM2 (zV_no hV _)
  · exact absurd rfl c_440
set_option maxHeartbeats 4000000 in
set_option maxRecDepth 100000 in
theorem law_8 (hi : i + 6 ≤ Ls ∧ Ls ≤ 3072) (hX : RX σ h) (hM : RM σ h) (hV : zV σ) (K : zLk Ls xs i) : zLc Ls xs i 445 h := by
  refine WG.aload_n (pc' := 446) dL_law_445 rfl rfl ?_
  refine WG.aload_n (pc' := 447) dL_law_446 rfl rfl ?_
  refine WG.iload_n (pc' := 448) dL_law_447 rfl rfl ?_
  refine WG.iconst (v := 1) (pc' := 449) dL_law_448 rfl rfl ?_
  refine WG.iadd (pc' := 450) dL_law_449 rfl ?_
  refine WG.sldN (j := i + 1) (nI_1 i) (by omega) (pc' := 451) dL_law_450 rfl ?_
  refine WG.callV (x_miss hX _) m_L_50 b_X5_miss rfl rfl rfl (zrk_of rfl) rfl (Nat.le_of_ble_eq_true rfl) dL_law_451 (pc' := 454) rfl (fun r_ h_ q_ => ?_)
  obtain ⟨rfl, hX1, hF1⟩ := q_
  have hM1 := zBM hM hF1
  generalize h_ = h1 at *
  refine WG.aload_n (pc' := 455) dL_law_454 rfl rfl ?_
  refine WG.aload_n (pc' := 456) dL_law_455 rfl rfl ?_
  refine WG.iload_n (pc' := 457) dL_law_456 rfl rfl ?_
  refine WG.iconst (v := 1) (pc' := 458) dL_law_457 rfl rfl ?_
  refine WG.iadd (pc' := 459) dL_law_458 rfl ?_
  refine WG.sldN (j := i + 1) (nI_1 i) (by omega) (pc' := 460) dL_law_459 rfl ?_
  refine WG.callV (m_miss hM1 _) m_L_54 b_X6_miss rfl rfl rfl (zrk_of rfl) rfl (Nat.le_of_ble_eq_true rfl) dL_law_460 (pc' := 463) rfl (fun r_ h_ q_ => ?_)
  obtain ⟨rfl, hM2, hF2⟩ := q_
  refine WG.lif_eq (tgt := 1406) (pc1 := 464) (pc' := 467) dL_law_463 rfl dL_law_464 rfl (by decide) (fun c_464 => ?_) (fun c_464 => ?_)
  · exact K _ _ (zBX hX1 hF2) hM2 (zV_no hV _)
  · exact absurd rfl c_464
set_option maxHeartbeats 4000000 in
set_option maxRecDepth 100000 in
theorem law_9 (hi : i + 6 ≤ Ls ∧ Ls ≤ 3072) (hX : RX σ h) (hM : RM σ h) (hV : zV σ) (K : zLk Ls xs i) : zLc Ls xs i 469 h := by
  refine WG.aload_n (pc' := 470) dL_law_469 rfl rfl ?_
  refine WG.aload_n (pc' := 471) dL_law_470 rfl rfl ?_
  refine WG.iload_n (pc' := 472) dL_law_471 rfl rfl ?_
  refine WG.iconst (v := 1) (pc' := 473) dL_law_472 rfl rfl ?_
  refine WG.iadd (pc' := 474) dL_law_473 rfl ?_
  refine WG.sldN (j := i + 1) (nI_1 i) (by omega) (pc' := 475) dL_law_474 rfl ?_
  refine WG.aload_n (pc' := 476) dL_law_475 rfl rfl ?_
  refine WG.iload_n (pc' := 477) dL_law_476 rfl rfl ?_
  refine WG.iconst (v := 2) (pc' := 478) dL_law_477 rfl rfl ?_
  refine WG.iadd (pc' := 479) dL_law_478 rfl ?_
  refine WG.sldN (j := i + 2) (nI_add i 2) (by omega) (pc' := 480) dL_law_479 rfl ?_
  refine WG.aload_n (pc' := 481) dL_law_480 rfl rfl ?_
  refine WG.iload_n (pc' := 482) dL_law_481 rfl rfl ?_
  refine WG.iconst (v := 3) (pc' := 483) dL_law_482 rfl rfl ?_
  refine WG.iadd (pc' := 484) dL_law_483 rfl ?_
  refine WG.sldN (j := i + 3) (nI_add i 3) (by omega) (pc' := 485) dL_law_484 rfl ?_
  refine WG.callV (x_spread hX hV.1 _ _ _) m_L_55 b_X5_spread rfl rfl rfl (zrk_of rfl) rfl (Nat.le_of_ble_eq_true rfl) dL_law_485 (pc' := 488) rfl (fun r_ h_ q_ => ?_)
  obtain ⟨rfl, hX1, hF1⟩ := q_
  have hM1 := zBM hM hF1
  generalize h_ = h1 at *
  refine WG.aload_n (pc' := 489) dL_law_488 rfl rfl ?_
  refine WG.aload_n (pc' := 490) dL_law_489 rfl rfl ?_
  refine WG.iload_n (pc' := 491) dL_law_490 rfl rfl ?_
  refine WG.iconst (v := 1) (pc' := 492) dL_law_491 rfl rfl ?_
  refine WG.iadd (pc' := 493) dL_law_492 rfl ?_
  refine WG.sldN (j := i + 1) (nI_1 i) (by omega) (pc' := 494) dL_law_493 rfl ?_
  refine WG.aload_n (pc' := 495) dL_law_494 rfl rfl ?_
  refine WG.iload_n (pc' := 496) dL_law_495 rfl rfl ?_
  refine WG.iconst (v := 2) (pc' := 497) dL_law_496 rfl rfl ?_
  refine WG.iadd (pc' := 498) dL_law_497 rfl ?_
  refine WG.sldN (j := i + 2) (nI_add i 2) (by omega) (pc' := 499) dL_law_498 rfl ?_
  refine WG.aload_n (pc' := 500) dL_law_499 rfl rfl ?_
  refine WG.iload_n (pc' := 501) dL_law_500 rfl rfl ?_
  refine WG.iconst (v := 3) (pc' := 502) dL_law_501 rfl rfl ?_
  refine WG.iadd (pc' := 503) dL_law_502 rfl ?_
  refine WG.sldN (j := i + 3) (nI_add i 3) (by omega) (pc' := 504) dL_law_503 rfl ?_
  refine WG.callV (m_spread hM1 hV.1 _ _ _) m_L_59 b_X6_spread rfl rfl rfl (zrk_of rfl) rfl (Nat.le_of_ble_eq_true rfl) dL_law_504 (pc' := 507) rfl (fun r_ h_ q_ => ?_)
  obtain ⟨rfl, hM2, hF2⟩ := q_
  refine WG.lif_eq (tgt := 1406) (pc1 := 508) (pc' := 511) dL_law_507 rfl dL_law_508 rfl (by decide) (fun c_508 => ?_) (fun c_508 => ?_)
  · exact K _ _ (zBX hX1 hF2) hM2 (zV_no hV _)
  · exact absurd rfl c_508
set_option maxHeartbeats 4000000 in
set_option maxRecDepth 100000 in
theorem law_10 (hi : i + 6 ≤ Ls ∧ Ls ≤ 3072) (hX : RX σ h) (hM : RM σ h) (hV : zV σ) (K : zLk Ls xs i) : zLc Ls xs i 513 h := by
  refine WG.aload_n (pc' := 514) dL_law_513 rfl rfl ?_
  refine WG.aload_n (pc' := 515) dL_law_514 rfl rfl ?_
  refine WG.iload_n (pc' := 516) dL_law_515 rfl rfl ?_
  refine WG.iconst (v := 1) (pc' := 517) dL_law_516 rfl rfl ?_
  refine WG.iadd (pc' := 518) dL_law_517 rfl ?_
  refine WG.sldN (j := i + 1) (nI_1 i) (by omega) (pc' := 519) dL_law_518 rfl ?_
  refine WG.aload_n (pc' := 520) dL_law_519 rfl rfl ?_
  refine WG.iload_n (pc' := 521) dL_law_520 rfl rfl ?_
  refine WG.iconst (v := 2) (pc' := 522) dL_law_521 rfl rfl ?_
  refine WG.iadd (pc' := 523) dL_law_522 rfl ?_
  refine WG.sldN (j := i + 2) (nI_add i 2) (by omega) (pc' := 524) dL_law_523 rfl ?_
  refine WG.aload_n (pc' := 525) dL_law_524 rfl rfl ?_
  refine WG.iload_n (pc' := 526) dL_law_525 rfl rfl ?_
  refine WG.iconst (v := 3) (pc' := 527) dL_law_526 rfl rfl ?_
  refine WG.iadd (pc' := 528) dL_law_527 rfl ?_
  refine WG.sldN (j := i + 3) (nI_add i 3) (by omega) (pc' := 529) dL_law_528 rfl ?_
  refine WG.callV (x_corner hX hV.1 _ _ _) m_L_60 b_X5_corner rfl rfl rfl (zrk_of rfl) rfl (Nat.le_of_ble_eq_true rfl) dL_law_529 (pc' := 532) rfl (fun r_ h_ q_ => ?_)
  obtain ⟨rfl, hX1, hF1⟩ := q_
  have hM1 := zBM hM hF1
  generalize h_ = h1 at *
  refine WG.aload_n (pc' := 533) dL_law_532 rfl rfl ?_
  refine WG.aload_n (pc' := 534) dL_law_533 rfl rfl ?_
  refine WG.iload_n (pc' := 535) dL_law_534 rfl rfl ?_
  refine WG.iconst (v := 1) (pc' := 536) dL_law_535 rfl rfl ?_
  refine WG.iadd (pc' := 537) dL_law_536 rfl ?_
  refine WG.sldN (j := i + 1) (nI_1 i) (by omega) (pc' := 538) dL_law_537 rfl ?_
  refine WG.aload_n (pc' := 539) dL_law_538 rfl rfl ?_
  refine WG.iload_n (pc' := 540) dL_law_539 rfl rfl ?_
  refine WG.iconst (v := 2) (pc' := 541) dL_law_540 rfl rfl ?_
  refine WG.iadd (pc' := 542) dL_law_541 rfl ?_
  refine WG.sldN (j := i + 2) (nI_add i 2) (by omega) (pc' := 543) dL_law_542 rfl ?_
  refine WG.aload_n (pc' := 544) dL_law_543 rfl rfl ?_
  refine WG.iload_n (pc' := 545) dL_law_544 rfl rfl ?_
  refine WG.iconst (v := 3) (pc' := 546) dL_law_545 rfl rfl ?_
  refine WG.iadd (pc' := 547) dL_law_546 rfl ?_
  refine WG.sldN (j := i + 3) (nI_add i 3) (by omega) (pc' := 548) dL_law_547 rfl ?_
  refine WG.callV (m_corner hM1 hV.1 _ _ _) m_L_63 b_X6_corner rfl rfl rfl (zrk_of rfl) rfl (Nat.le_of_ble_eq_true rfl) dL_law_548 (pc' := 551) rfl (fun r_ h_ q_ => ?_)
  obtain ⟨rfl, hM2, hF2⟩ := q_
  refine WG.lif_eq (tgt := 1406) (pc1 := 552) (pc' := 555) dL_law_551 rfl dL_law_552 rfl (by decide) (fun c_552 => ?_) (fun c_552 => ?_)
  · exact K _ _ (zBX hX1 hF2) hM2 (zV_no hV _)
  · exact absurd rfl c_552
set_option maxHeartbeats 4000000 in
set_option maxRecDepth 100000 in
theorem law_11 (hi : i + 6 ≤ Ls ∧ Ls ≤ 3072) (hX : RX σ h) (hM : RM σ h) (hV : zV σ) (K : zLk Ls xs i) : zLc Ls xs i 557 h := by
  refine WG.aload_n (pc' := 558) dL_law_557 rfl rfl ?_
  refine WG.aload_n (pc' := 559) dL_law_558 rfl rfl ?_
  refine WG.iload_n (pc' := 560) dL_law_559 rfl rfl ?_
  refine WG.iconst (v := 1) (pc' := 561) dL_law_560 rfl rfl ?_
  refine WG.iadd (pc' := 562) dL_law_561 rfl ?_
  refine WG.sldN (j := i + 1) (nI_1 i) (by omega) (pc' := 563) dL_law_562 rfl ?_
  refine WG.callV (x_area hX hV.1 _) m_L_64 b_X5_area rfl rfl rfl (zrk_of rfl) rfl (Nat.le_of_ble_eq_true rfl) dL_law_563 (pc' := 566) rfl (fun r_ h_ q_ => ?_)
  obtain ⟨rfl, hX1, hF1⟩ := q_
  have hM1 := zBM hM hF1
  generalize h_ = h1 at *
  refine WG.aload_n (pc' := 567) dL_law_566 rfl rfl ?_
  refine WG.aload_n (pc' := 568) dL_law_567 rfl rfl ?_
  refine WG.iload_n (pc' := 569) dL_law_568 rfl rfl ?_
  refine WG.iconst (v := 1) (pc' := 570) dL_law_569 rfl rfl ?_
  refine WG.iadd (pc' := 571) dL_law_570 rfl ?_
  refine WG.sldN (j := i + 1) (nI_1 i) (by omega) (pc' := 572) dL_law_571 rfl ?_
  refine WG.callV (m_area hM1 hV.1 _) m_L_67 b_X6_area rfl rfl rfl (zrk_of rfl) rfl (Nat.le_of_ble_eq_true rfl) dL_law_572 (pc' := 575) rfl (fun r_ h_ q_ => ?_)
  obtain ⟨rfl, hM2, hF2⟩ := q_
  refine WG.lif_eq (tgt := 1406) (pc1 := 576) (pc' := 579) dL_law_575 rfl dL_law_576 rfl (by decide) (fun c_576 => ?_) (fun c_576 => ?_)
  · exact K _ _ (zBX hX1 hF2) hM2 (zV_no hV _)
  · exact absurd rfl c_576
set_option maxHeartbeats 4000000 in
set_option maxRecDepth 100000 in
theorem law_12 (hi : i + 6 ≤ Ls ∧ Ls ≤ 3072) (hX : RX σ h) (hM : RM σ h) (hV : zV σ) (K : zLk Ls xs i) : zLc Ls xs i 581 h := by
  refine WG.aload_n (pc' := 582) dL_law_581 rfl rfl ?_
  refine WG.aload_n (pc' := 583) dL_law_582 rfl rfl ?_
  refine WG.iload_n (pc' := 584) dL_law_583 rfl rfl ?_
  refine WG.iconst (v := 1) (pc' := 585) dL_law_584 rfl rfl ?_
  refine WG.iadd (pc' := 586) dL_law_585 rfl ?_
  refine WG.sldN (j := i + 1) (nI_1 i) (by omega) (pc' := 587) dL_law_586 rfl ?_
  refine WG.callV (x_turn hX _) m_L_68 b_X5_turn rfl rfl rfl (zrk_of rfl) rfl (Nat.le_of_ble_eq_true rfl) dL_law_587 (pc' := 590) rfl (fun r_ h_ q_ => ?_)
  obtain ⟨rfl, hX1, hF1⟩ := q_
  have hM1 := zBM hM hF1
  generalize h_ = h1 at *
  refine WG.aload_n (pc' := 591) dL_law_590 rfl rfl ?_
  refine WG.aload_n (pc' := 592) dL_law_591 rfl rfl ?_
  refine WG.iload_n (pc' := 593) dL_law_592 rfl rfl ?_
  refine WG.iconst (v := 1) (pc' := 594) dL_law_593 rfl rfl ?_
  refine WG.iadd (pc' := 595) dL_law_594 rfl ?_
  refine WG.sldN (j := i + 1) (nI_1 i) (by omega) (pc' := 596) dL_law_595 rfl ?_
  refine WG.callV (m_turn hM1 hV.1 _) m_L_71 b_X6_turn rfl rfl rfl (zrk_of rfl) rfl (Nat.le_of_ble_eq_true rfl) dL_law_596 (pc' := 599) rfl (fun r_ h_ q_ => ?_)
  obtain ⟨rfl, hM2, hF2⟩ := q_
  refine WG.icmp_eq (tgt := 1406) (pc' := 602) dL_law_599 rfl (by decide) (fun c_599 => ?_) (fun c_599 => ?_)
  · exact K _ _ (zBX hX1 hF2) hM2 (zV_pi hV (fun c => hV))
  · exact absurd rfl c_599
set_option maxHeartbeats 4000000 in
set_option maxRecDepth 100000 in
theorem law_13 (hi : i + 6 ≤ Ls ∧ Ls ≤ 3072) (hX : RX σ h) (hM : RM σ h) (hV : zV σ) (K : zLk Ls xs i) : zLc Ls xs i 604 h := by
  refine WG.aload_n (pc' := 605) dL_law_604 rfl rfl ?_
  refine WG.aload_n (pc' := 606) dL_law_605 rfl rfl ?_
  refine WG.iload_n (pc' := 607) dL_law_606 rfl rfl ?_
  refine WG.iconst (v := 1) (pc' := 608) dL_law_607 rfl rfl ?_
  refine WG.iadd (pc' := 609) dL_law_608 rfl ?_
  refine WG.sldN (j := i + 1) (nI_1 i) (by omega) (pc' := 610) dL_law_609 rfl ?_
  refine WG.aload_n (pc' := 611) dL_law_610 rfl rfl ?_
  refine WG.iload_n (pc' := 612) dL_law_611 rfl rfl ?_
  refine WG.iconst (v := 2) (pc' := 613) dL_law_612 rfl rfl ?_
  refine WG.iadd (pc' := 614) dL_law_613 rfl ?_
  refine WG.sldN (j := i + 2) (nI_add i 2) (by omega) (pc' := 615) dL_law_614 rfl ?_
  refine WG.callV (x_cross hX _ _) m_L_72 b_X5_cross rfl rfl rfl (zrk_of rfl) rfl (Nat.le_of_ble_eq_true rfl) dL_law_615 (pc' := 618) rfl (fun r_ h_ q_ => ?_)
  obtain ⟨rfl, hX1, hF1⟩ := q_
  have hM1 := zBM hM hF1
  generalize h_ = h1 at *
  refine WG.aload_n (pc' := 619) dL_law_618 rfl rfl ?_
  refine WG.aload_n (pc' := 620) dL_law_619 rfl rfl ?_
  refine WG.iload_n (pc' := 621) dL_law_620 rfl rfl ?_
  refine WG.iconst (v := 1) (pc' := 622) dL_law_621 rfl rfl ?_
  refine WG.iadd (pc' := 623) dL_law_622 rfl ?_
  refine WG.sldN (j := i + 1) (nI_1 i) (by omega) (pc' := 624) dL_law_623 rfl ?_
  refine WG.aload_n (pc' := 625) dL_law_624 rfl rfl ?_
  refine WG.iload_n (pc' := 626) dL_law_625 rfl rfl ?_
  refine WG.iconst (v := 2) (pc' := 627) dL_law_626 rfl rfl ?_
  refine WG.iadd (pc' := 628) dL_law_627 rfl ?_
  refine WG.sldN (j := i + 2) (nI_add i 2) (by omega) (pc' := 629) dL_law_628 rfl ?_
  refine WG.callV (m_cross hM1 _ _) m_L_76 b_X6_cross_ rfl rfl rfl (zrk_of rfl) rfl (Nat.le_of_ble_eq_true rfl) dL_law_629 (pc' := 632) rfl (fun r_ h_ q_ => ?_)
  obtain ⟨rfl, hM2, hF2⟩ := q_
  refine WG.icmp_eq (tgt := 1406) (pc' := 635) dL_law_632 rfl (by decide) (fun c_632 => ?_) (fun c_632 => ?_)
  · exact K _ _ (zBX hX1 hF2) hM2 (zV_pi hV (fun c => hV))
  · exact absurd rfl c_632
set_option maxHeartbeats 4000000 in
set_option maxRecDepth 100000 in
theorem law_14 (hi : i + 6 ≤ Ls ∧ Ls ≤ 3072) (hX : RX σ h) (hM : RM σ h) (hV : zV σ) (K : zLk Ls xs i) : zLc Ls xs i 637 h := by
  refine WG.aload_n (pc' := 638) dL_law_637 rfl rfl ?_
  refine WG.callV (x_crosses hX) m_L_77 b_X5_crosses rfl rfl rfl (zrk_of rfl) rfl (Nat.le_of_ble_eq_true rfl) dL_law_638 (pc' := 641) rfl (fun r_ h_ q_ => ?_)
  obtain ⟨rfl, hX1, hF1⟩ := q_
  have hM1 := zBM hM hF1
  generalize h_ = h1 at *
  refine WG.aload_n (pc' := 642) dL_law_641 rfl rfl ?_
  refine WG.callV (m_crosses hM1) m_L_80 b_X6_crosses rfl rfl rfl (zrk_of rfl) rfl (Nat.le_of_ble_eq_true rfl) dL_law_642 (pc' := 645) rfl (fun r_ h_ q_ => ?_)
  obtain ⟨rfl, hM2, hF2⟩ := q_
  refine WG.icmp_eq (tgt := 1406) (pc' := 648) dL_law_645 rfl (by decide) (fun c_645 => ?_) (fun c_645 => ?_)
  · exact K _ _ (zBX hX1 hF2) hM2 (zV_pi hV (fun c => hV))
  · exact absurd rfl c_645
set_option maxHeartbeats 4000000 in
set_option maxRecDepth 100000 in
theorem law_15 (hi : i + 6 ≤ Ls ∧ Ls ≤ 3072) (hX : RX σ h) (hM : RM σ h) (hV : zV σ) (K : zLk Ls xs i) : zLc Ls xs i 650 h := by
  refine WG.aload_n (pc' := 651) dL_law_650 rfl rfl ?_
  refine WG.aload_n (pc' := 652) dL_law_651 rfl rfl ?_
  refine WG.iload_n (pc' := 653) dL_law_652 rfl rfl ?_
  refine WG.iconst (v := 1) (pc' := 654) dL_law_653 rfl rfl ?_
  refine WG.iadd (pc' := 655) dL_law_654 rfl ?_
  refine WG.sldN (j := i + 1) (nI_1 i) (by omega) (pc' := 656) dL_law_655 rfl ?_
  refine WG.callV (x_outline hX _) m_L_81 b_X5_outline rfl rfl rfl (zrk_of rfl) rfl (Nat.le_of_ble_eq_true rfl) dL_law_656 (pc' := 659) rfl (fun r_ h_ q_ => ?_)
  obtain ⟨rfl, hX1, hF1⟩ := q_
  have hM1 := zBM hM hF1
  generalize h_ = h1 at *
  refine WG.aload_n (pc' := 660) dL_law_659 rfl rfl ?_
  refine WG.aload_n (pc' := 661) dL_law_660 rfl rfl ?_
  refine WG.iload_n (pc' := 662) dL_law_661 rfl rfl ?_
  refine WG.iconst (v := 1) (pc' := 663) dL_law_662 rfl rfl ?_
  refine WG.iadd (pc' := 664) dL_law_663 rfl ?_
  refine WG.sldN (j := i + 1) (nI_1 i) (by omega) (pc' := 665) dL_law_664 rfl ?_
  refine WG.callV (m_outline hM1 hV.1 _) m_L_84 b_X6_outline rfl rfl rfl (zrk_of rfl) rfl (Nat.le_of_ble_eq_true rfl) dL_law_665 (pc' := 668) rfl (fun r_ h_ q_ => ?_)
  obtain ⟨rfl, hM2, hF2⟩ := q_
  refine WG.icmp_eq (tgt := 1406) (pc' := 671) dL_law_668 rfl (by decide) (fun c_668 => ?_) (fun c_668 => ?_)
  · exact K _ _ (zBX hX1 hF2) hM2 (zV_pi hV (fun c => hV))
  · exact absurd rfl c_668
set_option maxHeartbeats 4000000 in
set_option maxRecDepth 100000 in
theorem law_16 (hi : i + 6 ≤ Ls ∧ Ls ≤ 3072) (hX : RX σ h) (hM : RM σ h) (hV : zV σ) (K : zLk Ls xs i) : zLc Ls xs i 673 h := by
  refine WG.aload_n (pc' := 674) dL_law_673 rfl rfl ?_
  refine WG.aload_n (pc' := 675) dL_law_674 rfl rfl ?_
  refine WG.iload_n (pc' := 676) dL_law_675 rfl rfl ?_
  refine WG.iconst (v := 1) (pc' := 677) dL_law_676 rfl rfl ?_
  refine WG.iadd (pc' := 678) dL_law_677 rfl ?_
  refine WG.sldN (j := i + 1) (nI_1 i) (by omega) (pc' := 679) dL_law_678 rfl ?_
  refine WG.callV (x_hull hX hV.1 _) m_L_85 b_X5_hull rfl rfl rfl (zrk_of rfl) rfl (Nat.le_of_ble_eq_true rfl) dL_law_679 (pc' := 682) rfl (fun r_ h_ q_ => ?_)
  obtain ⟨rfl, hX1, hF1⟩ := q_
  have hM1 := zBM hM hF1
  generalize h_ = h1 at *
  refine WG.aload_n (pc' := 683) dL_law_682 rfl rfl ?_
  refine WG.aload_n (pc' := 684) dL_law_683 rfl rfl ?_
  refine WG.iload_n (pc' := 685) dL_law_684 rfl rfl ?_
  refine WG.iconst (v := 1) (pc' := 686) dL_law_685 rfl rfl ?_
  refine WG.iadd (pc' := 687) dL_law_686 rfl ?_
  refine WG.sldN (j := i + 1) (nI_1 i) (by omega) (pc' := 688) dL_law_687 rfl ?_
  refine WG.callV (m_hull hM1 hV.1 _) m_L_88 b_X6_hull rfl rfl rfl (zrk_of rfl) rfl (Nat.le_of_ble_eq_true rfl) dL_law_688 (pc' := 691) rfl (fun r_ h_ q_ => ?_)
  obtain ⟨rfl, hM2, hF2⟩ := q_
  refine WG.lif_eq (tgt := 1406) (pc1 := 692) (pc' := 695) dL_law_691 rfl dL_law_692 rfl (by decide) (fun c_692 => ?_) (fun c_692 => ?_)
  · exact K _ _ (zBX hX1 hF2) hM2 (zV_no hV _)
  · exact absurd rfl c_692
set_option maxHeartbeats 4000000 in
set_option maxRecDepth 100000 in
theorem law_17 (hi : i + 6 ≤ Ls ∧ Ls ≤ 3072) (hX : RX σ h) (hM : RM σ h) (hV : zV σ) (K : zLk Ls xs i) : zLc Ls xs i 697 h := by
  refine WG.aload_n (pc' := 698) dL_law_697 rfl rfl ?_
  refine WG.aload_n (pc' := 699) dL_law_698 rfl rfl ?_
  refine WG.iload_n (pc' := 700) dL_law_699 rfl rfl ?_
  refine WG.iconst (v := 1) (pc' := 701) dL_law_700 rfl rfl ?_
  refine WG.iadd (pc' := 702) dL_law_701 rfl ?_
  refine WG.sldN (j := i + 1) (nI_1 i) (by omega) (pc' := 703) dL_law_702 rfl ?_
  refine WG.aload_n (pc' := 704) dL_law_703 rfl rfl ?_
  refine WG.iload_n (pc' := 705) dL_law_704 rfl rfl ?_
  refine WG.iconst (v := 2) (pc' := 706) dL_law_705 rfl rfl ?_
  refine WG.iadd (pc' := 707) dL_law_706 rfl ?_
  refine WG.sldN (j := i + 2) (nI_add i 2) (by omega) (pc' := 708) dL_law_707 rfl ?_
  refine WG.callV (x_lost hX _ _) m_L_89 b_X5_lost rfl rfl rfl (zrk_of rfl) rfl (Nat.le_of_ble_eq_true rfl) dL_law_708 (pc' := 711) rfl (fun r_ h_ q_ => ?_)
  obtain ⟨rfl, hX1, hF1⟩ := q_
  have hM1 := zBM hM hF1
  generalize h_ = h1 at *
  refine WG.aload_n (pc' := 712) dL_law_711 rfl rfl ?_
  refine WG.aload_n (pc' := 713) dL_law_712 rfl rfl ?_
  refine WG.iload_n (pc' := 714) dL_law_713 rfl rfl ?_
  refine WG.iconst (v := 1) (pc' := 715) dL_law_714 rfl rfl ?_
  refine WG.iadd (pc' := 716) dL_law_715 rfl ?_
  refine WG.sldN (j := i + 1) (nI_1 i) (by omega) (pc' := 717) dL_law_716 rfl ?_
  refine WG.aload_n (pc' := 718) dL_law_717 rfl rfl ?_
  refine WG.iload_n (pc' := 719) dL_law_718 rfl rfl ?_
  refine WG.iconst (v := 2) (pc' := 720) dL_law_719 rfl rfl ?_
  refine WG.iadd (pc' := 721) dL_law_720 rfl ?_
  refine WG.sldN (j := i + 2) (nI_add i 2) (by omega) (pc' := 722) dL_law_721 rfl ?_
  refine WG.callV (m_lost hM1 hV.1 _ _) m_L_92 b_X6_lost rfl rfl rfl (zrk_of rfl) rfl (Nat.le_of_ble_eq_true rfl) dL_law_722 (pc' := 725) rfl (fun r_ h_ q_ => ?_)
  obtain ⟨rfl, hM2, hF2⟩ := q_
  refine WG.lif_eq (tgt := 1406) (pc1 := 726) (pc' := 729) dL_law_725 rfl dL_law_726 rfl (by decide) (fun c_726 => ?_) (fun c_726 => ?_)
  · exact K _ _ (zBX hX1 hF2) hM2 (zV_no hV _)
  · exact absurd rfl c_726
set_option maxHeartbeats 4000000 in
set_option maxRecDepth 100000 in
theorem law_18 (hi : i + 6 ≤ Ls ∧ Ls ≤ 3072) (hX : RX σ h) (hM : RM σ h) (hV : zV σ) (K : zLk Ls xs i) : zLc Ls xs i 731 h := by
  refine WG.aload_n (pc' := 732) dL_law_731 rfl rfl ?_
  refine WG.aload_n (pc' := 733) dL_law_732 rfl rfl ?_
  refine WG.iload_n (pc' := 734) dL_law_733 rfl rfl ?_
  refine WG.iconst (v := 1) (pc' := 735) dL_law_734 rfl rfl ?_
  refine WG.iadd (pc' := 736) dL_law_735 rfl ?_
  refine WG.sldN (j := i + 1) (nI_1 i) (by omega) (pc' := 737) dL_law_736 rfl ?_
  refine WG.aload_n (pc' := 738) dL_law_737 rfl rfl ?_
  refine WG.iload_n (pc' := 739) dL_law_738 rfl rfl ?_
  refine WG.iconst (v := 2) (pc' := 740) dL_law_739 rfl rfl ?_
  refine WG.iadd (pc' := 741) dL_law_740 rfl ?_
  refine WG.sldN (j := i + 2) (nI_add i 2) (by omega) (pc' := 742) dL_law_741 rfl ?_
  refine WG.aload_n (pc' := 743) dL_law_742 rfl rfl ?_
  refine WG.iload_n (pc' := 744) dL_law_743 rfl rfl ?_
  refine WG.iconst (v := 3) (pc' := 745) dL_law_744 rfl rfl ?_
  refine WG.iadd (pc' := 746) dL_law_745 rfl ?_
  refine WG.sldN (j := i + 3) (nI_add i 3) (by omega) (pc' := 747) dL_law_746 rfl ?_
  refine WG.aload_n (pc' := 748) dL_law_747 rfl rfl ?_
  refine WG.iload_n (pc' := 749) dL_law_748 rfl rfl ?_
  refine WG.iconst (v := 4) (pc' := 750) dL_law_749 rfl rfl ?_
  refine WG.iadd (pc' := 751) dL_law_750 rfl ?_
  refine WG.sldN (j := i + 4) (nI_add i 4) (by omega) (pc' := 752) dL_law_751 rfl ?_
  refine WG.callV (x_lengths hX hV.1 _ _ _ _) m_L_93 b_X5_lengths rfl rfl rfl (zrk_of rfl) rfl (Nat.le_of_ble_eq_true rfl) dL_law_752 (pc' := 755) rfl (fun r_ h_ q_ => ?_)
  obtain ⟨rfl, hX1, hF1⟩ := q_
  have hM1 := zBM hM hF1
  generalize h_ = h1 at *
  refine WG.aload_n (pc' := 756) dL_law_755 rfl rfl ?_
  refine WG.aload_n (pc' := 757) dL_law_756 rfl rfl ?_
  refine WG.iload_n (pc' := 758) dL_law_757 rfl rfl ?_
  refine WG.iconst (v := 1) (pc' := 759) dL_law_758 rfl rfl ?_
  refine WG.iadd (pc' := 760) dL_law_759 rfl ?_
  refine WG.sldN (j := i + 1) (nI_1 i) (by omega) (pc' := 761) dL_law_760 rfl ?_
  refine WG.aload_n (pc' := 762) dL_law_761 rfl rfl ?_
  refine WG.iload_n (pc' := 763) dL_law_762 rfl rfl ?_
  refine WG.iconst (v := 2) (pc' := 764) dL_law_763 rfl rfl ?_
  refine WG.iadd (pc' := 765) dL_law_764 rfl ?_
  refine WG.sldN (j := i + 2) (nI_add i 2) (by omega) (pc' := 766) dL_law_765 rfl ?_
  refine WG.aload_n (pc' := 767) dL_law_766 rfl rfl ?_
  refine WG.iload_n (pc' := 768) dL_law_767 rfl rfl ?_
  refine WG.iconst (v := 3) (pc' := 769) dL_law_768 rfl rfl ?_
  refine WG.iadd (pc' := 770) dL_law_769 rfl ?_
  refine WG.sldN (j := i + 3) (nI_add i 3) (by omega) (pc' := 771) dL_law_770 rfl ?_
  refine WG.aload_n (pc' := 772) dL_law_771 rfl rfl ?_
  refine WG.iload_n (pc' := 773) dL_law_772 rfl rfl ?_
  refine WG.iconst (v := 4) (pc' := 774) dL_law_773 rfl rfl ?_
  refine WG.iadd (pc' := 775) dL_law_774 rfl ?_
  refine WG.sldN (j := i + 4) (nI_add i 4) (by omega) (pc' := 776) dL_law_775 rfl ?_
  refine WG.callV (m_lengths hM1 hV.1 _ _ _ _) m_L_97 b_X6_lengths rfl rfl rfl (zrk_of rfl) rfl (Nat.le_of_ble_eq_true rfl) dL_law_776 (pc' := 779) rfl (fun r_ h_ q_ => ?_)
  obtain ⟨rfl, hM2, hF2⟩ := q_
  refine WG.lif_eq (tgt := 1406) (pc1 := 780) (pc' := 783) dL_law_779 rfl dL_law_780 rfl (by decide) (fun c_780 => ?_) (fun c_780 => ?_)
  · exact K _ _ (zBX hX1 hF2) hM2 (zV_no hV _)
  · exact absurd rfl c_780
set_option maxHeartbeats 4000000 in
set_option maxRecDepth 100000 in
theorem law_19 (hi : i + 6 ≤ Ls ∧ Ls ≤ 3072) (hX : RX σ h) (hM : RM σ h) (hV : zV σ) (K : zLk Ls xs i) : zLc Ls xs i 785 h := by
  refine WG.aload_n (pc' := 786) dL_law_785 rfl rfl ?_
  refine WG.aload_n (pc' := 787) dL_law_786 rfl rfl ?_
  refine WG.iload_n (pc' := 788) dL_law_787 rfl rfl ?_
  refine WG.iconst (v := 1) (pc' := 789) dL_law_788 rfl rfl ?_
  refine WG.iadd (pc' := 790) dL_law_789 rfl ?_
  refine WG.sldN (j := i + 1) (nI_1 i) (by omega) (pc' := 791) dL_law_790 rfl ?_
  refine WG.callV (x_worst hX _) m_L_98 b_X5_worst rfl rfl rfl (zrk_of rfl) rfl (Nat.le_of_ble_eq_true rfl) dL_law_791 (pc' := 794) rfl (fun r_ h_ q_ => ?_)
  obtain ⟨rfl, hX1, hF1⟩ := q_
  have hM1 := zBM hM hF1
  generalize h_ = h1 at *
  refine WG.aload_n (pc' := 795) dL_law_794 rfl rfl ?_
  refine WG.aload_n (pc' := 796) dL_law_795 rfl rfl ?_
  refine WG.iload_n (pc' := 797) dL_law_796 rfl rfl ?_
  refine WG.iconst (v := 1) (pc' := 798) dL_law_797 rfl rfl ?_
  refine WG.iadd (pc' := 799) dL_law_798 rfl ?_
  refine WG.sldN (j := i + 1) (nI_1 i) (by omega) (pc' := 800) dL_law_799 rfl ?_
  refine WG.callV (m_worst hM1 _) m_L_101 b_X6_worst rfl rfl rfl (zrk_of rfl) rfl (Nat.le_of_ble_eq_true rfl) dL_law_800 (pc' := 803) rfl (fun r_ h_ q_ => ?_)
  obtain ⟨rfl, hM2, hF2⟩ := q_
  refine WG.icmp_eq (tgt := 1406) (pc' := 806) dL_law_803 rfl (by decide) (fun c_803 => ?_) (fun c_803 => ?_)
  · exact K _ _ (zBX hX1 hF2) hM2 (zV_pi hV (fun c => hV))
  · exact absurd rfl c_803
set_option maxHeartbeats 4000000 in
set_option maxRecDepth 100000 in
theorem law_20 (hi : i + 6 ≤ Ls ∧ Ls ≤ 3072) (hX : RX σ h) (hM : RM σ h) (hV : zV σ) (K : zLk Ls xs i) : zLc Ls xs i 808 h := by
  refine WG.aload_n (pc' := 809) dL_law_808 rfl rfl ?_
  refine WG.aload_n (pc' := 810) dL_law_809 rfl rfl ?_
  refine WG.iload_n (pc' := 811) dL_law_810 rfl rfl ?_
  refine WG.iconst (v := 1) (pc' := 812) dL_law_811 rfl rfl ?_
  refine WG.iadd (pc' := 813) dL_law_812 rfl ?_
  refine WG.sldN (j := i + 1) (nI_1 i) (by omega) (pc' := 814) dL_law_813 rfl ?_
  refine WG.callV (x_order hX _) m_L_102 b_X5_order rfl rfl rfl (zrk_of rfl) rfl (Nat.le_of_ble_eq_true rfl) dL_law_814 (pc' := 817) rfl (fun r_ h_ q_ => ?_)
  obtain ⟨rfl, hX1, hF1⟩ := q_
  have hM1 := zBM hM hF1
  generalize h_ = h1 at *
  refine WG.aload_n (pc' := 818) dL_law_817 rfl rfl ?_
  refine WG.aload_n (pc' := 819) dL_law_818 rfl rfl ?_
  refine WG.iload_n (pc' := 820) dL_law_819 rfl rfl ?_
  refine WG.iconst (v := 1) (pc' := 821) dL_law_820 rfl rfl ?_
  refine WG.iadd (pc' := 822) dL_law_821 rfl ?_
  refine WG.sldN (j := i + 1) (nI_1 i) (by omega) (pc' := 823) dL_law_822 rfl ?_
  refine WG.callV (m_order hM1 hV.1 _) m_L_105 b_X6_order rfl rfl rfl (zrk_of rfl) rfl (Nat.le_of_ble_eq_true rfl) dL_law_823 (pc' := 826) rfl (fun r_ h_ q_ => ?_)
  obtain ⟨rfl, hM2, hF2⟩ := q_
  refine WG.icmp_eq (tgt := 1406) (pc' := 829) dL_law_826 rfl (by decide) (fun c_826 => ?_) (fun c_826 => ?_)
  · exact K _ _ (zBX hX1 hF2) hM2 (zV_pi hV (fun c => hV))
  · exact absurd rfl c_826
set_option maxHeartbeats 4000000 in
set_option maxRecDepth 100000 in
theorem law_21 (hi : i + 6 ≤ Ls ∧ Ls ≤ 3072) (hX : RX σ h) (hM : RM σ h) (hV : zV σ) (K : zLk Ls xs i) : zLc Ls xs i 831 h := by
  refine WG.aload_n (pc' := 832) dL_law_831 rfl rfl ?_
  refine WG.aload_n (pc' := 833) dL_law_832 rfl rfl ?_
  refine WG.iload_n (pc' := 834) dL_law_833 rfl rfl ?_
  refine WG.iconst (v := 1) (pc' := 835) dL_law_834 rfl rfl ?_
  refine WG.iadd (pc' := 836) dL_law_835 rfl ?_
  refine WG.sldN (j := i + 1) (nI_1 i) (by omega) (pc' := 837) dL_law_836 rfl ?_
  refine WG.aload_n (pc' := 838) dL_law_837 rfl rfl ?_
  refine WG.iload_n (pc' := 839) dL_law_838 rfl rfl ?_
  refine WG.iconst (v := 2) (pc' := 840) dL_law_839 rfl rfl ?_
  refine WG.iadd (pc' := 841) dL_law_840 rfl ?_
  refine WG.sldN (j := i + 2) (nI_add i 2) (by omega) (pc' := 842) dL_law_841 rfl ?_
  refine WG.aload_n (pc' := 843) dL_law_842 rfl rfl ?_
  refine WG.iload_n (pc' := 844) dL_law_843 rfl rfl ?_
  refine WG.iconst (v := 3) (pc' := 845) dL_law_844 rfl rfl ?_
  refine WG.iadd (pc' := 846) dL_law_845 rfl ?_
  refine WG.sldN (j := i + 3) (nI_add i 3) (by omega) (pc' := 847) dL_law_846 rfl ?_
  refine WG.callV (x_likely hX _ _ _) m_L_106 b_X5_likely rfl rfl rfl (zrk_of rfl) rfl (Nat.le_of_ble_eq_true rfl) dL_law_847 (pc' := 850) rfl (fun r_ h_ q_ => ?_)
  obtain ⟨rfl, hX1, hF1⟩ := q_
  have hM1 := zBM hM hF1
  generalize h_ = h1 at *
  refine WG.aload_n (pc' := 851) dL_law_850 rfl rfl ?_
  refine WG.aload_n (pc' := 852) dL_law_851 rfl rfl ?_
  refine WG.iload_n (pc' := 853) dL_law_852 rfl rfl ?_
  refine WG.iconst (v := 1) (pc' := 854) dL_law_853 rfl rfl ?_
  refine WG.iadd (pc' := 855) dL_law_854 rfl ?_
  refine WG.sldN (j := i + 1) (nI_1 i) (by omega) (pc' := 856) dL_law_855 rfl ?_
  refine WG.aload_n (pc' := 857) dL_law_856 rfl rfl ?_
  refine WG.iload_n (pc' := 858) dL_law_857 rfl rfl ?_
  refine WG.iconst (v := 2) (pc' := 859) dL_law_858 rfl rfl ?_
  refine WG.iadd (pc' := 860) dL_law_859 rfl ?_
  refine WG.sldN (j := i + 2) (nI_add i 2) (by omega) (pc' := 861) dL_law_860 rfl ?_
  refine WG.aload_n (pc' := 862) dL_law_861 rfl rfl ?_
  refine WG.iload_n (pc' := 863) dL_law_862 rfl rfl ?_
  refine WG.iconst (v := 3) (pc' := 864) dL_law_863 rfl rfl ?_
  refine WG.iadd (pc' := 865) dL_law_864 rfl ?_
  refine WG.sldN (j := i + 3) (nI_add i 3) (by omega) (pc' := 866) dL_law_865 rfl ?_
  refine WG.callV (m_likely hM1 _ _ _) m_L_109 b_X6_likely rfl rfl rfl (zrk_of rfl) rfl (Nat.le_of_ble_eq_true rfl) dL_law_866 (pc' := 869) rfl (fun r_ h_ q_ => ?_)
  obtain ⟨rfl, hM2, hF2⟩ := q_
  refine WG.lif_eq (tgt := 1406) (pc1 := 870) (pc' := 873) dL_law_869 rfl dL_law_870 rfl (by decide) (fun c_870 => ?_) (fun c_870 => ?_)
  · exact K _ _ (zBX hX1 hF2) hM2 (zV_no hV _)
  · exact absurd rfl c_870
set_option maxHeartbeats 4000000 in
set_option maxRecDepth 100000 in
theorem law_22 (hi : i + 6 ≤ Ls ∧ Ls ≤ 3072) (hX : RX σ h) (hM : RM σ h) (hV : zV σ) (K : zLk Ls xs i) : zLc Ls xs i 875 h := by
  refine WG.aload_n (pc' := 876) dL_law_875 rfl rfl ?_
  refine WG.aload_n (pc' := 877) dL_law_876 rfl rfl ?_
  refine WG.iload_n (pc' := 878) dL_law_877 rfl rfl ?_
  refine WG.iconst (v := 1) (pc' := 879) dL_law_878 rfl rfl ?_
  refine WG.iadd (pc' := 880) dL_law_879 rfl ?_
  refine WG.sldN (j := i + 1) (nI_1 i) (by omega) (pc' := 881) dL_law_880 rfl ?_
  refine WG.aload_n (pc' := 882) dL_law_881 rfl rfl ?_
  refine WG.iload_n (pc' := 883) dL_law_882 rfl rfl ?_
  refine WG.iconst (v := 2) (pc' := 884) dL_law_883 rfl rfl ?_
  refine WG.iadd (pc' := 885) dL_law_884 rfl ?_
  refine WG.sldN (j := i + 2) (nI_add i 2) (by omega) (pc' := 886) dL_law_885 rfl ?_
  refine WG.aload_n (pc' := 887) dL_law_886 rfl rfl ?_
  refine WG.iload_n (pc' := 888) dL_law_887 rfl rfl ?_
  refine WG.iconst (v := 3) (pc' := 889) dL_law_888 rfl rfl ?_
  refine WG.iadd (pc' := 890) dL_law_889 rfl ?_
  refine WG.sldN (j := i + 3) (nI_add i 3) (by omega) (pc' := 891) dL_law_890 rfl ?_
  refine WG.callV (x_parcel hX hV.1 _ _ _) m_L_110 b_X5_parcel rfl rfl rfl (zrk_of rfl) rfl (Nat.le_of_ble_eq_true rfl) dL_law_891 (pc' := 894) rfl (fun r_ h_ q_ => ?_)
  obtain ⟨rfl, hX1, hF1⟩ := q_
  have hM1 := zBM hM hF1
  generalize h_ = h1 at *
  refine WG.aload_n (pc' := 895) dL_law_894 rfl rfl ?_
  refine WG.aload_n (pc' := 896) dL_law_895 rfl rfl ?_
  refine WG.iload_n (pc' := 897) dL_law_896 rfl rfl ?_
  refine WG.iconst (v := 1) (pc' := 898) dL_law_897 rfl rfl ?_
  refine WG.iadd (pc' := 899) dL_law_898 rfl ?_
  refine WG.sldN (j := i + 1) (nI_1 i) (by omega) (pc' := 900) dL_law_899 rfl ?_
  refine WG.aload_n (pc' := 901) dL_law_900 rfl rfl ?_
  refine WG.iload_n (pc' := 902) dL_law_901 rfl rfl ?_
  refine WG.iconst (v := 2) (pc' := 903) dL_law_902 rfl rfl ?_
  refine WG.iadd (pc' := 904) dL_law_903 rfl ?_
  refine WG.sldN (j := i + 2) (nI_add i 2) (by omega) (pc' := 905) dL_law_904 rfl ?_
  refine WG.aload_n (pc' := 906) dL_law_905 rfl rfl ?_
  refine WG.iload_n (pc' := 907) dL_law_906 rfl rfl ?_
  refine WG.iconst (v := 3) (pc' := 908) dL_law_907 rfl rfl ?_
  refine WG.iadd (pc' := 909) dL_law_908 rfl ?_
  refine WG.sldN (j := i + 3) (nI_add i 3) (by omega) (pc' := 910) dL_law_909 rfl ?_
  refine WG.callV (m_parcel hM1 hV.1 _ _ _) m_L_113 b_X6_parcel rfl rfl rfl (zrk_of rfl) rfl (Nat.le_of_ble_eq_true rfl) dL_law_910 (pc' := 913) rfl (fun r_ h_ q_ => ?_)
  obtain ⟨rfl, hM2, hF2⟩ := q_
  refine WG.lif_eq (tgt := 1406) (pc1 := 914) (pc' := 917) dL_law_913 rfl dL_law_914 rfl (by decide) (fun c_914 => ?_) (fun c_914 => ?_)
  · exact K _ _ (zBX hX1 hF2) hM2 (zV_no hV _)
  · exact absurd rfl c_914
set_option maxHeartbeats 4000000 in
set_option maxRecDepth 100000 in
theorem law_23 (hi : i + 6 ≤ Ls ∧ Ls ≤ 3072) (hX : RX σ h) (hM : RM σ h) (hV : zV σ) (K : zLk Ls xs i) : zLc Ls xs i 919 h := by
  refine WG.aload_n (pc' := 920) dL_law_919 rfl rfl ?_
  refine WG.aload_n (pc' := 921) dL_law_920 rfl rfl ?_
  refine WG.iload_n (pc' := 922) dL_law_921 rfl rfl ?_
  refine WG.iconst (v := 1) (pc' := 923) dL_law_922 rfl rfl ?_
  refine WG.iadd (pc' := 924) dL_law_923 rfl ?_
  refine WG.sldN (j := i + 1) (nI_1 i) (by omega) (pc' := 925) dL_law_924 rfl ?_
  refine WG.aload_n (pc' := 926) dL_law_925 rfl rfl ?_
  refine WG.iload_n (pc' := 927) dL_law_926 rfl rfl ?_
  refine WG.iconst (v := 2) (pc' := 928) dL_law_927 rfl rfl ?_
  refine WG.iadd (pc' := 929) dL_law_928 rfl ?_
  refine WG.sldN (j := i + 2) (nI_add i 2) (by omega) (pc' := 930) dL_law_929 rfl ?_
  refine WG.aload_n (pc' := 931) dL_law_930 rfl rfl ?_
  refine WG.iload_n (pc' := 932) dL_law_931 rfl rfl ?_
  refine WG.iconst (v := 3) (pc' := 933) dL_law_932 rfl rfl ?_
  refine WG.iadd (pc' := 934) dL_law_933 rfl ?_
  refine WG.sldN (j := i + 3) (nI_add i 3) (by omega) (pc' := 935) dL_law_934 rfl ?_
  refine WG.callV (x_cut hX hV.1 _ _ _) m_L_114 b_X5_cut rfl rfl rfl (zrk_of rfl) rfl (Nat.le_of_ble_eq_true rfl) dL_law_935 (pc' := 938) rfl (fun r_ h_ q_ => ?_)
  obtain ⟨rfl, hX1, hF1⟩ := q_
  have hM1 := zBM hM hF1
  generalize h_ = h1 at *
  refine WG.aload_n (pc' := 939) dL_law_938 rfl rfl ?_
  refine WG.aload_n (pc' := 940) dL_law_939 rfl rfl ?_
  refine WG.iload_n (pc' := 941) dL_law_940 rfl rfl ?_
  refine WG.iconst (v := 1) (pc' := 942) dL_law_941 rfl rfl ?_
  refine WG.iadd (pc' := 943) dL_law_942 rfl ?_
  refine WG.sldN (j := i + 1) (nI_1 i) (by omega) (pc' := 944) dL_law_943 rfl ?_
  refine WG.aload_n (pc' := 945) dL_law_944 rfl rfl ?_
  refine WG.iload_n (pc' := 946) dL_law_945 rfl rfl ?_
  refine WG.iconst (v := 2) (pc' := 947) dL_law_946 rfl rfl ?_
  refine WG.iadd (pc' := 948) dL_law_947 rfl ?_
  refine WG.sldN (j := i + 2) (nI_add i 2) (by omega) (pc' := 949) dL_law_948 rfl ?_
  refine WG.aload_n (pc' := 950) dL_law_949 rfl rfl ?_
  refine WG.iload_n (pc' := 951) dL_law_950 rfl rfl ?_
  refine WG.iconst (v := 3) (pc' := 952) dL_law_951 rfl rfl ?_
  refine WG.iadd (pc' := 953) dL_law_952 rfl ?_
  refine WG.sldN (j := i + 3) (nI_add i 3) (by omega) (pc' := 954) dL_law_953 rfl ?_
  refine WG.callV (m_cut hM1 hV.1 _ _ _) m_L_117 b_X6_cut rfl rfl rfl (zrk_of rfl) rfl (Nat.le_of_ble_eq_true rfl) dL_law_954 (pc' := 957) rfl (fun r_ h_ q_ => ?_)
  obtain ⟨rfl, hM2, hF2⟩ := q_
  refine WG.lif_eq (tgt := 1406) (pc1 := 958) (pc' := 961) dL_law_957 rfl dL_law_958 rfl (by decide) (fun c_958 => ?_) (fun c_958 => ?_)
  · exact K _ _ (zBX hX1 hF2) hM2 (zV_no hV _)
  · exact absurd rfl c_958
set_option maxHeartbeats 4000000 in
set_option maxRecDepth 100000 in
theorem law_24 (hi : i + 6 ≤ Ls ∧ Ls ≤ 3072) (hX : RX σ h) (hM : RM σ h) (hV : zV σ) (K : zLk Ls xs i) : zLc Ls xs i 963 h := by
  refine WG.aload_n (pc' := 964) dL_law_963 rfl rfl ?_
  refine WG.aload_n (pc' := 965) dL_law_964 rfl rfl ?_
  refine WG.iload_n (pc' := 966) dL_law_965 rfl rfl ?_
  refine WG.iconst (v := 1) (pc' := 967) dL_law_966 rfl rfl ?_
  refine WG.iadd (pc' := 968) dL_law_967 rfl ?_
  refine WG.sldN (j := i + 1) (nI_1 i) (by omega) (pc' := 969) dL_law_968 rfl ?_
  refine WG.aload_n (pc' := 970) dL_law_969 rfl rfl ?_
  refine WG.iload_n (pc' := 971) dL_law_970 rfl rfl ?_
  refine WG.iconst (v := 2) (pc' := 972) dL_law_971 rfl rfl ?_
  refine WG.iadd (pc' := 973) dL_law_972 rfl ?_
  refine WG.sldN (j := i + 2) (nI_add i 2) (by omega) (pc' := 974) dL_law_973 rfl ?_
  refine WG.callV (x_whatIs hX _ _) m_L_118 b_X5_whatIs rfl rfl rfl (zrk_of rfl) rfl (Nat.le_of_ble_eq_true rfl) dL_law_974 (pc' := 977) rfl (fun r_ h_ q_ => ?_)
  obtain ⟨rfl, hX1, hF1⟩ := q_
  have hM1 := zBM hM hF1
  generalize h_ = h1 at *
  refine WG.aload_n (pc' := 978) dL_law_977 rfl rfl ?_
  refine WG.aload_n (pc' := 979) dL_law_978 rfl rfl ?_
  refine WG.iload_n (pc' := 980) dL_law_979 rfl rfl ?_
  refine WG.iconst (v := 1) (pc' := 981) dL_law_980 rfl rfl ?_
  refine WG.iadd (pc' := 982) dL_law_981 rfl ?_
  refine WG.sldN (j := i + 1) (nI_1 i) (by omega) (pc' := 983) dL_law_982 rfl ?_
  refine WG.aload_n (pc' := 984) dL_law_983 rfl rfl ?_
  refine WG.iload_n (pc' := 985) dL_law_984 rfl rfl ?_
  refine WG.iconst (v := 2) (pc' := 986) dL_law_985 rfl rfl ?_
  refine WG.iadd (pc' := 987) dL_law_986 rfl ?_
  refine WG.sldN (j := i + 2) (nI_add i 2) (by omega) (pc' := 988) dL_law_987 rfl ?_
  refine WG.callV (m_whatIs hM1 _ _) m_L_121 b_X6_whatIs rfl rfl rfl (zrk_of rfl) rfl (Nat.le_of_ble_eq_true rfl) dL_law_988 (pc' := 991) rfl (fun r_ h_ q_ => ?_)
  obtain ⟨rfl, hM2, hF2⟩ := q_
  refine WG.icmp_eq (tgt := 1406) (pc' := 994) dL_law_991 rfl (by decide) (fun c_991 => ?_) (fun c_991 => ?_)
  · exact K _ _ (zBX hX1 hF2) hM2 (zV_pi hV (fun c => hV))
  · exact absurd rfl c_991
set_option maxHeartbeats 4000000 in
set_option maxRecDepth 100000 in
theorem law_25 (hi : i + 6 ≤ Ls ∧ Ls ≤ 3072) (hX : RX σ h) (hM : RM σ h) (hV : zV σ) (K : zLk Ls xs i) : zLc Ls xs i 996 h := by
  refine WG.aload_n (pc' := 997) dL_law_996 rfl rfl ?_
  refine WG.aload_n (pc' := 998) dL_law_997 rfl rfl ?_
  refine WG.iload_n (pc' := 999) dL_law_998 rfl rfl ?_
  refine WG.iconst (v := 1) (pc' := 1000) dL_law_999 rfl rfl ?_
  refine WG.iadd (pc' := 1001) dL_law_1000 rfl ?_
  refine WG.sldN (j := i + 1) (nI_1 i) (by omega) (pc' := 1002) dL_law_1001 rfl ?_
  refine WG.callV (x_row hX _) m_L_122 b_X5_row rfl rfl rfl (zrk_of rfl) rfl (Nat.le_of_ble_eq_true rfl) dL_law_1002 (pc' := 1005) rfl (fun r_ h_ q_ => ?_)
  obtain ⟨rfl, hX1, hF1⟩ := q_
  have hM1 := zBM hM hF1
  generalize h_ = h1 at *
  refine WG.aload_n (pc' := 1006) dL_law_1005 rfl rfl ?_
  refine WG.aload_n (pc' := 1007) dL_law_1006 rfl rfl ?_
  refine WG.iload_n (pc' := 1008) dL_law_1007 rfl rfl ?_
  refine WG.iconst (v := 1) (pc' := 1009) dL_law_1008 rfl rfl ?_
  refine WG.iadd (pc' := 1010) dL_law_1009 rfl ?_
  refine WG.sldN (j := i + 1) (nI_1 i) (by omega) (pc' := 1011) dL_law_1010 rfl ?_
  refine WG.callV (m_row hM1 _) m_L_125 b_X6_row rfl rfl rfl (zrk_of rfl) rfl (Nat.le_of_ble_eq_true rfl) dL_law_1011 (pc' := 1014) rfl (fun r_ h_ q_ => ?_)
  obtain ⟨rfl, hM2, hF2⟩ := q_
  refine WG.icmp_eq (tgt := 1406) (pc' := 1017) dL_law_1014 rfl (by decide) (fun c_1014 => ?_) (fun c_1014 => ?_)
  · exact K _ _ (zBX hX1 hF2) hM2 (zV_pi hV (fun c => zV_TO hV))
  · exact absurd rfl c_1014
set_option maxHeartbeats 4000000 in
set_option maxRecDepth 100000 in
theorem law_26 (hi : i + 6 ≤ Ls ∧ Ls ≤ 3072) (hX : RX σ h) (hM : RM σ h) (hV : zV σ) (K : zLk Ls xs i) : zLc Ls xs i 1019 h := by
  refine WG.aload_n (pc' := 1020) dL_law_1019 rfl rfl ?_
  refine WG.callV (x_clear hX) m_L_126 b_X5_clear rfl rfl rfl (zrk_of rfl) rfl (Nat.le_of_ble_eq_true rfl) dL_law_1020 (pc' := 1023) rfl (fun r_ h_ q_ => ?_)
  obtain ⟨rfl, hX1, hF1⟩ := q_
  have hM1 := zBM hM hF1
  generalize h_ = h1 at *
  refine WG.aload_n (pc' := 1024) dL_law_1023 rfl rfl ?_
  refine WG.callV (m_clear hM1) m_L_129 b_X6_clear rfl rfl rfl (zrk_of rfl) rfl (Nat.le_of_ble_eq_true rfl) dL_law_1024 (pc' := 1027) rfl (fun r_ h_ q_ => ?_)
  obtain ⟨rfl, hM2, hF2⟩ := q_
  refine WG.icmp_eq (tgt := 1406) (pc' := 1030) dL_law_1027 rfl (by decide) (fun c_1027 => ?_) (fun c_1027 => ?_)
  · exact K _ _ (zBX hX1 hF2) hM2 (zV_pi hV (fun c => zV_TO hV))
  · exact absurd rfl c_1027
set_option maxHeartbeats 4000000 in
set_option maxRecDepth 100000 in
theorem law_27 (hi : i + 6 ≤ Ls ∧ Ls ≤ 3072) (hX : RX σ h) (hM : RM σ h) (hV : zV σ) (K : zLk Ls xs i) : zLc Ls xs i 1032 h := by
  refine WG.aload_n (pc' := 1033) dL_law_1032 rfl rfl ?_
  refine WG.aload_n (pc' := 1034) dL_law_1033 rfl rfl ?_
  refine WG.iload_n (pc' := 1035) dL_law_1034 rfl rfl ?_
  refine WG.iconst (v := 1) (pc' := 1036) dL_law_1035 rfl rfl ?_
  refine WG.iadd (pc' := 1037) dL_law_1036 rfl ?_
  refine WG.sldN (j := i + 1) (nI_1 i) (by omega) (pc' := 1038) dL_law_1037 rfl ?_
  refine WG.aload_n (pc' := 1039) dL_law_1038 rfl rfl ?_
  refine WG.iload_n (pc' := 1040) dL_law_1039 rfl rfl ?_
  refine WG.iconst (v := 2) (pc' := 1041) dL_law_1040 rfl rfl ?_
  refine WG.iadd (pc' := 1042) dL_law_1041 rfl ?_
  refine WG.sldN (j := i + 2) (nI_add i 2) (by omega) (pc' := 1043) dL_law_1042 rfl ?_
  refine WG.aload_n (pc' := 1044) dL_law_1043 rfl rfl ?_
  refine WG.iload_n (pc' := 1045) dL_law_1044 rfl rfl ?_
  refine WG.iconst (v := 3) (pc' := 1046) dL_law_1045 rfl rfl ?_
  refine WG.iadd (pc' := 1047) dL_law_1046 rfl ?_
  refine WG.sldN (j := i + 3) (nI_add i 3) (by omega) (pc' := 1048) dL_law_1047 rfl ?_
  refine WG.callV (x_lots hX _ _ _) m_L_130 b_X5_lots rfl rfl rfl (zrk_of rfl) rfl (Nat.le_of_ble_eq_true rfl) dL_law_1048 (pc' := 1051) rfl (fun r_ h_ q_ => ?_)
  obtain ⟨rfl, hX1, hF1⟩ := q_
  have hM1 := zBM hM hF1
  generalize h_ = h1 at *
  refine WG.aload_n (pc' := 1052) dL_law_1051 rfl rfl ?_
  refine WG.aload_n (pc' := 1053) dL_law_1052 rfl rfl ?_
  refine WG.iload_n (pc' := 1054) dL_law_1053 rfl rfl ?_
  refine WG.iconst (v := 1) (pc' := 1055) dL_law_1054 rfl rfl ?_
  refine WG.iadd (pc' := 1056) dL_law_1055 rfl ?_
  refine WG.sldN (j := i + 1) (nI_1 i) (by omega) (pc' := 1057) dL_law_1056 rfl ?_
  refine WG.aload_n (pc' := 1058) dL_law_1057 rfl rfl ?_
  refine WG.iload_n (pc' := 1059) dL_law_1058 rfl rfl ?_
  refine WG.iconst (v := 2) (pc' := 1060) dL_law_1059 rfl rfl ?_
  refine WG.iadd (pc' := 1061) dL_law_1060 rfl ?_
  refine WG.sldN (j := i + 2) (nI_add i 2) (by omega) (pc' := 1062) dL_law_1061 rfl ?_
  refine WG.aload_n (pc' := 1063) dL_law_1062 rfl rfl ?_
  refine WG.iload_n (pc' := 1064) dL_law_1063 rfl rfl ?_
  refine WG.iconst (v := 3) (pc' := 1065) dL_law_1064 rfl rfl ?_
  refine WG.iadd (pc' := 1066) dL_law_1065 rfl ?_
  refine WG.sldN (j := i + 3) (nI_add i 3) (by omega) (pc' := 1067) dL_law_1066 rfl ?_
  refine WG.callV (m_lots hM1 _ _ _) m_L_133 b_X6_lots rfl rfl rfl (zrk_of rfl) rfl (Nat.le_of_ble_eq_true rfl) dL_law_1067 (pc' := 1070) rfl (fun r_ h_ q_ => ?_)
  obtain ⟨rfl, hM2, hF2⟩ := q_
  refine WG.icmp_eq (tgt := 1406) (pc' := 1073) dL_law_1070 rfl (by decide) (fun c_1070 => ?_) (fun c_1070 => ?_)
  · exact K _ _ (zBX hX1 hF2) hM2 (zV_pi hV (fun c => hV))
  · exact absurd rfl c_1070
set_option maxHeartbeats 4000000 in
set_option maxRecDepth 100000 in
theorem law_28 (hi : i + 6 ≤ Ls ∧ Ls ≤ 3072) (hX : RX σ h) (hM : RM σ h) (hV : zV σ) (K : zLk Ls xs i) : zLc Ls xs i 1075 h := by
  refine WG.aload_n (pc' := 1076) dL_law_1075 rfl rfl ?_
  refine WG.aload_n (pc' := 1077) dL_law_1076 rfl rfl ?_
  refine WG.iload_n (pc' := 1078) dL_law_1077 rfl rfl ?_
  refine WG.iconst (v := 1) (pc' := 1079) dL_law_1078 rfl rfl ?_
  refine WG.iadd (pc' := 1080) dL_law_1079 rfl ?_
  refine WG.sldN (j := i + 1) (nI_1 i) (by omega) (pc' := 1081) dL_law_1080 rfl ?_
  refine WG.aload_n (pc' := 1082) dL_law_1081 rfl rfl ?_
  refine WG.iload_n (pc' := 1083) dL_law_1082 rfl rfl ?_
  refine WG.iconst (v := 2) (pc' := 1084) dL_law_1083 rfl rfl ?_
  refine WG.iadd (pc' := 1085) dL_law_1084 rfl ?_
  refine WG.sldN (j := i + 2) (nI_add i 2) (by omega) (pc' := 1086) dL_law_1085 rfl ?_
  refine WG.aload_n (pc' := 1087) dL_law_1086 rfl rfl ?_
  refine WG.iload_n (pc' := 1088) dL_law_1087 rfl rfl ?_
  refine WG.iconst (v := 3) (pc' := 1089) dL_law_1088 rfl rfl ?_
  refine WG.iadd (pc' := 1090) dL_law_1089 rfl ?_
  refine WG.sldN (j := i + 3) (nI_add i 3) (by omega) (pc' := 1091) dL_law_1090 rfl ?_
  refine WG.callV (x_list hX _ _ _) m_L_134 b_X5_list rfl rfl rfl (zrk_of rfl) rfl (Nat.le_of_ble_eq_true rfl) dL_law_1091 (pc' := 1094) rfl (fun r_ h_ q_ => ?_)
  obtain ⟨rfl, hX1, hF1⟩ := q_
  have hM1 := zBM hM hF1
  generalize h_ = h1 at *
  refine WG.aload_n (pc' := 1095) dL_law_1094 rfl rfl ?_
  refine WG.aload_n (pc' := 1096) dL_law_1095 rfl rfl ?_
  refine WG.iload_n (pc' := 1097) dL_law_1096 rfl rfl ?_
  refine WG.iconst (v := 1) (pc' := 1098) dL_law_1097 rfl rfl ?_
  refine WG.iadd (pc' := 1099) dL_law_1098 rfl ?_
  refine WG.sldN (j := i + 1) (nI_1 i) (by omega) (pc' := 1100) dL_law_1099 rfl ?_
  refine WG.aload_n (pc' := 1101) dL_law_1100 rfl rfl ?_
  refine WG.iload_n (pc' := 1102) dL_law_1101 rfl rfl ?_
  refine WG.iconst (v := 2) (pc' := 1103) dL_law_1102 rfl rfl ?_
  refine WG.iadd (pc' := 1104) dL_law_1103 rfl ?_
  refine WG.sldN (j := i + 2) (nI_add i 2) (by omega) (pc' := 1105) dL_law_1104 rfl ?_
  refine WG.aload_n (pc' := 1106) dL_law_1105 rfl rfl ?_
  refine WG.iload_n (pc' := 1107) dL_law_1106 rfl rfl ?_
  refine WG.iconst (v := 3) (pc' := 1108) dL_law_1107 rfl rfl ?_
  refine WG.iadd (pc' := 1109) dL_law_1108 rfl ?_
  refine WG.sldN (j := i + 3) (nI_add i 3) (by omega) (pc' := 1110) dL_law_1109 rfl ?_
  refine WG.callV (m_list hM1 _ _ _) m_L_137 b_X6_list rfl rfl rfl (zrk_of rfl) rfl (Nat.le_of_ble_eq_true rfl) dL_law_1110 (pc' := 1113) rfl (fun r_ h_ q_ => ?_)
  obtain ⟨rfl, hM2, hF2⟩ := q_
  refine WG.icmp_eq (tgt := 1406) (pc' := 1116) dL_law_1113 rfl (by decide) (fun c_1113 => ?_) (fun c_1113 => ?_)
  · exact K _ _ (zBX hX1 hF2) hM2 (zV_pi hV (fun c => zV_ls hV))
  · exact absurd rfl c_1113
set_option maxHeartbeats 4000000 in
set_option maxRecDepth 100000 in
theorem law_29 (hi : i + 6 ≤ Ls ∧ Ls ≤ 3072) (hX : RX σ h) (hM : RM σ h) (hV : zV σ) (K : zLk Ls xs i) : zLc Ls xs i 1118 h := by
  refine WG.aload_n (pc' := 1119) dL_law_1118 rfl rfl ?_
  refine WG.aload_n (pc' := 1120) dL_law_1119 rfl rfl ?_
  refine WG.iload_n (pc' := 1121) dL_law_1120 rfl rfl ?_
  refine WG.iconst (v := 1) (pc' := 1122) dL_law_1121 rfl rfl ?_
  refine WG.iadd (pc' := 1123) dL_law_1122 rfl ?_
  refine WG.sldN (j := i + 1) (nI_1 i) (by omega) (pc' := 1124) dL_law_1123 rfl ?_
  refine WG.aload_n (pc' := 1125) dL_law_1124 rfl rfl ?_
  refine WG.iload_n (pc' := 1126) dL_law_1125 rfl rfl ?_
  refine WG.iconst (v := 2) (pc' := 1127) dL_law_1126 rfl rfl ?_
  refine WG.iadd (pc' := 1128) dL_law_1127 rfl ?_
  refine WG.sldN (j := i + 2) (nI_add i 2) (by omega) (pc' := 1129) dL_law_1128 rfl ?_
  refine WG.aload_n (pc' := 1130) dL_law_1129 rfl rfl ?_
  refine WG.iload_n (pc' := 1131) dL_law_1130 rfl rfl ?_
  refine WG.iconst (v := 3) (pc' := 1132) dL_law_1131 rfl rfl ?_
  refine WG.iadd (pc' := 1133) dL_law_1132 rfl ?_
  refine WG.sldN (j := i + 3) (nI_add i 3) (by omega) (pc' := 1134) dL_law_1133 rfl ?_
  refine WG.i2l (pc' := 1135) dL_law_1134 rfl ?_
  refine WG.bipush (v := 32) (pc' := 1137) dL_law_1135 rfl rfl ?_
  refine WG.lshl (pc' := 1138) dL_law_1137 rfl ?_
  refine WG.aload_n (pc' := 1139) dL_law_1138 rfl rfl ?_
  refine WG.iload_n (pc' := 1140) dL_law_1139 rfl rfl ?_
  refine WG.iconst (v := 4) (pc' := 1141) dL_law_1140 rfl rfl ?_
  refine WG.iadd (pc' := 1142) dL_law_1141 rfl ?_
  refine WG.sldN (j := i + 4) (nI_add i 4) (by omega) (pc' := 1143) dL_law_1142 rfl ?_
  refine WG.i2l (pc' := 1144) dL_law_1143 rfl ?_
  refine WG.ldc2 (pc' := 1147) dL_law_1144 rfl k_L_138 ?_
  refine WG.land (pc' := 1148) dL_law_1147 rfl ?_
  refine WG.lor (pc' := 1149) dL_law_1148 rfl ?_
  refine WG.callV (x_put hX _ _ _) m_L_140 b_X5_put rfl rfl rfl (zrk_of rfl) rfl (Nat.le_of_ble_eq_true rfl) dL_law_1149 (pc' := 1152) rfl (fun r_ h_ q_ => ?_)
  obtain ⟨rfl, hX1, hF1⟩ := q_
  have hM1 := zBM hM hF1
  generalize h_ = h1 at *
  refine WG.aload_n (pc' := 1153) dL_law_1152 rfl rfl ?_
  refine WG.aload_n (pc' := 1154) dL_law_1153 rfl rfl ?_
  refine WG.iload_n (pc' := 1155) dL_law_1154 rfl rfl ?_
  refine WG.iconst (v := 1) (pc' := 1156) dL_law_1155 rfl rfl ?_
  refine WG.iadd (pc' := 1157) dL_law_1156 rfl ?_
  refine WG.sldN (j := i + 1) (nI_1 i) (by omega) (pc' := 1158) dL_law_1157 rfl ?_
  refine WG.aload_n (pc' := 1159) dL_law_1158 rfl rfl ?_
  refine WG.iload_n (pc' := 1160) dL_law_1159 rfl rfl ?_
  refine WG.iconst (v := 2) (pc' := 1161) dL_law_1160 rfl rfl ?_
  refine WG.iadd (pc' := 1162) dL_law_1161 rfl ?_
  refine WG.sldN (j := i + 2) (nI_add i 2) (by omega) (pc' := 1163) dL_law_1162 rfl ?_
  refine WG.aload_n (pc' := 1164) dL_law_1163 rfl rfl ?_
  refine WG.iload_n (pc' := 1165) dL_law_1164 rfl rfl ?_
  refine WG.iconst (v := 3) (pc' := 1166) dL_law_1165 rfl rfl ?_
  refine WG.iadd (pc' := 1167) dL_law_1166 rfl ?_
  refine WG.sldN (j := i + 3) (nI_add i 3) (by omega) (pc' := 1168) dL_law_1167 rfl ?_
  refine WG.i2l (pc' := 1169) dL_law_1168 rfl ?_
  refine WG.bipush (v := 32) (pc' := 1171) dL_law_1169 rfl rfl ?_
  refine WG.lshl (pc' := 1172) dL_law_1171 rfl ?_
  refine WG.aload_n (pc' := 1173) dL_law_1172 rfl rfl ?_
  refine WG.iload_n (pc' := 1174) dL_law_1173 rfl rfl ?_
  refine WG.iconst (v := 4) (pc' := 1175) dL_law_1174 rfl rfl ?_
  refine WG.iadd (pc' := 1176) dL_law_1175 rfl ?_
  refine WG.sldN (j := i + 4) (nI_add i 4) (by omega) (pc' := 1177) dL_law_1176 rfl ?_
  refine WG.i2l (pc' := 1178) dL_law_1177 rfl ?_
  refine WG.ldc2 (pc' := 1181) dL_law_1178 rfl k_L_138 ?_
  refine WG.land (pc' := 1182) dL_law_1181 rfl ?_
  refine WG.lor (pc' := 1183) dL_law_1182 rfl ?_
  refine WG.callV (m_put hM1 _ _ _) m_L_144 b_X6_put rfl rfl rfl (zrk_of rfl) rfl (Nat.le_of_ble_eq_true rfl) dL_law_1183 (pc' := 1186) rfl (fun r_ h_ q_ => ?_)
  obtain ⟨rfl, hM2, hF2⟩ := q_
  refine WG.icmp_eq (tgt := 1406) (pc' := 1189) dL_law_1186 rfl (by decide) (fun c_1186 => ?_) (fun c_1186 => ?_)
  · exact K _ _ (zBX hX1 hF2) hM2 (zV_pi hV (fun c => zV_L hV))
  · exact absurd rfl c_1186
set_option maxHeartbeats 4000000 in
set_option maxRecDepth 100000 in
theorem law_30 (hi : i + 6 ≤ Ls ∧ Ls ≤ 3072) (hX : RX σ h) (hM : RM σ h) (hV : zV σ) (K : zLk Ls xs i) : zLc Ls xs i 1191 h := by
  refine WG.aload_n (pc' := 1192) dL_law_1191 rfl rfl ?_
  refine WG.aload_n (pc' := 1193) dL_law_1192 rfl rfl ?_
  refine WG.iload_n (pc' := 1194) dL_law_1193 rfl rfl ?_
  refine WG.iconst (v := 1) (pc' := 1195) dL_law_1194 rfl rfl ?_
  refine WG.iadd (pc' := 1196) dL_law_1195 rfl ?_
  refine WG.sldN (j := i + 1) (nI_1 i) (by omega) (pc' := 1197) dL_law_1196 rfl ?_
  refine WG.aload_n (pc' := 1198) dL_law_1197 rfl rfl ?_
  refine WG.iload_n (pc' := 1199) dL_law_1198 rfl rfl ?_
  refine WG.iconst (v := 2) (pc' := 1200) dL_law_1199 rfl rfl ?_
  refine WG.iadd (pc' := 1201) dL_law_1200 rfl ?_
  refine WG.sldN (j := i + 2) (nI_add i 2) (by omega) (pc' := 1202) dL_law_1201 rfl ?_
  refine WG.callV (x_look hX _ _) m_L_145 b_X5_look rfl rfl rfl (zrk_of rfl) rfl (Nat.le_of_ble_eq_true rfl) dL_law_1202 (pc' := 1205) rfl (fun r_ h_ q_ => ?_)
  obtain ⟨rfl, hX1, hF1⟩ := q_
  have hM1 := zBM hM hF1
  generalize h_ = h1 at *
  refine WG.aload_n (pc' := 1206) dL_law_1205 rfl rfl ?_
  refine WG.aload_n (pc' := 1207) dL_law_1206 rfl rfl ?_
  refine WG.iload_n (pc' := 1208) dL_law_1207 rfl rfl ?_
  refine WG.iconst (v := 1) (pc' := 1209) dL_law_1208 rfl rfl ?_
  refine WG.iadd (pc' := 1210) dL_law_1209 rfl ?_
  refine WG.sldN (j := i + 1) (nI_1 i) (by omega) (pc' := 1211) dL_law_1210 rfl ?_
  refine WG.aload_n (pc' := 1212) dL_law_1211 rfl rfl ?_
  refine WG.iload_n (pc' := 1213) dL_law_1212 rfl rfl ?_
  refine WG.iconst (v := 2) (pc' := 1214) dL_law_1213 rfl rfl ?_
  refine WG.iadd (pc' := 1215) dL_law_1214 rfl ?_
  refine WG.sldN (j := i + 2) (nI_add i 2) (by omega) (pc' := 1216) dL_law_1215 rfl ?_
  refine WG.callV (m_look hM1 _ _) m_L_148 b_X6_look rfl rfl rfl (zrk_of rfl) rfl (Nat.le_of_ble_eq_true rfl) dL_law_1216 (pc' := 1219) rfl (fun r_ h_ q_ => ?_)
  obtain ⟨rfl, hM2, hF2⟩ := q_
  refine WG.lif_eq (tgt := 1406) (pc1 := 1220) (pc' := 1223) dL_law_1219 rfl dL_law_1220 rfl (by decide) (fun c_1220 => ?_) (fun c_1220 => ?_)
  · exact K _ _ (zBX hX1 hF2) hM2 (zV_no hV _)
  · exact absurd rfl c_1220
set_option maxHeartbeats 4000000 in
set_option maxRecDepth 100000 in
theorem law_31 (hi : i + 6 ≤ Ls ∧ Ls ≤ 3072) (hX : RX σ h) (hM : RM σ h) (hV : zV σ) (K : zLk Ls xs i) : zLc Ls xs i 1225 h := by
  refine WG.aload_n (pc' := 1226) dL_law_1225 rfl rfl ?_
  refine WG.aload_n (pc' := 1227) dL_law_1226 rfl rfl ?_
  refine WG.iload_n (pc' := 1228) dL_law_1227 rfl rfl ?_
  refine WG.iconst (v := 1) (pc' := 1229) dL_law_1228 rfl rfl ?_
  refine WG.iadd (pc' := 1230) dL_law_1229 rfl ?_
  refine WG.sldN (j := i + 1) (nI_1 i) (by omega) (pc' := 1231) dL_law_1230 rfl ?_
  refine WG.aload_n (pc' := 1232) dL_law_1231 rfl rfl ?_
  refine WG.iload_n (pc' := 1233) dL_law_1232 rfl rfl ?_
  refine WG.iconst (v := 2) (pc' := 1234) dL_law_1233 rfl rfl ?_
  refine WG.iadd (pc' := 1235) dL_law_1234 rfl ?_
  refine WG.sldN (j := i + 2) (nI_add i 2) (by omega) (pc' := 1236) dL_law_1235 rfl ?_
  refine WG.aload_n (pc' := 1237) dL_law_1236 rfl rfl ?_
  refine WG.iload_n (pc' := 1238) dL_law_1237 rfl rfl ?_
  refine WG.iconst (v := 3) (pc' := 1239) dL_law_1238 rfl rfl ?_
  refine WG.iadd (pc' := 1240) dL_law_1239 rfl ?_
  refine WG.sldN (j := i + 3) (nI_add i 3) (by omega) (pc' := 1241) dL_law_1240 rfl ?_
  refine WG.aload_n (pc' := 1242) dL_law_1241 rfl rfl ?_
  refine WG.iload_n (pc' := 1243) dL_law_1242 rfl rfl ?_
  refine WG.iconst (v := 4) (pc' := 1244) dL_law_1243 rfl rfl ?_
  refine WG.iadd (pc' := 1245) dL_law_1244 rfl ?_
  refine WG.sldN (j := i + 4) (nI_add i 4) (by omega) (pc' := 1246) dL_law_1245 rfl ?_
  refine WG.aload_n (pc' := 1247) dL_law_1246 rfl rfl ?_
  refine WG.iload_n (pc' := 1248) dL_law_1247 rfl rfl ?_
  refine WG.iconst (v := 5) (pc' := 1249) dL_law_1248 rfl rfl ?_
  refine WG.iadd (pc' := 1250) dL_law_1249 rfl ?_
  refine WG.sldN (j := i + 5) (nI_add i 5) (by omega) (pc' := 1251) dL_law_1250 rfl ?_
  refine WG.callV (x_copy hX _ _ _ _ _) m_L_149 b_X5_copy rfl rfl rfl (zrk_of rfl) rfl (Nat.le_of_ble_eq_true rfl) dL_law_1251 (pc' := 1254) rfl (fun r_ h_ q_ => ?_)
  obtain ⟨rfl, hX1, hF1⟩ := q_
  have hM1 := zBM hM hF1
  generalize h_ = h1 at *
  refine WG.aload_n (pc' := 1255) dL_law_1254 rfl rfl ?_
  refine WG.aload_n (pc' := 1256) dL_law_1255 rfl rfl ?_
  refine WG.iload_n (pc' := 1257) dL_law_1256 rfl rfl ?_
  refine WG.iconst (v := 1) (pc' := 1258) dL_law_1257 rfl rfl ?_
  refine WG.iadd (pc' := 1259) dL_law_1258 rfl ?_
  refine WG.sldN (j := i + 1) (nI_1 i) (by omega) (pc' := 1260) dL_law_1259 rfl ?_
  refine WG.aload_n (pc' := 1261) dL_law_1260 rfl rfl ?_
  refine WG.iload_n (pc' := 1262) dL_law_1261 rfl rfl ?_
  refine WG.iconst (v := 2) (pc' := 1263) dL_law_1262 rfl rfl ?_
  refine WG.iadd (pc' := 1264) dL_law_1263 rfl ?_
  refine WG.sldN (j := i + 2) (nI_add i 2) (by omega) (pc' := 1265) dL_law_1264 rfl ?_
  refine WG.aload_n (pc' := 1266) dL_law_1265 rfl rfl ?_
  refine WG.iload_n (pc' := 1267) dL_law_1266 rfl rfl ?_
  refine WG.iconst (v := 3) (pc' := 1268) dL_law_1267 rfl rfl ?_
  refine WG.iadd (pc' := 1269) dL_law_1268 rfl ?_
  refine WG.sldN (j := i + 3) (nI_add i 3) (by omega) (pc' := 1270) dL_law_1269 rfl ?_
  refine WG.aload_n (pc' := 1271) dL_law_1270 rfl rfl ?_
  refine WG.iload_n (pc' := 1272) dL_law_1271 rfl rfl ?_
  refine WG.iconst (v := 4) (pc' := 1273) dL_law_1272 rfl rfl ?_
  refine WG.iadd (pc' := 1274) dL_law_1273 rfl ?_
  refine WG.sldN (j := i + 4) (nI_add i 4) (by omega) (pc' := 1275) dL_law_1274 rfl ?_
  refine WG.aload_n (pc' := 1276) dL_law_1275 rfl rfl ?_
  refine WG.iload_n (pc' := 1277) dL_law_1276 rfl rfl ?_
  refine WG.iconst (v := 5) (pc' := 1278) dL_law_1277 rfl rfl ?_
  refine WG.iadd (pc' := 1279) dL_law_1278 rfl ?_
  refine WG.sldN (j := i + 5) (nI_add i 5) (by omega) (pc' := 1280) dL_law_1279 rfl ?_
  refine WG.callV (m_copy hM1 _ _ _ _ _) m_L_153 b_X6_copy rfl rfl rfl (zrk_of rfl) rfl (Nat.le_of_ble_eq_true rfl) dL_law_1280 (pc' := 1283) rfl (fun r_ h_ q_ => ?_)
  obtain ⟨rfl, hM2, hF2⟩ := q_
  refine WG.icmp_eq (tgt := 1406) (pc' := 1286) dL_law_1283 rfl (by decide) (fun c_1283 => ?_) (fun c_1283 => ?_)
  · exact K _ _ (zBX hX1 hF2) hM2 (zV_pi hV (fun c => zV_L hV))
  · exact absurd rfl c_1283
set_option maxHeartbeats 4000000 in
set_option maxRecDepth 100000 in
theorem law_32 (hi : i + 6 ≤ Ls ∧ Ls ≤ 3072) (hX : RX σ h) (hM : RM σ h) (hV : zV σ) (K : zLk Ls xs i) : zLc Ls xs i 1288 h := by
  refine WG.aload_n (pc' := 1289) dL_law_1288 rfl rfl ?_
  refine WG.aload_n (pc' := 1290) dL_law_1289 rfl rfl ?_
  refine WG.iload_n (pc' := 1291) dL_law_1290 rfl rfl ?_
  refine WG.iconst (v := 1) (pc' := 1292) dL_law_1291 rfl rfl ?_
  refine WG.iadd (pc' := 1293) dL_law_1292 rfl ?_
  refine WG.sldN (j := i + 1) (nI_1 i) (by omega) (pc' := 1294) dL_law_1293 rfl ?_
  refine WG.aload_n (pc' := 1295) dL_law_1294 rfl rfl ?_
  refine WG.iload_n (pc' := 1296) dL_law_1295 rfl rfl ?_
  refine WG.iconst (v := 2) (pc' := 1297) dL_law_1296 rfl rfl ?_
  refine WG.iadd (pc' := 1298) dL_law_1297 rfl ?_
  refine WG.sldN (j := i + 2) (nI_add i 2) (by omega) (pc' := 1299) dL_law_1298 rfl ?_
  refine WG.callV (x_lays hX _ _) m_L_154 b_X5_lays rfl rfl rfl (zrk_of rfl) rfl (Nat.le_of_ble_eq_true rfl) dL_law_1299 (pc' := 1302) rfl (fun r_ h_ q_ => ?_)
  obtain ⟨rfl, hX1, hF1⟩ := q_
  have hM1 := zBM hM hF1
  generalize h_ = h1 at *
  refine WG.aload_n (pc' := 1303) dL_law_1302 rfl rfl ?_
  refine WG.aload_n (pc' := 1304) dL_law_1303 rfl rfl ?_
  refine WG.iload_n (pc' := 1305) dL_law_1304 rfl rfl ?_
  refine WG.iconst (v := 1) (pc' := 1306) dL_law_1305 rfl rfl ?_
  refine WG.iadd (pc' := 1307) dL_law_1306 rfl ?_
  refine WG.sldN (j := i + 1) (nI_1 i) (by omega) (pc' := 1308) dL_law_1307 rfl ?_
  refine WG.aload_n (pc' := 1309) dL_law_1308 rfl rfl ?_
  refine WG.iload_n (pc' := 1310) dL_law_1309 rfl rfl ?_
  refine WG.iconst (v := 2) (pc' := 1311) dL_law_1310 rfl rfl ?_
  refine WG.iadd (pc' := 1312) dL_law_1311 rfl ?_
  refine WG.sldN (j := i + 2) (nI_add i 2) (by omega) (pc' := 1313) dL_law_1312 rfl ?_
  refine WG.callV (m_lays hM1 _ _) m_L_157 b_X6_lays rfl rfl rfl (zrk_of rfl) rfl (Nat.le_of_ble_eq_true rfl) dL_law_1313 (pc' := 1316) rfl (fun r_ h_ q_ => ?_)
  obtain ⟨rfl, hM2, hF2⟩ := q_
  refine WG.icmp_eq (tgt := 1406) (pc' := 1319) dL_law_1316 rfl (by decide) (fun c_1316 => ?_) (fun c_1316 => ?_)
  · exact K _ _ (zBX hX1 hF2) hM2 (zV_pi hV (fun c => zV_L hV))
  · exact absurd rfl c_1316
set_option maxHeartbeats 4000000 in
set_option maxRecDepth 100000 in
theorem law_33 (hi : i + 6 ≤ Ls ∧ Ls ≤ 3072) (hX : RX σ h) (hM : RM σ h) (hV : zV σ) (K : zLk Ls xs i) : zLc Ls xs i 1321 h := by
  refine WG.aload_n (pc' := 1322) dL_law_1321 rfl rfl ?_
  refine WG.aload_n (pc' := 1323) dL_law_1322 rfl rfl ?_
  refine WG.iload_n (pc' := 1324) dL_law_1323 rfl rfl ?_
  refine WG.iconst (v := 1) (pc' := 1325) dL_law_1324 rfl rfl ?_
  refine WG.iadd (pc' := 1326) dL_law_1325 rfl ?_
  refine WG.sldN (j := i + 1) (nI_1 i) (by omega) (pc' := 1327) dL_law_1326 rfl ?_
  refine WG.callV (x_judge hX _) m_L_158 b_X5_judge rfl rfl rfl (zrk_of rfl) rfl (Nat.le_of_ble_eq_true rfl) dL_law_1327 (pc' := 1330) rfl (fun r_ h_ q_ => ?_)
  obtain ⟨rfl, hX1, hF1⟩ := q_
  have hM1 := zBM hM hF1
  generalize h_ = h1 at *
  refine WG.aload_n (pc' := 1331) dL_law_1330 rfl rfl ?_
  refine WG.aload_n (pc' := 1332) dL_law_1331 rfl rfl ?_
  refine WG.iload_n (pc' := 1333) dL_law_1332 rfl rfl ?_
  refine WG.iconst (v := 1) (pc' := 1334) dL_law_1333 rfl rfl ?_
  refine WG.iadd (pc' := 1335) dL_law_1334 rfl ?_
  refine WG.sldN (j := i + 1) (nI_1 i) (by omega) (pc' := 1336) dL_law_1335 rfl ?_
  refine WG.callV (m_judge hM1 _) m_L_161 b_X6_judge rfl rfl rfl (zrk_of rfl) rfl (Nat.le_of_ble_eq_true rfl) dL_law_1336 (pc' := 1339) rfl (fun r_ h_ q_ => ?_)
  obtain ⟨rfl, hM2, hF2⟩ := q_
  refine WG.icmp_eq (tgt := 1406) (pc' := 1342) dL_law_1339 rfl (by decide) (fun c_1339 => ?_) (fun c_1339 => ?_)
  · exact K _ _ (zBX hX1 hF2) hM2 (zV_pi hV (fun c => hV))
  · exact absurd rfl c_1339
set_option maxHeartbeats 4000000 in
set_option maxRecDepth 100000 in
theorem law_34 (hi : i + 6 ≤ Ls ∧ Ls ≤ 3072) (hX : RX σ h) (hM : RM σ h) (hV : zV σ) (K : zLk Ls xs i) : zLc Ls xs i 1344 h := by
  refine WG.aload_n (pc' := 1345) dL_law_1344 rfl rfl ?_
  refine WG.callV (x_undo hX) m_L_162 b_X5_undo rfl rfl rfl (zrk_of rfl) rfl (Nat.le_of_ble_eq_true rfl) dL_law_1345 (pc' := 1348) rfl (fun r_ h_ q_ => ?_)
  obtain ⟨rfl, hX1, hF1⟩ := q_
  have hM1 := zBM hM hF1
  generalize h_ = h1 at *
  refine WG.aload_n (pc' := 1349) dL_law_1348 rfl rfl ?_
  refine WG.callV (m_undo hM1) m_L_165 b_X6_undo rfl rfl rfl (zrk_of rfl) rfl (Nat.le_of_ble_eq_true rfl) dL_law_1349 (pc' := 1352) rfl (fun r_ h_ q_ => ?_)
  obtain ⟨rfl, hM2, hF2⟩ := q_
  refine WG.icmp_eq (tgt := 1406) (pc' := 1355) dL_law_1352 rfl (by decide) (fun c_1352 => ?_) (fun c_1352 => ?_)
  · exact K _ _ (zBX hX1 hF2) hM2 (zV_pi hV (fun c => zV_un hV c))
  · exact absurd rfl c_1352
set_option maxHeartbeats 4000000 in
set_option maxRecDepth 100000 in
theorem law_35 (hi : i + 6 ≤ Ls ∧ Ls ≤ 3072) (hX : RX σ h) (hM : RM σ h) (hV : zV σ) (K : zLk Ls xs i) : zLc Ls xs i 1357 h := by
  refine WG.aload_n (pc' := 1358) dL_law_1357 rfl rfl ?_
  refine WG.callV (x_image hX) m_L_166 b_X5_image rfl rfl rfl (zrk_of rfl) rfl (Nat.le_of_ble_eq_true rfl) dL_law_1358 (pc' := 1361) rfl (fun r_ h_ q_ => ?_)
  obtain ⟨rfl, hX1, hF1⟩ := q_
  have hM1 := zBM hM hF1
  generalize h_ = h1 at *
  refine WG.aload_n (pc' := 1362) dL_law_1361 rfl rfl ?_
  refine WG.callV (m_image hM1) m_L_169 b_X6_image rfl rfl rfl (zrk_of rfl) rfl (Nat.le_of_ble_eq_true rfl) dL_law_1362 (pc' := 1365) rfl (fun r_ h_ q_ => ?_)
  obtain ⟨rfl, hM2, hF2⟩ := q_
  refine WG.icmp_eq (tgt := 1406) (pc' := 1368) dL_law_1365 rfl (by decide) (fun c_1365 => ?_) (fun c_1365 => ?_)
  · exact K _ _ (zBX hX1 hF2) hM2 (zV_pi hV (fun c => zV_K hV))
  · exact absurd rfl c_1365
set_option maxHeartbeats 4000000 in
set_option maxRecDepth 100000 in
theorem law_36 (hi : i + 6 ≤ Ls ∧ Ls ≤ 3072) (hX : RX σ h) (hM : RM σ h) (hV : zV σ) (K : zLk Ls xs i) : zLc Ls xs i 1370 h := by
  refine WG.aload_n (pc' := 1371) dL_law_1370 rfl rfl ?_
  refine WG.callV (x_on hX) m_L_170 b_X5_on rfl rfl rfl (zrk_of rfl) rfl (Nat.le_of_ble_eq_true rfl) dL_law_1371 (pc' := 1374) rfl (fun r_ h_ q_ => ?_)
  obtain ⟨rfl, hX1, hF1⟩ := q_
  have hM1 := zBM hM hF1
  generalize h_ = h1 at *
  refine WG.aload_n (pc' := 1375) dL_law_1374 rfl rfl ?_
  refine WG.callV (m_on hM1) m_L_173 b_X6_on rfl rfl rfl (zrk_of rfl) rfl (Nat.le_of_ble_eq_true rfl) dL_law_1375 (pc' := 1378) rfl (fun r_ h_ q_ => ?_)
  obtain ⟨rfl, hM2, hF2⟩ := q_
  refine WG.icmp_eq (tgt := 1406) (pc' := 1381) dL_law_1378 rfl (by decide) (fun c_1378 => ?_) (fun c_1378 => ?_)
  · exact K _ _ (zBX hX1 hF2) hM2 (zV_pi hV (fun c => zV_on hV))
  · exact absurd rfl c_1378
set_option maxHeartbeats 4000000 in
set_option maxRecDepth 100000 in
theorem law_37 (hi : i + 6 ≤ Ls ∧ Ls ≤ 3072) (hX : RX σ h) (hM : RM σ h) (hV : zV σ) (K : zLk Ls xs i) : zLc Ls xs i 1383 h := by
  refine WG.aload_n (pc' := 1384) dL_law_1383 rfl rfl ?_
  refine WG.aload_n (pc' := 1385) dL_law_1384 rfl rfl ?_
  refine WG.iload_n (pc' := 1386) dL_law_1385 rfl rfl ?_
  refine WG.iconst (v := 1) (pc' := 1387) dL_law_1386 rfl rfl ?_
  refine WG.iadd (pc' := 1388) dL_law_1387 rfl ?_
  refine WG.sldN (j := i + 1) (nI_1 i) (by omega) (pc' := 1389) dL_law_1388 rfl ?_
  refine WG.callV (x_count hX _) m_L_174 b_X5_count rfl rfl rfl (zrk_of rfl) rfl (Nat.le_of_ble_eq_true rfl) dL_law_1389 (pc' := 1392) rfl (fun r_ h_ q_ => ?_)
  obtain ⟨rfl, hX1, hF1⟩ := q_
  have hM1 := zBM hM hF1
  generalize h_ = h1 at *
  refine WG.aload_n (pc' := 1393) dL_law_1392 rfl rfl ?_
  refine WG.aload_n (pc' := 1394) dL_law_1393 rfl rfl ?_
  refine WG.iload_n (pc' := 1395) dL_law_1394 rfl rfl ?_
  refine WG.iconst (v := 1) (pc' := 1396) dL_law_1395 rfl rfl ?_
  refine WG.iadd (pc' := 1397) dL_law_1396 rfl ?_
  refine WG.sldN (j := i + 1) (nI_1 i) (by omega) (pc' := 1398) dL_law_1397 rfl ?_
  refine WG.callV (m_count hM1 _) m_L_177 b_X6_count rfl rfl rfl (zrk_of rfl) rfl (Nat.le_of_ble_eq_true rfl) dL_law_1398 (pc' := 1401) rfl (fun r_ h_ q_ => ?_)
  obtain ⟨rfl, hM2, hF2⟩ := q_
  refine WG.icmp_eq (tgt := 1406) (pc' := 1404) dL_law_1401 rfl (by decide) (fun c_1401 => ?_) (fun c_1401 => ?_)
  · exact K _ _ (zBX hX1 hF2) hM2 (zV_pi hV (fun c => hV))
  · exact absurd rfl c_1401
end zLaw

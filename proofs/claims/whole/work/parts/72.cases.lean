set_option maxRecDepth 100000 in
set_option maxHeartbeats 400000 in
theorem q_case0 {xs : Nat → Int32} {Ln k : Nat} {M : z_Mem} (hL : Ln ≤ 320) (hk : 5 * k + 5 ≤ Ln) (hJ : J k M) (kk : ∀ M2, J (k + 1) M2 → q_Sm xs Ln 994 [some (.ref 2000), some (.ref 0), some (.ref 59), some (.int (nI (5 * k)))] [] M2) : q_Sm xs Ln 164 [some (.ref 2000), some (.ref 0), some (.ref 59), some (.int (nI (5 * k)))] [] M := by
  obtain ⟨r, M1, M2, ⟨v, rfl⟩, c1, c2, j2⟩ := pr_write (x := xs (5 * k + 1)) hJ (by omega)
  refine q_aload_n (pc := 164) dL_164 rfl ?_
  refine q_aload_n (pc := 165) dL_165 rfl ?_
  refine q_iload_n (pc := 166) dL_166 rfl ?_
  refine q_iconst (pc := 167) (v := 1) dL_167 (by decide) ?_
  refine q_iadd (pc := 168) dL_168 ?_
  refine q_sld (pc := 169) (5 * k + 1) ⟨nI_add _ 1, by omega⟩ hL dL_169 ?_
  refine q_cV1 (pc := 170) c1 q_cL_13 z_s0 rfl rfl dL_170 ?_
  refine q_aload_n (pc := 173) dL_173 rfl ?_
  refine q_aload_n (pc := 174) dL_174 rfl ?_
  refine q_iload_n (pc := 175) dL_175 rfl ?_
  refine q_iconst (pc := 176) (v := 1) dL_176 (by decide) ?_
  refine q_iadd (pc := 177) dL_177 ?_
  refine q_sld (pc := 178) (5 * k + 1) ⟨nI_add _ 1, by omega⟩ hL dL_178 ?_
  refine q_cV1 (pc := 179) c2 q_cL_17 z_s59 rfl rfl dL_179 ?_
  refine q_icmp_eq (pc := 182) (tgt := 994) dL_182 (by decide) (fun _ => ?_) (fun h => absurd rfl h)
  exact kk M2 j2
set_option maxRecDepth 100000 in
set_option maxHeartbeats 400000 in
theorem q_case1 {xs : Nat → Int32} {Ln k : Nat} {M : z_Mem} (hL : Ln ≤ 320) (hk : 5 * k + 5 ≤ Ln) (hJ : J k M) (kk : ∀ M2, J (k + 1) M2 → q_Sm xs Ln 994 [some (.ref 2000), some (.ref 0), some (.ref 59), some (.int (nI (5 * k)))] [] M2) : q_Sm xs Ln 187 [some (.ref 2000), some (.ref 0), some (.ref 59), some (.int (nI (5 * k)))] [] M := by
  obtain ⟨r, M1, M2, ⟨v, rfl⟩, c1, c2, j2⟩ := pr_wipe hJ (by omega)
  refine q_aload_n (pc := 187) dL_187 rfl ?_
  refine q_cV0 (pc := 188) c1 q_cL_18 z_s0 rfl rfl dL_188 ?_
  refine q_aload_n (pc := 191) dL_191 rfl ?_
  refine q_cV0 (pc := 192) c2 q_cL_22 z_s59 rfl rfl dL_192 ?_
  refine q_icmp_eq (pc := 195) (tgt := 994) dL_195 (by decide) (fun _ => ?_) (fun h => absurd rfl h)
  exact kk M2 j2
set_option maxRecDepth 100000 in
set_option maxHeartbeats 400000 in
theorem q_case2 {xs : Nat → Int32} {Ln k : Nat} {M : z_Mem} (hL : Ln ≤ 320) (hk : 5 * k + 5 ≤ Ln) (hJ : J k M) (kk : ∀ M2, J (k + 1) M2 → q_Sm xs Ln 994 [some (.ref 2000), some (.ref 0), some (.ref 59), some (.int (nI (5 * k)))] [] M2) : q_Sm xs Ln 200 [some (.ref 2000), some (.ref 0), some (.ref 59), some (.int (nI (5 * k)))] [] M := by
  obtain ⟨r, M1, M2, ⟨v, rfl⟩, c1, c2, j2⟩ := pr_fault hJ (by omega)
  refine q_aload_n (pc := 200) dL_200 rfl ?_
  refine q_cV0 (pc := 201) c1 q_cL_23 z_s0 rfl rfl dL_201 ?_
  refine q_aload_n (pc := 204) dL_204 rfl ?_
  refine q_cV0 (pc := 205) c2 q_cL_26 z_s59 rfl rfl dL_205 ?_
  refine q_icmp_eq (pc := 208) (tgt := 994) dL_208 (by decide) (fun _ => ?_) (fun h => absurd rfl h)
  exact kk M2 j2
set_option maxRecDepth 100000 in
set_option maxHeartbeats 400000 in
theorem q_case3 {xs : Nat → Int32} {Ln k : Nat} {M : z_Mem} (hL : Ln ≤ 320) (hk : 5 * k + 5 ≤ Ln) (hJ : J k M) (kk : ∀ M2, J (k + 1) M2 → q_Sm xs Ln 994 [some (.ref 2000), some (.ref 0), some (.ref 59), some (.int (nI (5 * k)))] [] M2) : q_Sm xs Ln 213 [some (.ref 2000), some (.ref 0), some (.ref 59), some (.int (nI (5 * k)))] [] M := by
  obtain ⟨r, M1, M2, ⟨v, rfl⟩, c1, c2, j2⟩ := pr_town hJ (by omega)
  refine q_aload_n (pc := 213) dL_213 rfl ?_
  refine q_cV0 (pc := 214) c1 q_cL_27 z_s0 rfl rfl dL_214 ?_
  refine q_aload_n (pc := 217) dL_217 rfl ?_
  refine q_cV0 (pc := 218) c2 q_cL_30 z_s59 rfl rfl dL_218 ?_
  refine q_icmp_eq (pc := 221) (tgt := 994) dL_221 (by decide) (fun _ => ?_) (fun h => absurd rfl h)
  exact kk M2 j2
set_option maxRecDepth 100000 in
set_option maxHeartbeats 400000 in
theorem q_case4 {xs : Nat → Int32} {Ln k : Nat} {M : z_Mem} (hL : Ln ≤ 320) (hk : 5 * k + 5 ≤ Ln) (hJ : J k M) (kk : ∀ M2, J (k + 1) M2 → q_Sm xs Ln 994 [some (.ref 2000), some (.ref 0), some (.ref 59), some (.int (nI (5 * k)))] [] M2) : q_Sm xs Ln 226 [some (.ref 2000), some (.ref 0), some (.ref 59), some (.int (nI (5 * k)))] [] M := by
  obtain ⟨r, M1, M2, ⟨v, rfl⟩, c1, c2, j2⟩ := pr_pin (x := xs (5 * k + 1)) (y := xs (5 * k + 2)) hJ (by omega)
  refine q_aload_n (pc := 226) dL_226 rfl ?_
  refine q_aload_n (pc := 227) dL_227 rfl ?_
  refine q_iload_n (pc := 228) dL_228 rfl ?_
  refine q_iconst (pc := 229) (v := 1) dL_229 (by decide) ?_
  refine q_iadd (pc := 230) dL_230 ?_
  refine q_sld (pc := 231) (5 * k + 1) ⟨nI_add _ 1, by omega⟩ hL dL_231 ?_
  refine q_aload_n (pc := 232) dL_232 rfl ?_
  refine q_iload_n (pc := 233) dL_233 rfl ?_
  refine q_iconst (pc := 234) (v := 2) dL_234 (by decide) ?_
  refine q_iadd (pc := 235) dL_235 ?_
  refine q_sld (pc := 236) (5 * k + 2) ⟨nI_add _ 2, by omega⟩ hL dL_236 ?_
  refine q_cV2 (pc := 237) c1 q_cL_31 z_s0 rfl rfl dL_237 ?_
  refine q_aload_n (pc := 240) dL_240 rfl ?_
  refine q_aload_n (pc := 241) dL_241 rfl ?_
  refine q_iload_n (pc := 242) dL_242 rfl ?_
  refine q_iconst (pc := 243) (v := 1) dL_243 (by decide) ?_
  refine q_iadd (pc := 244) dL_244 ?_
  refine q_sld (pc := 245) (5 * k + 1) ⟨nI_add _ 1, by omega⟩ hL dL_245 ?_
  refine q_aload_n (pc := 246) dL_246 rfl ?_
  refine q_iload_n (pc := 247) dL_247 rfl ?_
  refine q_iconst (pc := 248) (v := 2) dL_248 (by decide) ?_
  refine q_iadd (pc := 249) dL_249 ?_
  refine q_sld (pc := 250) (5 * k + 2) ⟨nI_add _ 2, by omega⟩ hL dL_250 ?_
  refine q_cV2 (pc := 251) c2 q_cL_35 z_s59 rfl rfl dL_251 ?_
  refine q_icmp_eq (pc := 254) (tgt := 994) dL_254 (by decide) (fun _ => ?_) (fun h => absurd rfl h)
  exact kk M2 j2
set_option maxRecDepth 100000 in
set_option maxHeartbeats 400000 in
theorem q_case5 {xs : Nat → Int32} {Ln k : Nat} {M : z_Mem} (hL : Ln ≤ 320) (hk : 5 * k + 5 ≤ Ln) (hJ : J k M) (kk : ∀ M2, J (k + 1) M2 → q_Sm xs Ln 994 [some (.ref 2000), some (.ref 0), some (.ref 59), some (.int (nI (5 * k)))] [] M2) : q_Sm xs Ln 259 [some (.ref 2000), some (.ref 0), some (.ref 59), some (.int (nI (5 * k)))] [] M := by
  obtain ⟨r, M1, M2, ⟨v, rfl⟩, c1, c2, j2⟩ := pr_with (x := xs (5 * k + 1)) hJ (by omega)
  refine q_aload_n (pc := 259) dL_259 rfl ?_
  refine q_aload_n (pc := 260) dL_260 rfl ?_
  refine q_iload_n (pc := 261) dL_261 rfl ?_
  refine q_iconst (pc := 262) (v := 1) dL_262 (by decide) ?_
  refine q_iadd (pc := 263) dL_263 ?_
  refine q_sld (pc := 264) (5 * k + 1) ⟨nI_add _ 1, by omega⟩ hL dL_264 ?_
  refine q_cV1 (pc := 265) c1 q_cL_36 z_s0 rfl rfl dL_265 ?_
  refine q_aload_n (pc := 268) dL_268 rfl ?_
  refine q_aload_n (pc := 269) dL_269 rfl ?_
  refine q_iload_n (pc := 270) dL_270 rfl ?_
  refine q_iconst (pc := 271) (v := 1) dL_271 (by decide) ?_
  refine q_iadd (pc := 272) dL_272 ?_
  refine q_sld (pc := 273) (5 * k + 1) ⟨nI_add _ 1, by omega⟩ hL dL_273 ?_
  refine q_cV1 (pc := 274) c2 q_cL_39 z_s59 rfl rfl dL_274 ?_
  refine q_icmp_eq (pc := 277) (tgt := 994) dL_277 (by decide) (fun _ => ?_) (fun h => absurd rfl h)
  exact kk M2 j2
set_option maxRecDepth 100000 in
set_option maxHeartbeats 400000 in
theorem q_case6 {xs : Nat → Int32} {Ln k : Nat} {M : z_Mem} (hL : Ln ≤ 320) (hk : 5 * k + 5 ≤ Ln) (hJ : J k M) (kk : ∀ M2, J (k + 1) M2 → q_Sm xs Ln 994 [some (.ref 2000), some (.ref 0), some (.ref 59), some (.int (nI (5 * k)))] [] M2) : q_Sm xs Ln 282 [some (.ref 2000), some (.ref 0), some (.ref 59), some (.int (nI (5 * k)))] [] M := by
  obtain ⟨r, M1, M2, ⟨v, rfl⟩, c1, c2, j2⟩ := pr_day hJ (by omega)
  refine q_aload_n (pc := 282) dL_282 rfl ?_
  refine q_cV0 (pc := 283) c1 q_cL_40 z_s0 rfl rfl dL_283 ?_
  refine q_aload_n (pc := 286) dL_286 rfl ?_
  refine q_cV0 (pc := 287) c2 q_cL_43 z_s59 rfl rfl dL_287 ?_
  refine q_icmp_eq (pc := 290) (tgt := 994) dL_290 (by decide) (fun _ => ?_) (fun h => absurd rfl h)
  exact kk M2 j2
set_option maxRecDepth 100000 in
set_option maxHeartbeats 400000 in
theorem q_case7 {xs : Nat → Int32} {Ln k : Nat} {M : z_Mem} (hL : Ln ≤ 320) (hk : 5 * k + 5 ≤ Ln) (hJ : J k M) (kk : ∀ M2, J (k + 1) M2 → q_Sm xs Ln 994 [some (.ref 2000), some (.ref 0), some (.ref 59), some (.int (nI (5 * k)))] [] M2) : q_Sm xs Ln 295 [some (.ref 2000), some (.ref 0), some (.ref 59), some (.int (nI (5 * k)))] [] M := by
  obtain ⟨r, M1, M2, ⟨v, rfl⟩, c1, c2, j2⟩ := pr_tug (x := xs (5 * k + 1)) (y := xs (5 * k + 2)) hJ (by omega)
  refine q_aload_n (pc := 295) dL_295 rfl ?_
  refine q_aload_n (pc := 296) dL_296 rfl ?_
  refine q_iload_n (pc := 297) dL_297 rfl ?_
  refine q_iconst (pc := 298) (v := 1) dL_298 (by decide) ?_
  refine q_iadd (pc := 299) dL_299 ?_
  refine q_sld (pc := 300) (5 * k + 1) ⟨nI_add _ 1, by omega⟩ hL dL_300 ?_
  refine q_aload_n (pc := 301) dL_301 rfl ?_
  refine q_iload_n (pc := 302) dL_302 rfl ?_
  refine q_iconst (pc := 303) (v := 2) dL_303 (by decide) ?_
  refine q_iadd (pc := 304) dL_304 ?_
  refine q_sld (pc := 305) (5 * k + 2) ⟨nI_add _ 2, by omega⟩ hL dL_305 ?_
  refine q_cV2 (pc := 306) c1 q_cL_44 z_s0 rfl rfl dL_306 ?_
  refine q_aload_n (pc := 309) dL_309 rfl ?_
  refine q_aload_n (pc := 310) dL_310 rfl ?_
  refine q_iload_n (pc := 311) dL_311 rfl ?_
  refine q_iconst (pc := 312) (v := 1) dL_312 (by decide) ?_
  refine q_iadd (pc := 313) dL_313 ?_
  refine q_sld (pc := 314) (5 * k + 1) ⟨nI_add _ 1, by omega⟩ hL dL_314 ?_
  refine q_aload_n (pc := 315) dL_315 rfl ?_
  refine q_iload_n (pc := 316) dL_316 rfl ?_
  refine q_iconst (pc := 317) (v := 2) dL_317 (by decide) ?_
  refine q_iadd (pc := 318) dL_318 ?_
  refine q_sld (pc := 319) (5 * k + 2) ⟨nI_add _ 2, by omega⟩ hL dL_319 ?_
  refine q_cV2 (pc := 320) c2 q_cL_47 z_s59 rfl rfl dL_320 ?_
  refine q_icmp_eq (pc := 323) (tgt := 994) dL_323 (by decide) (fun _ => ?_) (fun h => absurd rfl h)
  exact kk M2 j2
set_option maxRecDepth 100000 in
set_option maxHeartbeats 400000 in
theorem q_case8 {xs : Nat → Int32} {Ln k : Nat} {M : z_Mem} (hL : Ln ≤ 320) (hk : 5 * k + 5 ≤ Ln) (hJ : J k M) (kk : ∀ M2, J (k + 1) M2 → q_Sm xs Ln 994 [some (.ref 2000), some (.ref 0), some (.ref 59), some (.int (nI (5 * k)))] [] M2) : q_Sm xs Ln 328 [some (.ref 2000), some (.ref 0), some (.ref 59), some (.int (nI (5 * k)))] [] M := by
  obtain ⟨r, M1, M2, ⟨v, rfl⟩, c1, c2, j2⟩ := pr_shut (x := xs (5 * k + 1)) hJ (by omega)
  refine q_aload_n (pc := 328) dL_328 rfl ?_
  refine q_aload_n (pc := 329) dL_329 rfl ?_
  refine q_iload_n (pc := 330) dL_330 rfl ?_
  refine q_iconst (pc := 331) (v := 1) dL_331 (by decide) ?_
  refine q_iadd (pc := 332) dL_332 ?_
  refine q_sld (pc := 333) (5 * k + 1) ⟨nI_add _ 1, by omega⟩ hL dL_333 ?_
  refine q_cV1 (pc := 334) c1 q_cL_48 z_s0 rfl rfl dL_334 ?_
  refine q_aload_n (pc := 337) dL_337 rfl ?_
  refine q_aload_n (pc := 338) dL_338 rfl ?_
  refine q_iload_n (pc := 339) dL_339 rfl ?_
  refine q_iconst (pc := 340) (v := 1) dL_340 (by decide) ?_
  refine q_iadd (pc := 341) dL_341 ?_
  refine q_sld (pc := 342) (5 * k + 1) ⟨nI_add _ 1, by omega⟩ hL dL_342 ?_
  refine q_cV1 (pc := 343) c2 q_cL_51 z_s59 rfl rfl dL_343 ?_
  refine q_icmp_eq (pc := 346) (tgt := 994) dL_346 (by decide) (fun _ => ?_) (fun h => absurd rfl h)
  exact kk M2 j2
set_option maxRecDepth 100000 in
set_option maxHeartbeats 400000 in
theorem q_case9 {xs : Nat → Int32} {Ln k : Nat} {M : z_Mem} (hL : Ln ≤ 320) (hk : 5 * k + 5 ≤ Ln) (hJ : J k M) (kk : ∀ M2, J (k + 1) M2 → q_Sm xs Ln 994 [some (.ref 2000), some (.ref 0), some (.ref 59), some (.int (nI (5 * k)))] [] M2) : q_Sm xs Ln 351 [some (.ref 2000), some (.ref 0), some (.ref 59), some (.int (nI (5 * k)))] [] M := by
  obtain ⟨r, M1, M2, ⟨v, rfl⟩, c1, c2, j2⟩ := pr_open (x := xs (5 * k + 1)) hJ (by omega)
  refine q_aload_n (pc := 351) dL_351 rfl ?_
  refine q_aload_n (pc := 352) dL_352 rfl ?_
  refine q_iload_n (pc := 353) dL_353 rfl ?_
  refine q_iconst (pc := 354) (v := 1) dL_354 (by decide) ?_
  refine q_iadd (pc := 355) dL_355 ?_
  refine q_sld (pc := 356) (5 * k + 1) ⟨nI_add _ 1, by omega⟩ hL dL_356 ?_
  refine q_cV1 (pc := 357) c1 q_cL_52 z_s0 rfl rfl dL_357 ?_
  refine q_aload_n (pc := 360) dL_360 rfl ?_
  refine q_aload_n (pc := 361) dL_361 rfl ?_
  refine q_iload_n (pc := 362) dL_362 rfl ?_
  refine q_iconst (pc := 363) (v := 1) dL_363 (by decide) ?_
  refine q_iadd (pc := 364) dL_364 ?_
  refine q_sld (pc := 365) (5 * k + 1) ⟨nI_add _ 1, by omega⟩ hL dL_365 ?_
  refine q_cV1 (pc := 366) c2 q_cL_55 z_s59 rfl rfl dL_366 ?_
  refine q_icmp_eq (pc := 369) (tgt := 994) dL_369 (by decide) (fun _ => ?_) (fun h => absurd rfl h)
  exact kk M2 j2
set_option maxRecDepth 100000 in
set_option maxHeartbeats 400000 in
theorem q_case10 {xs : Nat → Int32} {Ln k : Nat} {M : z_Mem} (hL : Ln ≤ 320) (hk : 5 * k + 5 ≤ Ln) (hJ : J k M) (kk : ∀ M2, J (k + 1) M2 → q_Sm xs Ln 994 [some (.ref 2000), some (.ref 0), some (.ref 59), some (.int (nI (5 * k)))] [] M2) : q_Sm xs Ln 374 [some (.ref 2000), some (.ref 0), some (.ref 59), some (.int (nI (5 * k)))] [] M := by
  obtain ⟨r, M1, M2, ⟨v, rfl⟩, c1, c2, j2⟩ := pr_undo hJ (by omega)
  refine q_aload_n (pc := 374) dL_374 rfl ?_
  refine q_cV0 (pc := 375) c1 q_cL_56 z_s0 rfl rfl dL_375 ?_
  refine q_aload_n (pc := 378) dL_378 rfl ?_
  refine q_cV0 (pc := 379) c2 q_cL_59 z_s59 rfl rfl dL_379 ?_
  refine q_icmp_eq (pc := 382) (tgt := 994) dL_382 (by decide) (fun _ => ?_) (fun h => absurd rfl h)
  exact kk M2 j2
set_option maxRecDepth 100000 in
set_option maxHeartbeats 400000 in
theorem q_case11 {xs : Nat → Int32} {Ln k : Nat} {M : z_Mem} (hL : Ln ≤ 320) (hk : 5 * k + 5 ≤ Ln) (hJ : J k M) (kk : ∀ M2, J (k + 1) M2 → q_Sm xs Ln 994 [some (.ref 2000), some (.ref 0), some (.ref 59), some (.int (nI (5 * k)))] [] M2) : q_Sm xs Ln 387 [some (.ref 2000), some (.ref 0), some (.ref 59), some (.int (nI (5 * k)))] [] M := by
  obtain ⟨r, M1, M2, ⟨v, rfl⟩, c1, c2, j2⟩ := pr_later (x := xs (5 * k + 1)) hJ (by omega)
  refine q_aload_n (pc := 387) dL_387 rfl ?_
  refine q_aload_n (pc := 388) dL_388 rfl ?_
  refine q_iload_n (pc := 389) dL_389 rfl ?_
  refine q_iconst (pc := 390) (v := 1) dL_390 (by decide) ?_
  refine q_iadd (pc := 391) dL_391 ?_
  refine q_sld (pc := 392) (5 * k + 1) ⟨nI_add _ 1, by omega⟩ hL dL_392 ?_
  refine q_cV1 (pc := 393) c1 q_cL_60 z_s0 rfl rfl dL_393 ?_
  refine q_aload_n (pc := 396) dL_396 rfl ?_
  refine q_aload_n (pc := 397) dL_397 rfl ?_
  refine q_iload_n (pc := 398) dL_398 rfl ?_
  refine q_iconst (pc := 399) (v := 1) dL_399 (by decide) ?_
  refine q_iadd (pc := 400) dL_400 ?_
  refine q_sld (pc := 401) (5 * k + 1) ⟨nI_add _ 1, by omega⟩ hL dL_401 ?_
  refine q_cV1 (pc := 402) c2 q_cL_63 z_s59 rfl rfl dL_402 ?_
  refine q_icmp_eq (pc := 405) (tgt := 994) dL_405 (by decide) (fun _ => ?_) (fun h => absurd rfl h)
  exact kk M2 j2
set_option maxRecDepth 100000 in
set_option maxHeartbeats 400000 in
theorem q_case12 {xs : Nat → Int32} {Ln k : Nat} {M : z_Mem} (hL : Ln ≤ 320) (hk : 5 * k + 5 ≤ Ln) (hJ : J k M) (kk : ∀ M2, J (k + 1) M2 → q_Sm xs Ln 994 [some (.ref 2000), some (.ref 0), some (.ref 59), some (.int (nI (5 * k)))] [] M2) : q_Sm xs Ln 410 [some (.ref 2000), some (.ref 0), some (.ref 59), some (.int (nI (5 * k)))] [] M := by
  obtain ⟨r, M1, M2, ⟨v, rfl⟩, c1, c2, j2⟩ := pr_lasts (x := xs (5 * k + 1)) hJ (by omega)
  refine q_aload_n (pc := 410) dL_410 rfl ?_
  refine q_aload_n (pc := 411) dL_411 rfl ?_
  refine q_iload_n (pc := 412) dL_412 rfl ?_
  refine q_iconst (pc := 413) (v := 1) dL_413 (by decide) ?_
  refine q_iadd (pc := 414) dL_414 ?_
  refine q_sld (pc := 415) (5 * k + 1) ⟨nI_add _ 1, by omega⟩ hL dL_415 ?_
  refine q_cV1 (pc := 416) c1 q_cL_64 z_s0 rfl rfl dL_416 ?_
  refine q_aload_n (pc := 419) dL_419 rfl ?_
  refine q_aload_n (pc := 420) dL_420 rfl ?_
  refine q_iload_n (pc := 421) dL_421 rfl ?_
  refine q_iconst (pc := 422) (v := 1) dL_422 (by decide) ?_
  refine q_iadd (pc := 423) dL_423 ?_
  refine q_sld (pc := 424) (5 * k + 1) ⟨nI_add _ 1, by omega⟩ hL dL_424 ?_
  refine q_cV1 (pc := 425) c2 q_cL_67 z_s59 rfl rfl dL_425 ?_
  refine q_icmp_eq (pc := 428) (tgt := 994) dL_428 (by decide) (fun _ => ?_) (fun h => absurd rfl h)
  exact kk M2 j2
set_option maxRecDepth 100000 in
set_option maxHeartbeats 400000 in
theorem q_case13 {xs : Nat → Int32} {Ln k : Nat} {M : z_Mem} (hL : Ln ≤ 320) (hk : 5 * k + 5 ≤ Ln) (hJ : J k M) (kk : ∀ M2, J (k + 1) M2 → q_Sm xs Ln 994 [some (.ref 2000), some (.ref 0), some (.ref 59), some (.int (nI (5 * k)))] [] M2) : q_Sm xs Ln 433 [some (.ref 2000), some (.ref 0), some (.ref 59), some (.int (nI (5 * k)))] [] M := by
  obtain ⟨r, M1, M2, ⟨v, rfl⟩, c1, c2, j2⟩ := pr_chain (x := xs (5 * k + 1)) hJ (by omega)
  refine q_aload_n (pc := 433) dL_433 rfl ?_
  refine q_aload_n (pc := 434) dL_434 rfl ?_
  refine q_iload_n (pc := 435) dL_435 rfl ?_
  refine q_iconst (pc := 436) (v := 1) dL_436 (by decide) ?_
  refine q_iadd (pc := 437) dL_437 ?_
  refine q_sld (pc := 438) (5 * k + 1) ⟨nI_add _ 1, by omega⟩ hL dL_438 ?_
  refine q_cV1 (pc := 439) c1 q_cL_68 z_s0 rfl rfl dL_439 ?_
  refine q_aload_n (pc := 442) dL_442 rfl ?_
  refine q_aload_n (pc := 443) dL_443 rfl ?_
  refine q_iload_n (pc := 444) dL_444 rfl ?_
  refine q_iconst (pc := 445) (v := 1) dL_445 (by decide) ?_
  refine q_iadd (pc := 446) dL_446 ?_
  refine q_sld (pc := 447) (5 * k + 1) ⟨nI_add _ 1, by omega⟩ hL dL_447 ?_
  refine q_cV1 (pc := 448) c2 q_cL_71 z_s59 rfl rfl dL_448 ?_
  refine q_icmp_eq (pc := 451) (tgt := 994) dL_451 (by decide) (fun _ => ?_) (fun h => absurd rfl h)
  exact kk M2 j2
set_option maxRecDepth 100000 in
set_option maxHeartbeats 400000 in
theorem q_case14 {xs : Nat → Int32} {Ln k : Nat} {M : z_Mem} (hL : Ln ≤ 320) (hk : 5 * k + 5 ≤ Ln) (hJ : J k M) (kk : ∀ M2, J (k + 1) M2 → q_Sm xs Ln 994 [some (.ref 2000), some (.ref 0), some (.ref 59), some (.int (nI (5 * k)))] [] M2) : q_Sm xs Ln 456 [some (.ref 2000), some (.ref 0), some (.ref 59), some (.int (nI (5 * k)))] [] M := by
  obtain ⟨r, M1, M2, ⟨v, rfl⟩, c1, c2, j2⟩ := pr_cuts (x := xs (5 * k + 1)) (y := xs (5 * k + 2)) hJ (by omega)
  refine q_aload_n (pc := 456) dL_456 rfl ?_
  refine q_aload_n (pc := 457) dL_457 rfl ?_
  refine q_iload_n (pc := 458) dL_458 rfl ?_
  refine q_iconst (pc := 459) (v := 1) dL_459 (by decide) ?_
  refine q_iadd (pc := 460) dL_460 ?_
  refine q_sld (pc := 461) (5 * k + 1) ⟨nI_add _ 1, by omega⟩ hL dL_461 ?_
  refine q_aload_n (pc := 462) dL_462 rfl ?_
  refine q_iload_n (pc := 463) dL_463 rfl ?_
  refine q_iconst (pc := 464) (v := 2) dL_464 (by decide) ?_
  refine q_iadd (pc := 465) dL_465 ?_
  refine q_sld (pc := 466) (5 * k + 2) ⟨nI_add _ 2, by omega⟩ hL dL_466 ?_
  refine q_cV2 (pc := 467) c1 q_cL_72 z_s0 rfl rfl dL_467 ?_
  refine q_aload_n (pc := 470) dL_470 rfl ?_
  refine q_aload_n (pc := 471) dL_471 rfl ?_
  refine q_iload_n (pc := 472) dL_472 rfl ?_
  refine q_iconst (pc := 473) (v := 1) dL_473 (by decide) ?_
  refine q_iadd (pc := 474) dL_474 ?_
  refine q_sld (pc := 475) (5 * k + 1) ⟨nI_add _ 1, by omega⟩ hL dL_475 ?_
  refine q_aload_n (pc := 476) dL_476 rfl ?_
  refine q_iload_n (pc := 477) dL_477 rfl ?_
  refine q_iconst (pc := 478) (v := 2) dL_478 (by decide) ?_
  refine q_iadd (pc := 479) dL_479 ?_
  refine q_sld (pc := 480) (5 * k + 2) ⟨nI_add _ 2, by omega⟩ hL dL_480 ?_
  refine q_cV2 (pc := 481) c2 q_cL_75 z_s59 rfl rfl dL_481 ?_
  refine q_icmp_eq (pc := 484) (tgt := 994) dL_484 (by decide) (fun _ => ?_) (fun h => absurd rfl h)
  exact kk M2 j2
set_option maxRecDepth 100000 in
set_option maxHeartbeats 400000 in
theorem q_case15 {xs : Nat → Int32} {Ln k : Nat} {M : z_Mem} (hL : Ln ≤ 320) (hk : 5 * k + 5 ≤ Ln) (hJ : J k M) (kk : ∀ M2, J (k + 1) M2 → q_Sm xs Ln 994 [some (.ref 2000), some (.ref 0), some (.ref 59), some (.int (nI (5 * k)))] [] M2) : q_Sm xs Ln 489 [some (.ref 2000), some (.ref 0), some (.ref 59), some (.int (nI (5 * k)))] [] M := by
  obtain ⟨r, M1, M2, ⟨v, rfl⟩, c1, c2, j2⟩ := pr_parts (x := xs (5 * k + 1)) (y := xs (5 * k + 2)) (w := xs (5 * k + 3)) hJ (by omega)
  refine q_aload_n (pc := 489) dL_489 rfl ?_
  refine q_aload_n (pc := 490) dL_490 rfl ?_
  refine q_iload_n (pc := 491) dL_491 rfl ?_
  refine q_iconst (pc := 492) (v := 1) dL_492 (by decide) ?_
  refine q_iadd (pc := 493) dL_493 ?_
  refine q_sld (pc := 494) (5 * k + 1) ⟨nI_add _ 1, by omega⟩ hL dL_494 ?_
  refine q_aload_n (pc := 495) dL_495 rfl ?_
  refine q_iload_n (pc := 496) dL_496 rfl ?_
  refine q_iconst (pc := 497) (v := 2) dL_497 (by decide) ?_
  refine q_iadd (pc := 498) dL_498 ?_
  refine q_sld (pc := 499) (5 * k + 2) ⟨nI_add _ 2, by omega⟩ hL dL_499 ?_
  refine q_aload_n (pc := 500) dL_500 rfl ?_
  refine q_iload_n (pc := 501) dL_501 rfl ?_
  refine q_iconst (pc := 502) (v := 3) dL_502 (by decide) ?_
  refine q_iadd (pc := 503) dL_503 ?_
  refine q_sld (pc := 504) (5 * k + 3) ⟨nI_add _ 3, by omega⟩ hL dL_504 ?_
  refine q_cV3 (pc := 505) c1 q_cL_76 z_s0 rfl rfl dL_505 ?_
  refine q_aload_n (pc := 508) dL_508 rfl ?_
  refine q_aload_n (pc := 509) dL_509 rfl ?_
  refine q_iload_n (pc := 510) dL_510 rfl ?_
  refine q_iconst (pc := 511) (v := 1) dL_511 (by decide) ?_
  refine q_iadd (pc := 512) dL_512 ?_
  refine q_sld (pc := 513) (5 * k + 1) ⟨nI_add _ 1, by omega⟩ hL dL_513 ?_
  refine q_aload_n (pc := 514) dL_514 rfl ?_
  refine q_iload_n (pc := 515) dL_515 rfl ?_
  refine q_iconst (pc := 516) (v := 2) dL_516 (by decide) ?_
  refine q_iadd (pc := 517) dL_517 ?_
  refine q_sld (pc := 518) (5 * k + 2) ⟨nI_add _ 2, by omega⟩ hL dL_518 ?_
  refine q_aload_n (pc := 519) dL_519 rfl ?_
  refine q_iload_n (pc := 520) dL_520 rfl ?_
  refine q_iconst (pc := 521) (v := 3) dL_521 (by decide) ?_
  refine q_iadd (pc := 522) dL_522 ?_
  refine q_sld (pc := 523) (5 * k + 3) ⟨nI_add _ 3, by omega⟩ hL dL_523 ?_
  refine q_cV3 (pc := 524) c2 q_cL_80 z_s59 rfl rfl dL_524 ?_
  refine q_icmp_eq (pc := 527) (tgt := 994) dL_527 (by decide) (fun _ => ?_) (fun h => absurd rfl h)
  exact kk M2 j2
set_option maxRecDepth 100000 in
set_option maxHeartbeats 400000 in
theorem q_case16 {xs : Nat → Int32} {Ln k : Nat} {M : z_Mem} (hL : Ln ≤ 320) (hk : 5 * k + 5 ≤ Ln) (hJ : J k M) (kk : ∀ M2, J (k + 1) M2 → q_Sm xs Ln 994 [some (.ref 2000), some (.ref 0), some (.ref 59), some (.int (nI (5 * k)))] [] M2) : q_Sm xs Ln 532 [some (.ref 2000), some (.ref 0), some (.ref 59), some (.int (nI (5 * k)))] [] M := by
  obtain ⟨r, M1, M2, ⟨v, rfl⟩, c1, c2, j2⟩ := pr_letsGo (x := xs (5 * k + 1)) hJ (by omega)
  refine q_aload_n (pc := 532) dL_532 rfl ?_
  refine q_aload_n (pc := 533) dL_533 rfl ?_
  refine q_iload_n (pc := 534) dL_534 rfl ?_
  refine q_iconst (pc := 535) (v := 1) dL_535 (by decide) ?_
  refine q_iadd (pc := 536) dL_536 ?_
  refine q_sld (pc := 537) (5 * k + 1) ⟨nI_add _ 1, by omega⟩ hL dL_537 ?_
  refine q_cV1 (pc := 538) c1 q_cL_81 z_s0 rfl rfl dL_538 ?_
  refine q_aload_n (pc := 541) dL_541 rfl ?_
  refine q_aload_n (pc := 542) dL_542 rfl ?_
  refine q_iload_n (pc := 543) dL_543 rfl ?_
  refine q_iconst (pc := 544) (v := 1) dL_544 (by decide) ?_
  refine q_iadd (pc := 545) dL_545 ?_
  refine q_sld (pc := 546) (5 * k + 1) ⟨nI_add _ 1, by omega⟩ hL dL_546 ?_
  refine q_cV1 (pc := 547) c2 q_cL_84 z_s59 rfl rfl dL_547 ?_
  refine q_icmp_eq (pc := 550) (tgt := 994) dL_550 (by decide) (fun _ => ?_) (fun h => absurd rfl h)
  exact kk M2 j2
set_option maxRecDepth 100000 in
set_option maxHeartbeats 400000 in
theorem q_case17 {xs : Nat → Int32} {Ln k : Nat} {M : z_Mem} (hL : Ln ≤ 320) (hk : 5 * k + 5 ≤ Ln) (hJ : J k M) (kk : ∀ M2, J (k + 1) M2 → q_Sm xs Ln 994 [some (.ref 2000), some (.ref 0), some (.ref 59), some (.int (nI (5 * k)))] [] M2) : q_Sm xs Ln 555 [some (.ref 2000), some (.ref 0), some (.ref 59), some (.int (nI (5 * k)))] [] M := by
  obtain ⟨r, M1, M2, ⟨v, rfl⟩, c1, c2, j2⟩ := pr_judge (x := xs (5 * k + 1)) (v := (((xs (5 * k + 2)).toInt64 <<< ((32 : Int32).toInt64 &&& 63)) ||| ((xs (5 * k + 3)).toInt64 &&& 4294967295))) hJ (by omega)
  refine q_aload_n (pc := 555) dL_555 rfl ?_
  refine q_aload_n (pc := 556) dL_556 rfl ?_
  refine q_iload_n (pc := 557) dL_557 rfl ?_
  refine q_iconst (pc := 558) (v := 1) dL_558 (by decide) ?_
  refine q_iadd (pc := 559) dL_559 ?_
  refine q_sld (pc := 560) (5 * k + 1) ⟨nI_add _ 1, by omega⟩ hL dL_560 ?_
  refine q_aload_n (pc := 561) dL_561 rfl ?_
  refine q_iload_n (pc := 562) dL_562 rfl ?_
  refine q_iconst (pc := 563) (v := 2) dL_563 (by decide) ?_
  refine q_iadd (pc := 564) dL_564 ?_
  refine q_sld (pc := 565) (5 * k + 2) ⟨nI_add _ 2, by omega⟩ hL dL_565 ?_
  refine q_i2l (pc := 566) dL_566 rfl ?_
  refine q_bipush (pc := 567) (v := 32) dL_567 (by decide) ?_
  refine q_lshl (pc := 569) dL_569 rfl ?_
  refine q_aload_n (pc := 570) dL_570 rfl ?_
  refine q_iload_n (pc := 571) dL_571 rfl ?_
  refine q_iconst (pc := 572) (v := 3) dL_572 (by decide) ?_
  refine q_iadd (pc := 573) dL_573 ?_
  refine q_sld (pc := 574) (5 * k + 3) ⟨nI_add _ 3, by omega⟩ hL dL_574 ?_
  refine q_i2l (pc := 575) dL_575 rfl ?_
  refine q_ldc2 (pc := 576) q_kL_85 dL_576 ?_
  refine q_land (pc := 579) dL_579 ?_
  refine q_lor (pc := 580) dL_580 ?_
  refine q_cV2 (pc := 581) c1 q_cL_87 z_s0 rfl rfl dL_581 ?_
  refine q_aload_n (pc := 584) dL_584 rfl ?_
  refine q_aload_n (pc := 585) dL_585 rfl ?_
  refine q_iload_n (pc := 586) dL_586 rfl ?_
  refine q_iconst (pc := 587) (v := 1) dL_587 (by decide) ?_
  refine q_iadd (pc := 588) dL_588 ?_
  refine q_sld (pc := 589) (5 * k + 1) ⟨nI_add _ 1, by omega⟩ hL dL_589 ?_
  refine q_aload_n (pc := 590) dL_590 rfl ?_
  refine q_iload_n (pc := 591) dL_591 rfl ?_
  refine q_iconst (pc := 592) (v := 2) dL_592 (by decide) ?_
  refine q_iadd (pc := 593) dL_593 ?_
  refine q_sld (pc := 594) (5 * k + 2) ⟨nI_add _ 2, by omega⟩ hL dL_594 ?_
  refine q_i2l (pc := 595) dL_595 rfl ?_
  refine q_bipush (pc := 596) (v := 32) dL_596 (by decide) ?_
  refine q_lshl (pc := 598) dL_598 rfl ?_
  refine q_aload_n (pc := 599) dL_599 rfl ?_
  refine q_iload_n (pc := 600) dL_600 rfl ?_
  refine q_iconst (pc := 601) (v := 3) dL_601 (by decide) ?_
  refine q_iadd (pc := 602) dL_602 ?_
  refine q_sld (pc := 603) (5 * k + 3) ⟨nI_add _ 3, by omega⟩ hL dL_603 ?_
  refine q_i2l (pc := 604) dL_604 rfl ?_
  refine q_ldc2 (pc := 605) q_kL_85 dL_605 ?_
  refine q_land (pc := 608) dL_608 ?_
  refine q_lor (pc := 609) dL_609 ?_
  refine q_cV2 (pc := 610) c2 q_cL_91 z_s59 rfl rfl dL_610 ?_
  refine q_icmp_eq (pc := 613) (tgt := 994) dL_613 (by decide) (fun _ => ?_) (fun h => absurd rfl h)
  exact kk M2 j2
set_option maxRecDepth 100000 in
set_option maxHeartbeats 400000 in
theorem q_case18 {xs : Nat → Int32} {Ln k : Nat} {M : z_Mem} (hL : Ln ≤ 320) (hk : 5 * k + 5 ≤ Ln) (hJ : J k M) (kk : ∀ M2, J (k + 1) M2 → q_Sm xs Ln 994 [some (.ref 2000), some (.ref 0), some (.ref 59), some (.int (nI (5 * k)))] [] M2) : q_Sm xs Ln 618 [some (.ref 2000), some (.ref 0), some (.ref 59), some (.int (nI (5 * k)))] [] M := by
  obtain ⟨r, M1, M2, ⟨v, rfl⟩, c1, c2, j2⟩ := pr_trial (x := xs (5 * k + 1)) (y := xs (5 * k + 2)) hJ (by omega)
  refine q_aload_n (pc := 618) dL_618 rfl ?_
  refine q_aload_n (pc := 619) dL_619 rfl ?_
  refine q_iload_n (pc := 620) dL_620 rfl ?_
  refine q_iconst (pc := 621) (v := 1) dL_621 (by decide) ?_
  refine q_iadd (pc := 622) dL_622 ?_
  refine q_sld (pc := 623) (5 * k + 1) ⟨nI_add _ 1, by omega⟩ hL dL_623 ?_
  refine q_aload_n (pc := 624) dL_624 rfl ?_
  refine q_iload_n (pc := 625) dL_625 rfl ?_
  refine q_iconst (pc := 626) (v := 2) dL_626 (by decide) ?_
  refine q_iadd (pc := 627) dL_627 ?_
  refine q_sld (pc := 628) (5 * k + 2) ⟨nI_add _ 2, by omega⟩ hL dL_628 ?_
  refine q_cV2 (pc := 629) c1 q_cL_92 z_s0 rfl rfl dL_629 ?_
  refine q_aload_n (pc := 632) dL_632 rfl ?_
  refine q_aload_n (pc := 633) dL_633 rfl ?_
  refine q_iload_n (pc := 634) dL_634 rfl ?_
  refine q_iconst (pc := 635) (v := 1) dL_635 (by decide) ?_
  refine q_iadd (pc := 636) dL_636 ?_
  refine q_sld (pc := 637) (5 * k + 1) ⟨nI_add _ 1, by omega⟩ hL dL_637 ?_
  refine q_aload_n (pc := 638) dL_638 rfl ?_
  refine q_iload_n (pc := 639) dL_639 rfl ?_
  refine q_iconst (pc := 640) (v := 2) dL_640 (by decide) ?_
  refine q_iadd (pc := 641) dL_641 ?_
  refine q_sld (pc := 642) (5 * k + 2) ⟨nI_add _ 2, by omega⟩ hL dL_642 ?_
  refine q_cV2 (pc := 643) c2 q_cL_95 z_s59 rfl rfl dL_643 ?_
  refine q_icmp_eq (pc := 646) (tgt := 994) dL_646 (by decide) (fun _ => ?_) (fun h => absurd rfl h)
  exact kk M2 j2
set_option maxRecDepth 100000 in
set_option maxHeartbeats 400000 in
theorem q_case19 {xs : Nat → Int32} {Ln k : Nat} {M : z_Mem} (hL : Ln ≤ 320) (hk : 5 * k + 5 ≤ Ln) (hJ : J k M) (kk : ∀ M2, J (k + 1) M2 → q_Sm xs Ln 994 [some (.ref 2000), some (.ref 0), some (.ref 59), some (.int (nI (5 * k)))] [] M2) : q_Sm xs Ln 651 [some (.ref 2000), some (.ref 0), some (.ref 59), some (.int (nI (5 * k)))] [] M := by
  obtain ⟨r, M1, M2, ⟨v, rfl⟩, c1, c2, j2⟩ := pr_untry hJ (by omega)
  refine q_aload_n (pc := 651) dL_651 rfl ?_
  refine q_cV0 (pc := 652) c1 q_cL_96 z_s0 rfl rfl dL_652 ?_
  refine q_aload_n (pc := 655) dL_655 rfl ?_
  refine q_cV0 (pc := 656) c2 q_cL_99 z_s59 rfl rfl dL_656 ?_
  refine q_icmp_eq (pc := 659) (tgt := 994) dL_659 (by decide) (fun _ => ?_) (fun h => absurd rfl h)
  exact kk M2 j2
set_option maxRecDepth 100000 in
set_option maxHeartbeats 400000 in
theorem q_case20 {xs : Nat → Int32} {Ln k : Nat} {M : z_Mem} (hL : Ln ≤ 320) (hk : 5 * k + 5 ≤ Ln) (hJ : J k M) (kk : ∀ M2, J (k + 1) M2 → q_Sm xs Ln 994 [some (.ref 2000), some (.ref 0), some (.ref 59), some (.int (nI (5 * k)))] [] M2) : q_Sm xs Ln 664 [some (.ref 2000), some (.ref 0), some (.ref 59), some (.int (nI (5 * k)))] [] M := by
  obtain ⟨r, M1, M2, ⟨v, rfl⟩, c1, c2, j2⟩ := pr_which (x := xs (5 * k + 1)) hJ (by omega)
  refine q_aload_n (pc := 664) dL_664 rfl ?_
  refine q_aload_n (pc := 665) dL_665 rfl ?_
  refine q_iload_n (pc := 666) dL_666 rfl ?_
  refine q_iconst (pc := 667) (v := 1) dL_667 (by decide) ?_
  refine q_iadd (pc := 668) dL_668 ?_
  refine q_sld (pc := 669) (5 * k + 1) ⟨nI_add _ 1, by omega⟩ hL dL_669 ?_
  refine q_cV1 (pc := 670) c1 q_cL_100 z_s0 rfl rfl dL_670 ?_
  refine q_aload_n (pc := 673) dL_673 rfl ?_
  refine q_aload_n (pc := 674) dL_674 rfl ?_
  refine q_iload_n (pc := 675) dL_675 rfl ?_
  refine q_iconst (pc := 676) (v := 1) dL_676 (by decide) ?_
  refine q_iadd (pc := 677) dL_677 ?_
  refine q_sld (pc := 678) (5 * k + 1) ⟨nI_add _ 1, by omega⟩ hL dL_678 ?_
  refine q_cV1 (pc := 679) c2 q_cL_103 z_s59 rfl rfl dL_679 ?_
  refine q_icmp_eq (pc := 682) (tgt := 994) dL_682 (by decide) (fun _ => ?_) (fun h => absurd rfl h)
  exact kk M2 j2
set_option maxRecDepth 100000 in
set_option maxHeartbeats 400000 in
theorem q_case21 {xs : Nat → Int32} {Ln k : Nat} {M : z_Mem} (hL : Ln ≤ 320) (hk : 5 * k + 5 ≤ Ln) (hJ : J k M) (kk : ∀ M2, J (k + 1) M2 → q_Sm xs Ln 994 [some (.ref 2000), some (.ref 0), some (.ref 59), some (.int (nI (5 * k)))] [] M2) : q_Sm xs Ln 687 [some (.ref 2000), some (.ref 0), some (.ref 59), some (.int (nI (5 * k)))] [] M := by
  by_cases hz : xs (5 * k + 2) = 0
  · obtain ⟨r, M1, M2, ⟨v, rfl⟩, c1, c2, j2⟩ := pr_share (x := xs (5 * k + 1)) (z := 0) hJ (by omega)
    refine q_aload_n (pc := 687) dL_687 rfl ?_
    refine q_aload_n (pc := 688) dL_688 rfl ?_
    refine q_iload_n (pc := 689) dL_689 rfl ?_
    refine q_iconst (pc := 690) (v := 1) dL_690 (by decide) ?_
    refine q_iadd (pc := 691) dL_691 ?_
    refine q_sld (pc := 692) (5 * k + 1) ⟨nI_add _ 1, by omega⟩ hL dL_692 ?_
    refine q_aload_n (pc := 693) dL_693 rfl ?_
    refine q_iload_n (pc := 694) dL_694 rfl ?_
    refine q_iconst (pc := 695) (v := 2) dL_695 (by decide) ?_
    refine q_iadd (pc := 696) dL_696 ?_
    refine q_sld (pc := 697) (5 * k + 2) ⟨nI_add _ 2, by omega⟩ hL dL_697 ?_
    refine q_if_eq (pc := 698) (tgt := 705) dL_698 (by decide) (fun _ => ?_) (fun h => absurd hz h)
    refine q_iconst (pc := 705) (v := 0) dL_705 (by decide) ?_
    refine q_cV2 (pc := 706) c1 q_cL_104 z_s0 rfl rfl dL_706 ?_
    refine q_aload_n (pc := 709) dL_709 rfl ?_
    refine q_aload_n (pc := 710) dL_710 rfl ?_
    refine q_iload_n (pc := 711) dL_711 rfl ?_
    refine q_iconst (pc := 712) (v := 1) dL_712 (by decide) ?_
    refine q_iadd (pc := 713) dL_713 ?_
    refine q_sld (pc := 714) (5 * k + 1) ⟨nI_add _ 1, by omega⟩ hL dL_714 ?_
    refine q_aload_n (pc := 715) dL_715 rfl ?_
    refine q_iload_n (pc := 716) dL_716 rfl ?_
    refine q_iconst (pc := 717) (v := 2) dL_717 (by decide) ?_
    refine q_iadd (pc := 718) dL_718 ?_
    refine q_sld (pc := 719) (5 * k + 2) ⟨nI_add _ 2, by omega⟩ hL dL_719 ?_
    refine q_if_eq (pc := 720) (tgt := 727) dL_720 (by decide) (fun _ => ?_) (fun h => absurd hz h)
    refine q_iconst (pc := 727) (v := 0) dL_727 (by decide) ?_
    refine q_cV2 (pc := 728) c2 q_cL_108 z_s59 rfl rfl dL_728 ?_
    refine q_icmp_eq (pc := 731) (tgt := 994) dL_731 (by decide) (fun _ => ?_) (fun h => absurd rfl h)
    exact kk M2 j2
  · obtain ⟨r, M1, M2, ⟨v, rfl⟩, c1, c2, j2⟩ := pr_share (x := xs (5 * k + 1)) (z := 1) hJ (by omega)
    refine q_aload_n (pc := 687) dL_687 rfl ?_
    refine q_aload_n (pc := 688) dL_688 rfl ?_
    refine q_iload_n (pc := 689) dL_689 rfl ?_
    refine q_iconst (pc := 690) (v := 1) dL_690 (by decide) ?_
    refine q_iadd (pc := 691) dL_691 ?_
    refine q_sld (pc := 692) (5 * k + 1) ⟨nI_add _ 1, by omega⟩ hL dL_692 ?_
    refine q_aload_n (pc := 693) dL_693 rfl ?_
    refine q_iload_n (pc := 694) dL_694 rfl ?_
    refine q_iconst (pc := 695) (v := 2) dL_695 (by decide) ?_
    refine q_iadd (pc := 696) dL_696 ?_
    refine q_sld (pc := 697) (5 * k + 2) ⟨nI_add _ 2, by omega⟩ hL dL_697 ?_
    refine q_if_eq (pc := 698) (tgt := 705) dL_698 (by decide) (fun h => absurd h hz) (fun _ => ?_)
    refine q_iconst (pc := 701) (v := 1) dL_701 (by decide) ?_
    refine q_goto (pc := 702) (tgt := 706) dL_702 (by decide) ?_
    refine q_cV2 (pc := 706) c1 q_cL_104 z_s0 rfl rfl dL_706 ?_
    refine q_aload_n (pc := 709) dL_709 rfl ?_
    refine q_aload_n (pc := 710) dL_710 rfl ?_
    refine q_iload_n (pc := 711) dL_711 rfl ?_
    refine q_iconst (pc := 712) (v := 1) dL_712 (by decide) ?_
    refine q_iadd (pc := 713) dL_713 ?_
    refine q_sld (pc := 714) (5 * k + 1) ⟨nI_add _ 1, by omega⟩ hL dL_714 ?_
    refine q_aload_n (pc := 715) dL_715 rfl ?_
    refine q_iload_n (pc := 716) dL_716 rfl ?_
    refine q_iconst (pc := 717) (v := 2) dL_717 (by decide) ?_
    refine q_iadd (pc := 718) dL_718 ?_
    refine q_sld (pc := 719) (5 * k + 2) ⟨nI_add _ 2, by omega⟩ hL dL_719 ?_
    refine q_if_eq (pc := 720) (tgt := 727) dL_720 (by decide) (fun h => absurd h hz) (fun _ => ?_)
    refine q_iconst (pc := 723) (v := 1) dL_723 (by decide) ?_
    refine q_goto (pc := 724) (tgt := 728) dL_724 (by decide) ?_
    refine q_cV2 (pc := 728) c2 q_cL_108 z_s59 rfl rfl dL_728 ?_
    refine q_icmp_eq (pc := 731) (tgt := 994) dL_731 (by decide) (fun _ => ?_) (fun h => absurd rfl h)
    exact kk M2 j2
set_option maxRecDepth 100000 in
set_option maxHeartbeats 400000 in
theorem q_case22 {xs : Nat → Int32} {Ln k : Nat} {M : z_Mem} (hL : Ln ≤ 320) (hk : 5 * k + 5 ≤ Ln) (hJ : J k M) (kk : ∀ M2, J (k + 1) M2 → q_Sm xs Ln 994 [some (.ref 2000), some (.ref 0), some (.ref 59), some (.int (nI (5 * k)))] [] M2) : q_Sm xs Ln 736 [some (.ref 2000), some (.ref 0), some (.ref 59), some (.int (nI (5 * k)))] [] M := by
  obtain ⟨r, M1, M2, ⟨v, rfl⟩, c1, c2, j2⟩ := pr_rests (x := xs (5 * k + 1)) (y := xs (5 * k + 2)) (v := xs (5 * k + 3)) hJ (by omega)
  refine q_aload_n (pc := 736) dL_736 rfl ?_
  refine q_aload_n (pc := 737) dL_737 rfl ?_
  refine q_iload_n (pc := 738) dL_738 rfl ?_
  refine q_iconst (pc := 739) (v := 1) dL_739 (by decide) ?_
  refine q_iadd (pc := 740) dL_740 ?_
  refine q_sld (pc := 741) (5 * k + 1) ⟨nI_add _ 1, by omega⟩ hL dL_741 ?_
  refine q_aload_n (pc := 742) dL_742 rfl ?_
  refine q_iload_n (pc := 743) dL_743 rfl ?_
  refine q_iconst (pc := 744) (v := 2) dL_744 (by decide) ?_
  refine q_iadd (pc := 745) dL_745 ?_
  refine q_sld (pc := 746) (5 * k + 2) ⟨nI_add _ 2, by omega⟩ hL dL_746 ?_
  refine q_aload_n (pc := 747) dL_747 rfl ?_
  refine q_iload_n (pc := 748) dL_748 rfl ?_
  refine q_iconst (pc := 749) (v := 3) dL_749 (by decide) ?_
  refine q_iadd (pc := 750) dL_750 ?_
  refine q_sld (pc := 751) (5 * k + 3) ⟨nI_add _ 3, by omega⟩ hL dL_751 ?_
  refine q_cV3 (pc := 752) c1 q_cL_109 z_s0 rfl rfl dL_752 ?_
  refine q_aload_n (pc := 755) dL_755 rfl ?_
  refine q_aload_n (pc := 756) dL_756 rfl ?_
  refine q_iload_n (pc := 757) dL_757 rfl ?_
  refine q_iconst (pc := 758) (v := 1) dL_758 (by decide) ?_
  refine q_iadd (pc := 759) dL_759 ?_
  refine q_sld (pc := 760) (5 * k + 1) ⟨nI_add _ 1, by omega⟩ hL dL_760 ?_
  refine q_aload_n (pc := 761) dL_761 rfl ?_
  refine q_iload_n (pc := 762) dL_762 rfl ?_
  refine q_iconst (pc := 763) (v := 2) dL_763 (by decide) ?_
  refine q_iadd (pc := 764) dL_764 ?_
  refine q_sld (pc := 765) (5 * k + 2) ⟨nI_add _ 2, by omega⟩ hL dL_765 ?_
  refine q_aload_n (pc := 766) dL_766 rfl ?_
  refine q_iload_n (pc := 767) dL_767 rfl ?_
  refine q_iconst (pc := 768) (v := 3) dL_768 (by decide) ?_
  refine q_iadd (pc := 769) dL_769 ?_
  refine q_sld (pc := 770) (5 * k + 3) ⟨nI_add _ 3, by omega⟩ hL dL_770 ?_
  refine q_cV3 (pc := 771) c2 q_cL_112 z_s59 rfl rfl dL_771 ?_
  refine q_icmp_eq (pc := 774) (tgt := 994) dL_774 (by decide) (fun _ => ?_) (fun h => absurd rfl h)
  exact kk M2 j2
set_option maxRecDepth 100000 in
set_option maxHeartbeats 400000 in
theorem q_case23 {xs : Nat → Int32} {Ln k : Nat} {M : z_Mem} (hL : Ln ≤ 320) (hk : 5 * k + 5 ≤ Ln) (hJ : J k M) (kk : ∀ M2, J (k + 1) M2 → q_Sm xs Ln 994 [some (.ref 2000), some (.ref 0), some (.ref 59), some (.int (nI (5 * k)))] [] M2) : q_Sm xs Ln 779 [some (.ref 2000), some (.ref 0), some (.ref 59), some (.int (nI (5 * k)))] [] M := by
  by_cases hz : xs (5 * k + 4) = 0
  · obtain ⟨r, M1, M2, ⟨v, rfl⟩, c1, c2, j2⟩ := pr_gives (x := xs (5 * k + 1)) (y := xs (5 * k + 2)) (v := xs (5 * k + 3)) (z := 0) hJ (by omega)
    refine q_aload_n (pc := 779) dL_779 rfl ?_
    refine q_aload_n (pc := 780) dL_780 rfl ?_
    refine q_iload_n (pc := 781) dL_781 rfl ?_
    refine q_iconst (pc := 782) (v := 1) dL_782 (by decide) ?_
    refine q_iadd (pc := 783) dL_783 ?_
    refine q_sld (pc := 784) (5 * k + 1) ⟨nI_add _ 1, by omega⟩ hL dL_784 ?_
    refine q_aload_n (pc := 785) dL_785 rfl ?_
    refine q_iload_n (pc := 786) dL_786 rfl ?_
    refine q_iconst (pc := 787) (v := 2) dL_787 (by decide) ?_
    refine q_iadd (pc := 788) dL_788 ?_
    refine q_sld (pc := 789) (5 * k + 2) ⟨nI_add _ 2, by omega⟩ hL dL_789 ?_
    refine q_aload_n (pc := 790) dL_790 rfl ?_
    refine q_iload_n (pc := 791) dL_791 rfl ?_
    refine q_iconst (pc := 792) (v := 3) dL_792 (by decide) ?_
    refine q_iadd (pc := 793) dL_793 ?_
    refine q_sld (pc := 794) (5 * k + 3) ⟨nI_add _ 3, by omega⟩ hL dL_794 ?_
    refine q_aload_n (pc := 795) dL_795 rfl ?_
    refine q_iload_n (pc := 796) dL_796 rfl ?_
    refine q_iconst (pc := 797) (v := 4) dL_797 (by decide) ?_
    refine q_iadd (pc := 798) dL_798 ?_
    refine q_sld (pc := 799) (5 * k + 4) ⟨nI_add _ 4, by omega⟩ hL dL_799 ?_
    refine q_if_eq (pc := 800) (tgt := 807) dL_800 (by decide) (fun _ => ?_) (fun h => absurd hz h)
    refine q_iconst (pc := 807) (v := 0) dL_807 (by decide) ?_
    refine q_cV4 (pc := 808) c1 q_cL_113 z_s0 rfl rfl dL_808 ?_
    refine q_aload_n (pc := 811) dL_811 rfl ?_
    refine q_aload_n (pc := 812) dL_812 rfl ?_
    refine q_iload_n (pc := 813) dL_813 rfl ?_
    refine q_iconst (pc := 814) (v := 1) dL_814 (by decide) ?_
    refine q_iadd (pc := 815) dL_815 ?_
    refine q_sld (pc := 816) (5 * k + 1) ⟨nI_add _ 1, by omega⟩ hL dL_816 ?_
    refine q_aload_n (pc := 817) dL_817 rfl ?_
    refine q_iload_n (pc := 818) dL_818 rfl ?_
    refine q_iconst (pc := 819) (v := 2) dL_819 (by decide) ?_
    refine q_iadd (pc := 820) dL_820 ?_
    refine q_sld (pc := 821) (5 * k + 2) ⟨nI_add _ 2, by omega⟩ hL dL_821 ?_
    refine q_aload_n (pc := 822) dL_822 rfl ?_
    refine q_iload_n (pc := 823) dL_823 rfl ?_
    refine q_iconst (pc := 824) (v := 3) dL_824 (by decide) ?_
    refine q_iadd (pc := 825) dL_825 ?_
    refine q_sld (pc := 826) (5 * k + 3) ⟨nI_add _ 3, by omega⟩ hL dL_826 ?_
    refine q_aload_n (pc := 827) dL_827 rfl ?_
    refine q_iload_n (pc := 828) dL_828 rfl ?_
    refine q_iconst (pc := 829) (v := 4) dL_829 (by decide) ?_
    refine q_iadd (pc := 830) dL_830 ?_
    refine q_sld (pc := 831) (5 * k + 4) ⟨nI_add _ 4, by omega⟩ hL dL_831 ?_
    refine q_if_eq (pc := 832) (tgt := 839) dL_832 (by decide) (fun _ => ?_) (fun h => absurd hz h)
    refine q_iconst (pc := 839) (v := 0) dL_839 (by decide) ?_
    refine q_cV4 (pc := 840) c2 q_cL_117 z_s59 rfl rfl dL_840 ?_
    refine q_icmp_eq (pc := 843) (tgt := 994) dL_843 (by decide) (fun _ => ?_) (fun h => absurd rfl h)
    exact kk M2 j2
  · obtain ⟨r, M1, M2, ⟨v, rfl⟩, c1, c2, j2⟩ := pr_gives (x := xs (5 * k + 1)) (y := xs (5 * k + 2)) (v := xs (5 * k + 3)) (z := 1) hJ (by omega)
    refine q_aload_n (pc := 779) dL_779 rfl ?_
    refine q_aload_n (pc := 780) dL_780 rfl ?_
    refine q_iload_n (pc := 781) dL_781 rfl ?_
    refine q_iconst (pc := 782) (v := 1) dL_782 (by decide) ?_
    refine q_iadd (pc := 783) dL_783 ?_
    refine q_sld (pc := 784) (5 * k + 1) ⟨nI_add _ 1, by omega⟩ hL dL_784 ?_
    refine q_aload_n (pc := 785) dL_785 rfl ?_
    refine q_iload_n (pc := 786) dL_786 rfl ?_
    refine q_iconst (pc := 787) (v := 2) dL_787 (by decide) ?_
    refine q_iadd (pc := 788) dL_788 ?_
    refine q_sld (pc := 789) (5 * k + 2) ⟨nI_add _ 2, by omega⟩ hL dL_789 ?_
    refine q_aload_n (pc := 790) dL_790 rfl ?_
    refine q_iload_n (pc := 791) dL_791 rfl ?_
    refine q_iconst (pc := 792) (v := 3) dL_792 (by decide) ?_
    refine q_iadd (pc := 793) dL_793 ?_
    refine q_sld (pc := 794) (5 * k + 3) ⟨nI_add _ 3, by omega⟩ hL dL_794 ?_
    refine q_aload_n (pc := 795) dL_795 rfl ?_
    refine q_iload_n (pc := 796) dL_796 rfl ?_
    refine q_iconst (pc := 797) (v := 4) dL_797 (by decide) ?_
    refine q_iadd (pc := 798) dL_798 ?_
    refine q_sld (pc := 799) (5 * k + 4) ⟨nI_add _ 4, by omega⟩ hL dL_799 ?_
    refine q_if_eq (pc := 800) (tgt := 807) dL_800 (by decide) (fun h => absurd h hz) (fun _ => ?_)
    refine q_iconst (pc := 803) (v := 1) dL_803 (by decide) ?_
    refine q_goto (pc := 804) (tgt := 808) dL_804 (by decide) ?_
    refine q_cV4 (pc := 808) c1 q_cL_113 z_s0 rfl rfl dL_808 ?_
    refine q_aload_n (pc := 811) dL_811 rfl ?_
    refine q_aload_n (pc := 812) dL_812 rfl ?_
    refine q_iload_n (pc := 813) dL_813 rfl ?_
    refine q_iconst (pc := 814) (v := 1) dL_814 (by decide) ?_
    refine q_iadd (pc := 815) dL_815 ?_
    refine q_sld (pc := 816) (5 * k + 1) ⟨nI_add _ 1, by omega⟩ hL dL_816 ?_
    refine q_aload_n (pc := 817) dL_817 rfl ?_
    refine q_iload_n (pc := 818) dL_818 rfl ?_
    refine q_iconst (pc := 819) (v := 2) dL_819 (by decide) ?_
    refine q_iadd (pc := 820) dL_820 ?_
    refine q_sld (pc := 821) (5 * k + 2) ⟨nI_add _ 2, by omega⟩ hL dL_821 ?_
    refine q_aload_n (pc := 822) dL_822 rfl ?_
    refine q_iload_n (pc := 823) dL_823 rfl ?_
    refine q_iconst (pc := 824) (v := 3) dL_824 (by decide) ?_
    refine q_iadd (pc := 825) dL_825 ?_
    refine q_sld (pc := 826) (5 * k + 3) ⟨nI_add _ 3, by omega⟩ hL dL_826 ?_
    refine q_aload_n (pc := 827) dL_827 rfl ?_
    refine q_iload_n (pc := 828) dL_828 rfl ?_
    refine q_iconst (pc := 829) (v := 4) dL_829 (by decide) ?_
    refine q_iadd (pc := 830) dL_830 ?_
    refine q_sld (pc := 831) (5 * k + 4) ⟨nI_add _ 4, by omega⟩ hL dL_831 ?_
    refine q_if_eq (pc := 832) (tgt := 839) dL_832 (by decide) (fun h => absurd h hz) (fun _ => ?_)
    refine q_iconst (pc := 835) (v := 1) dL_835 (by decide) ?_
    refine q_goto (pc := 836) (tgt := 840) dL_836 (by decide) ?_
    refine q_cV4 (pc := 840) c2 q_cL_117 z_s59 rfl rfl dL_840 ?_
    refine q_icmp_eq (pc := 843) (tgt := 994) dL_843 (by decide) (fun _ => ?_) (fun h => absurd rfl h)
    exact kk M2 j2
set_option maxRecDepth 100000 in
set_option maxHeartbeats 400000 in
theorem q_case24 {xs : Nat → Int32} {Ln k : Nat} {M : z_Mem} (hL : Ln ≤ 320) (hk : 5 * k + 5 ≤ Ln) (hJ : J k M) (kk : ∀ M2, J (k + 1) M2 → q_Sm xs Ln 994 [some (.ref 2000), some (.ref 0), some (.ref 59), some (.int (nI (5 * k)))] [] M2) : q_Sm xs Ln 848 [some (.ref 2000), some (.ref 0), some (.ref 59), some (.int (nI (5 * k)))] [] M := by
  obtain ⟨r, M1, M2, ⟨v, rfl⟩, c1, c2, j2⟩ := pr_seed (v := (((xs (5 * k + 1)).toInt64 <<< ((32 : Int32).toInt64 &&& 63)) ||| ((xs (5 * k + 2)).toInt64 &&& 4294967295))) hJ (by omega)
  refine q_aload_n (pc := 848) dL_848 rfl ?_
  refine q_aload_n (pc := 849) dL_849 rfl ?_
  refine q_iload_n (pc := 850) dL_850 rfl ?_
  refine q_iconst (pc := 851) (v := 1) dL_851 (by decide) ?_
  refine q_iadd (pc := 852) dL_852 ?_
  refine q_sld (pc := 853) (5 * k + 1) ⟨nI_add _ 1, by omega⟩ hL dL_853 ?_
  refine q_i2l (pc := 854) dL_854 rfl ?_
  refine q_bipush (pc := 855) (v := 32) dL_855 (by decide) ?_
  refine q_lshl (pc := 857) dL_857 rfl ?_
  refine q_aload_n (pc := 858) dL_858 rfl ?_
  refine q_iload_n (pc := 859) dL_859 rfl ?_
  refine q_iconst (pc := 860) (v := 2) dL_860 (by decide) ?_
  refine q_iadd (pc := 861) dL_861 ?_
  refine q_sld (pc := 862) (5 * k + 2) ⟨nI_add _ 2, by omega⟩ hL dL_862 ?_
  refine q_i2l (pc := 863) dL_863 rfl ?_
  refine q_ldc2 (pc := 864) q_kL_85 dL_864 ?_
  refine q_land (pc := 867) dL_867 ?_
  refine q_lor (pc := 868) dL_868 ?_
  refine q_cV1 (pc := 869) c1 q_cL_118 z_s0 rfl rfl dL_869 ?_
  refine q_aload_n (pc := 872) dL_872 rfl ?_
  refine q_aload_n (pc := 873) dL_873 rfl ?_
  refine q_iload_n (pc := 874) dL_874 rfl ?_
  refine q_iconst (pc := 875) (v := 1) dL_875 (by decide) ?_
  refine q_iadd (pc := 876) dL_876 ?_
  refine q_sld (pc := 877) (5 * k + 1) ⟨nI_add _ 1, by omega⟩ hL dL_877 ?_
  refine q_i2l (pc := 878) dL_878 rfl ?_
  refine q_bipush (pc := 879) (v := 32) dL_879 (by decide) ?_
  refine q_lshl (pc := 881) dL_881 rfl ?_
  refine q_aload_n (pc := 882) dL_882 rfl ?_
  refine q_iload_n (pc := 883) dL_883 rfl ?_
  refine q_iconst (pc := 884) (v := 2) dL_884 (by decide) ?_
  refine q_iadd (pc := 885) dL_885 ?_
  refine q_sld (pc := 886) (5 * k + 2) ⟨nI_add _ 2, by omega⟩ hL dL_886 ?_
  refine q_i2l (pc := 887) dL_887 rfl ?_
  refine q_ldc2 (pc := 888) q_kL_85 dL_888 ?_
  refine q_land (pc := 891) dL_891 ?_
  refine q_lor (pc := 892) dL_892 ?_
  refine q_cV1 (pc := 893) c2 q_cL_122 z_s59 rfl rfl dL_893 ?_
  refine q_lcmp (pc := 896) dL_896 ?_
  refine q_if_eq (pc := 897) (tgt := 994) dL_897 (by decide) (fun _ => ?_) (fun h => absurd ((lgc0 v v).mpr rfl) h)
  exact kk M2 j2
set_option maxRecDepth 100000 in
set_option maxHeartbeats 400000 in
theorem q_case25 {xs : Nat → Int32} {Ln k : Nat} {M : z_Mem} (hL : Ln ≤ 320) (hk : 5 * k + 5 ≤ Ln) (hJ : J k M) (kk : ∀ M2, J (k + 1) M2 → q_Sm xs Ln 994 [some (.ref 2000), some (.ref 0), some (.ref 59), some (.int (nI (5 * k)))] [] M2) : q_Sm xs Ln 902 [some (.ref 2000), some (.ref 0), some (.ref 59), some (.int (nI (5 * k)))] [] M := by
  obtain ⟨r, M1, M2, ⟨v, rfl⟩, c1, c2, j2⟩ := pr_seasons (x := xs (5 * k + 1)) hJ (by omega)
  refine q_aload_n (pc := 902) dL_902 rfl ?_
  refine q_aload_n (pc := 903) dL_903 rfl ?_
  refine q_iload_n (pc := 904) dL_904 rfl ?_
  refine q_iconst (pc := 905) (v := 1) dL_905 (by decide) ?_
  refine q_iadd (pc := 906) dL_906 ?_
  refine q_sld (pc := 907) (5 * k + 1) ⟨nI_add _ 1, by omega⟩ hL dL_907 ?_
  refine q_cV1 (pc := 908) c1 q_cL_123 z_s0 rfl rfl dL_908 ?_
  refine q_aload_n (pc := 911) dL_911 rfl ?_
  refine q_aload_n (pc := 912) dL_912 rfl ?_
  refine q_iload_n (pc := 913) dL_913 rfl ?_
  refine q_iconst (pc := 914) (v := 1) dL_914 (by decide) ?_
  refine q_iadd (pc := 915) dL_915 ?_
  refine q_sld (pc := 916) (5 * k + 1) ⟨nI_add _ 1, by omega⟩ hL dL_916 ?_
  refine q_cV1 (pc := 917) c2 q_cL_126 z_s59 rfl rfl dL_917 ?_
  refine q_icmp_eq (pc := 920) (tgt := 994) dL_920 (by decide) (fun _ => ?_) (fun h => absurd rfl h)
  exact kk M2 j2
set_option maxRecDepth 100000 in
set_option maxHeartbeats 400000 in
theorem q_case26 {xs : Nat → Int32} {Ln k : Nat} {M : z_Mem} (hL : Ln ≤ 320) (hk : 5 * k + 5 ≤ Ln) (hJ : J k M) (kk : ∀ M2, J (k + 1) M2 → q_Sm xs Ln 994 [some (.ref 2000), some (.ref 0), some (.ref 59), some (.int (nI (5 * k)))] [] M2) : q_Sm xs Ln 925 [some (.ref 2000), some (.ref 0), some (.ref 59), some (.int (nI (5 * k)))] [] M := by
  obtain ⟨r, M1, M2, ⟨v, rfl⟩, c1, c2, j2⟩ := pr_keep (x := xs (5 * k + 1)) hJ (by omega)
  refine q_aload_n (pc := 925) dL_925 rfl ?_
  refine q_aload_n (pc := 926) dL_926 rfl ?_
  refine q_iload_n (pc := 927) dL_927 rfl ?_
  refine q_iconst (pc := 928) (v := 1) dL_928 (by decide) ?_
  refine q_iadd (pc := 929) dL_929 ?_
  refine q_sld (pc := 930) (5 * k + 1) ⟨nI_add _ 1, by omega⟩ hL dL_930 ?_
  refine q_cV1 (pc := 931) c1 q_cL_127 z_s0 rfl rfl dL_931 ?_
  refine q_aload_n (pc := 934) dL_934 rfl ?_
  refine q_aload_n (pc := 935) dL_935 rfl ?_
  refine q_iload_n (pc := 936) dL_936 rfl ?_
  refine q_iconst (pc := 937) (v := 1) dL_937 (by decide) ?_
  refine q_iadd (pc := 938) dL_938 ?_
  refine q_sld (pc := 939) (5 * k + 1) ⟨nI_add _ 1, by omega⟩ hL dL_939 ?_
  refine q_cV1 (pc := 940) c2 q_cL_130 z_s59 rfl rfl dL_940 ?_
  refine q_icmp_eq (pc := 943) (tgt := 994) dL_943 (by decide) (fun _ => ?_) (fun h => absurd rfl h)
  exact kk M2 j2
set_option maxRecDepth 100000 in
set_option maxHeartbeats 400000 in
theorem q_case27 {xs : Nat → Int32} {Ln k : Nat} {M : z_Mem} (hL : Ln ≤ 320) (hk : 5 * k + 5 ≤ Ln) (hJ : J k M) (kk : ∀ M2, J (k + 1) M2 → q_Sm xs Ln 994 [some (.ref 2000), some (.ref 0), some (.ref 59), some (.int (nI (5 * k)))] [] M2) : q_Sm xs Ln 948 [some (.ref 2000), some (.ref 0), some (.ref 59), some (.int (nI (5 * k)))] [] M := by
  obtain ⟨r, M1, M2, ⟨v, rfl⟩, c1, c2, j2⟩ := pr_again (x := xs (5 * k + 1)) hJ (by omega)
  refine q_aload_n (pc := 948) dL_948 rfl ?_
  refine q_aload_n (pc := 949) dL_949 rfl ?_
  refine q_iload_n (pc := 950) dL_950 rfl ?_
  refine q_iconst (pc := 951) (v := 1) dL_951 (by decide) ?_
  refine q_iadd (pc := 952) dL_952 ?_
  refine q_sld (pc := 953) (5 * k + 1) ⟨nI_add _ 1, by omega⟩ hL dL_953 ?_
  refine q_cV1 (pc := 954) c1 q_cL_131 z_s0 rfl rfl dL_954 ?_
  refine q_aload_n (pc := 957) dL_957 rfl ?_
  refine q_aload_n (pc := 958) dL_958 rfl ?_
  refine q_iload_n (pc := 959) dL_959 rfl ?_
  refine q_iconst (pc := 960) (v := 1) dL_960 (by decide) ?_
  refine q_iadd (pc := 961) dL_961 ?_
  refine q_sld (pc := 962) (5 * k + 1) ⟨nI_add _ 1, by omega⟩ hL dL_962 ?_
  refine q_cV1 (pc := 963) c2 q_cL_134 z_s59 rfl rfl dL_963 ?_
  refine q_icmp_eq (pc := 966) (tgt := 994) dL_966 (by decide) (fun _ => ?_) (fun h => absurd rfl h)
  exact kk M2 j2
set_option maxRecDepth 100000 in
set_option maxHeartbeats 400000 in
theorem q_case28 {xs : Nat → Int32} {Ln k : Nat} {M : z_Mem} (hL : Ln ≤ 320) (hk : 5 * k + 5 ≤ Ln) (hJ : J k M) (kk : ∀ M2, J (k + 1) M2 → q_Sm xs Ln 994 [some (.ref 2000), some (.ref 0), some (.ref 59), some (.int (nI (5 * k)))] [] M2) : q_Sm xs Ln 971 [some (.ref 2000), some (.ref 0), some (.ref 59), some (.int (nI (5 * k)))] [] M := by
  obtain ⟨r, M1, M2, ⟨v, rfl⟩, c1, c2, j2⟩ := pr_count (x := xs (5 * k + 1)) hJ (by omega)
  refine q_aload_n (pc := 971) dL_971 rfl ?_
  refine q_aload_n (pc := 972) dL_972 rfl ?_
  refine q_iload_n (pc := 973) dL_973 rfl ?_
  refine q_iconst (pc := 974) (v := 1) dL_974 (by decide) ?_
  refine q_iadd (pc := 975) dL_975 ?_
  refine q_sld (pc := 976) (5 * k + 1) ⟨nI_add _ 1, by omega⟩ hL dL_976 ?_
  refine q_cV1 (pc := 977) c1 q_cL_135 z_s0 rfl rfl dL_977 ?_
  refine q_aload_n (pc := 980) dL_980 rfl ?_
  refine q_aload_n (pc := 981) dL_981 rfl ?_
  refine q_iload_n (pc := 982) dL_982 rfl ?_
  refine q_iconst (pc := 983) (v := 1) dL_983 (by decide) ?_
  refine q_iadd (pc := 984) dL_984 ?_
  refine q_sld (pc := 985) (5 * k + 1) ⟨nI_add _ 1, by omega⟩ hL dL_985 ?_
  refine q_cV1 (pc := 986) c2 q_cL_138 z_s59 rfl rfl dL_986 ?_
  refine q_icmp_eq (pc := 989) (tgt := 994) dL_989 (by decide) (fun _ => ?_) (fun h => absurd rfl h)
  exact kk M2 j2

/-! the law's cases -/
def lwL (i : Int32) : List Value := [.ref 74, .ref 0, .ref 46, .ref 61, .int i, .null, .null]
def lwH (G : mx_G) (i : Int32) : Prop := vp_in (i + 1) (mx_sN G) ∧ vp_in (i + 2) (mx_sN G) ∧ vp_in (i + 3) (mx_sN G) ∧ vp_in (i + 4) (mx_sN G) ∧ vp_in (i + 5) (mx_sN G) ∧ vp_in (i + 6) (mx_sN G) ∧ vp_in (i + 7) (mx_sN G)
section LWC
variable {G : mx_G} {X : mx_X} {n : Nat} {M : mx_Mem} {i : Int32}
set_option maxRecDepth 100000 in
set_option maxHeartbeats 2000000 in
theorem lw_c0 (hX : mx_OK G X RL cL_law 7) (hR : mx_RM X 10 374) (hi : lwH G i) (hn : n ≤ 1000) (h : RR n M M) (kk : ∀ M2, RR (n + 1) M2 M2 → mx_WW G X 1109 (lwL i) [] M2) : mx_WW G X 160 (lwL i) [] M := by
  obtain ⟨h1, h2, h3, h4, h5, h6, h7⟩ := hi
  obtain ⟨v, QC, hC, hD⟩ := P_skill (l := mx_l X) (G := G) (mx_sX G (i + 1).toNatClampNeg) (mx_sX G (i + 2).toNatClampNeg) (mx_sX G (i + 3).toNatClampNeg) (mx_sX G (i + 4).toNatClampNeg) h
  refine r_aload_n 161 hX dL_law_160 rfl ?_
  refine r_aload_n 162 hX dL_law_161 rfl ?_
  refine r_iload 164 hX dL_law_162 rfl ?_
  refine r_iconst 165 hX dL_law_164 rfl ?_
  refine r_iadd 166 hX dL_law_165 ?_
  refine r_sald 167 hX dL_law_166 h1 ?_
  refine r_aload_n 168 hX dL_law_167 rfl ?_
  refine r_iload 170 hX dL_law_168 rfl ?_
  refine r_iconst 171 hX dL_law_170 rfl ?_
  refine r_iadd 172 hX dL_law_171 ?_
  refine r_sald 173 hX dL_law_172 h2 ?_
  refine r_aload_n 174 hX dL_law_173 rfl ?_
  refine r_iload 176 hX dL_law_174 rfl ?_
  refine r_iconst 177 hX dL_law_176 rfl ?_
  refine r_iadd 178 hX dL_law_177 ?_
  refine r_sald 179 hX dL_law_178 h3 ?_
  refine r_aload_n 180 hX dL_law_179 rfl ?_
  refine r_iload 182 hX dL_law_180 rfl ?_
  refine r_iconst 183 hX dL_law_182 rfl ?_
  refine r_iadd 184 hX dL_law_183 ?_
  refine r_sald 185 hX dL_law_184 h4 ?_
  refine r_callV (As := [.int (mx_sX G (i + 1).toNatClampNeg), .int (mx_sX G (i + 2).toNatClampNeg), .int (mx_sX G (i + 3).toNatClampNeg), .int (mx_sX G (i + 4).toNatClampNeg)]) (b := 0) (S := []) 188 hX hR hC dL_law_185 kX7_skill lL_19 rfl rfl rfl rfl rfl rfl rfl (fun r M1 hp => ?_)
  obtain ⟨rfl, hp⟩ := hp
  refine r_aload_n 189 hX dL_law_188 rfl ?_
  refine r_aload_n 190 hX dL_law_189 rfl ?_
  refine r_iload 192 hX dL_law_190 rfl ?_
  refine r_iconst 193 hX dL_law_192 rfl ?_
  refine r_iadd 194 hX dL_law_193 ?_
  refine r_sald 195 hX dL_law_194 h1 ?_
  refine r_aload_n 196 hX dL_law_195 rfl ?_
  refine r_iload 198 hX dL_law_196 rfl ?_
  refine r_iconst 199 hX dL_law_198 rfl ?_
  refine r_iadd 200 hX dL_law_199 ?_
  refine r_sald 201 hX dL_law_200 h2 ?_
  refine r_aload_n 202 hX dL_law_201 rfl ?_
  refine r_iload 204 hX dL_law_202 rfl ?_
  refine r_iconst 205 hX dL_law_204 rfl ?_
  refine r_iadd 206 hX dL_law_205 ?_
  refine r_sald 207 hX dL_law_206 h3 ?_
  refine r_aload_n 208 hX dL_law_207 rfl ?_
  refine r_iload 210 hX dL_law_208 rfl ?_
  refine r_iconst 211 hX dL_law_210 rfl ?_
  refine r_iadd 212 hX dL_law_211 ?_
  refine r_sald 213 hX dL_law_212 h4 ?_
  refine r_callV (As := [.int (mx_sX G (i + 1).toNatClampNeg), .int (mx_sX G (i + 2).toNatClampNeg), .int (mx_sX G (i + 3).toNatClampNeg), .int (mx_sX G (i + 4).toNatClampNeg)]) (b := 46) (S := [.int v]) 216 hX hR (hD M1 hp) dL_law_213 kX8_skill lL_23 rfl rfl rfl rfl rfl rfl rfl (fun r M2 hp2 => ?_)
  obtain ⟨rfl, hp2⟩ := hp2
  exact r_icmp_eq 219 1109 hX dL_law_216 (fun _ => kk M2 hp2) (fun c => absurd rfl c)
set_option maxRecDepth 100000 in
set_option maxHeartbeats 2000000 in
theorem lw_c1 (hX : mx_OK G X RL cL_law 7) (hR : mx_RM X 10 374) (hi : lwH G i) (hn : n ≤ 1000) (h : RR n M M) (kk : ∀ M2, RR (n + 1) M2 M2 → mx_WW G X 1109 (lwL i) [] M2) : mx_WW G X 221 (lwL i) [] M := by
  obtain ⟨h1, h2, h3, h4, h5, h6, h7⟩ := hi
  obtain ⟨v, QC, hC, hD⟩ := P_libre (l := mx_l X) (G := G) (mx_sX G (i + 1).toNatClampNeg) (mx_sX G (i + 2).toNatClampNeg) h
  refine r_aload_n 222 hX dL_law_221 rfl ?_
  refine r_aload_n 223 hX dL_law_222 rfl ?_
  refine r_iload 225 hX dL_law_223 rfl ?_
  refine r_iconst 226 hX dL_law_225 rfl ?_
  refine r_iadd 227 hX dL_law_226 ?_
  refine r_sald 228 hX dL_law_227 h1 ?_
  refine r_aload_n 229 hX dL_law_228 rfl ?_
  refine r_iload 231 hX dL_law_229 rfl ?_
  refine r_iconst 232 hX dL_law_231 rfl ?_
  refine r_iadd 233 hX dL_law_232 ?_
  refine r_sald 234 hX dL_law_233 h2 ?_
  refine r_callV (As := [.int (mx_sX G (i + 1).toNatClampNeg), .int (mx_sX G (i + 2).toNatClampNeg)]) (b := 0) (S := []) 237 hX hR hC dL_law_234 kX7_libre lL_24 rfl rfl rfl rfl rfl rfl rfl (fun r M1 hp => ?_)
  obtain ⟨rfl, hp⟩ := hp
  refine r_aload_n 238 hX dL_law_237 rfl ?_
  refine r_aload_n 239 hX dL_law_238 rfl ?_
  refine r_iload 241 hX dL_law_239 rfl ?_
  refine r_iconst 242 hX dL_law_241 rfl ?_
  refine r_iadd 243 hX dL_law_242 ?_
  refine r_sald 244 hX dL_law_243 h1 ?_
  refine r_aload_n 245 hX dL_law_244 rfl ?_
  refine r_iload 247 hX dL_law_245 rfl ?_
  refine r_iconst 248 hX dL_law_247 rfl ?_
  refine r_iadd 249 hX dL_law_248 ?_
  refine r_sald 250 hX dL_law_249 h2 ?_
  refine r_callV (As := [.int (mx_sX G (i + 1).toNatClampNeg), .int (mx_sX G (i + 2).toNatClampNeg)]) (b := 46) (S := [.int v]) 253 hX hR (hD M1 hp) dL_law_250 kX8_libre lL_28 rfl rfl rfl rfl rfl rfl rfl (fun r M2 hp2 => ?_)
  obtain ⟨rfl, hp2⟩ := hp2
  exact r_icmp_eq 256 1109 hX dL_law_253 (fun _ => kk M2 hp2) (fun c => absurd rfl c)
set_option maxRecDepth 100000 in
set_option maxHeartbeats 2000000 in
theorem lw_c2 (hX : mx_OK G X RL cL_law 7) (hR : mx_RM X 10 374) (hi : lwH G i) (hn : n ≤ 1000) (h : RR n M M) (kk : ∀ M2, RR (n + 1) M2 M2 → mx_WW G X 1109 (lwL i) [] M2) : mx_WW G X 258 (lwL i) [] M := by
  obtain ⟨h1, h2, h3, h4, h5, h6, h7⟩ := hi
  obtain ⟨v, QC, hC, hD⟩ := P_set (l := mx_l X) (G := G) (mx_sX G (i + 1).toNatClampNeg) (mx_sX G (i + 2).toNatClampNeg) hn h
  refine r_aload_n 259 hX dL_law_258 rfl ?_
  refine r_aload_n 260 hX dL_law_259 rfl ?_
  refine r_iload 262 hX dL_law_260 rfl ?_
  refine r_iconst 263 hX dL_law_262 rfl ?_
  refine r_iadd 264 hX dL_law_263 ?_
  refine r_sald 265 hX dL_law_264 h1 ?_
  refine r_aload_n 266 hX dL_law_265 rfl ?_
  refine r_iload 268 hX dL_law_266 rfl ?_
  refine r_iconst 269 hX dL_law_268 rfl ?_
  refine r_iadd 270 hX dL_law_269 ?_
  refine r_sald 271 hX dL_law_270 h2 ?_
  refine r_callV (As := [.int (mx_sX G (i + 1).toNatClampNeg), .int (mx_sX G (i + 2).toNatClampNeg)]) (b := 0) (S := []) 274 hX hR hC dL_law_271 kX7_set lL_29 rfl rfl rfl rfl rfl rfl rfl (fun r M1 hp => ?_)
  obtain ⟨rfl, hp⟩ := hp
  refine r_aload_n 275 hX dL_law_274 rfl ?_
  refine r_aload_n 276 hX dL_law_275 rfl ?_
  refine r_iload 278 hX dL_law_276 rfl ?_
  refine r_iconst 279 hX dL_law_278 rfl ?_
  refine r_iadd 280 hX dL_law_279 ?_
  refine r_sald 281 hX dL_law_280 h1 ?_
  refine r_aload_n 282 hX dL_law_281 rfl ?_
  refine r_iload 284 hX dL_law_282 rfl ?_
  refine r_iconst 285 hX dL_law_284 rfl ?_
  refine r_iadd 286 hX dL_law_285 ?_
  refine r_sald 287 hX dL_law_286 h2 ?_
  refine r_callV (As := [.int (mx_sX G (i + 1).toNatClampNeg), .int (mx_sX G (i + 2).toNatClampNeg)]) (b := 46) (S := [.int v]) 290 hX hR (hD M1 hp) dL_law_287 kX8_set lL_32 rfl rfl rfl rfl rfl rfl rfl (fun r M2 hp2 => ?_)
  obtain ⟨rfl, hp2⟩ := hp2
  exact r_icmp_eq 293 1109 hX dL_law_290 (fun _ => kk M2 hp2) (fun c => absurd rfl c)
set_option maxRecDepth 100000 in
set_option maxHeartbeats 2000000 in
theorem lw_c3 (hX : mx_OK G X RL cL_law 7) (hR : mx_RM X 10 374) (hi : lwH G i) (hn : n ≤ 1000) (h : RR n M M) (kk : ∀ M2, RR (n + 1) M2 M2 → mx_WW G X 1109 (lwL i) [] M2) : mx_WW G X 295 (lwL i) [] M := by
  obtain ⟨h1, h2, h3, h4, h5, h6, h7⟩ := hi
  obtain ⟨v, QC, hC, hD⟩ := P_lineUp (l := mx_l X) (G := G) (mx_sX G (i + 1).toNatClampNeg) (mx_sX G (i + 2).toNatClampNeg) (mx_sX G (i + 3).toNatClampNeg) (mx_sX G (i + 4).toNatClampNeg) (mx_sX G (i + 5).toNatClampNeg) (mx_sX G (i + 6).toNatClampNeg) (mx_sX G (i + 7).toNatClampNeg) h
  refine r_aload_n 296 hX dL_law_295 rfl ?_
  refine r_aload_n 297 hX dL_law_296 rfl ?_
  refine r_iload 299 hX dL_law_297 rfl ?_
  refine r_iconst 300 hX dL_law_299 rfl ?_
  refine r_iadd 301 hX dL_law_300 ?_
  refine r_sald 302 hX dL_law_301 h1 ?_
  refine r_aload_n 303 hX dL_law_302 rfl ?_
  refine r_iload 305 hX dL_law_303 rfl ?_
  refine r_iconst 306 hX dL_law_305 rfl ?_
  refine r_iadd 307 hX dL_law_306 ?_
  refine r_sald 308 hX dL_law_307 h2 ?_
  refine r_aload_n 309 hX dL_law_308 rfl ?_
  refine r_iload 311 hX dL_law_309 rfl ?_
  refine r_iconst 312 hX dL_law_311 rfl ?_
  refine r_iadd 313 hX dL_law_312 ?_
  refine r_sald 314 hX dL_law_313 h3 ?_
  refine r_aload_n 315 hX dL_law_314 rfl ?_
  refine r_iload 317 hX dL_law_315 rfl ?_
  refine r_iconst 318 hX dL_law_317 rfl ?_
  refine r_iadd 319 hX dL_law_318 ?_
  refine r_sald 320 hX dL_law_319 h4 ?_
  refine r_aload_n 321 hX dL_law_320 rfl ?_
  refine r_iload 323 hX dL_law_321 rfl ?_
  refine r_iconst 324 hX dL_law_323 rfl ?_
  refine r_iadd 325 hX dL_law_324 ?_
  refine r_sald 326 hX dL_law_325 h5 ?_
  refine r_aload_n 327 hX dL_law_326 rfl ?_
  refine r_iload 329 hX dL_law_327 rfl ?_
  refine r_bipush 331 hX dL_law_329 rfl ?_
  refine r_iadd 332 hX dL_law_331 ?_
  refine r_sald 333 hX dL_law_332 h6 ?_
  refine r_aload_n 334 hX dL_law_333 rfl ?_
  refine r_iload 336 hX dL_law_334 rfl ?_
  refine r_bipush 338 hX dL_law_336 rfl ?_
  refine r_iadd 339 hX dL_law_338 ?_
  refine r_sald 340 hX dL_law_339 h7 ?_
  refine r_callV (As := [.int (mx_sX G (i + 1).toNatClampNeg), .int (mx_sX G (i + 2).toNatClampNeg), .int (mx_sX G (i + 3).toNatClampNeg), .int (mx_sX G (i + 4).toNatClampNeg), .int (mx_sX G (i + 5).toNatClampNeg), .int (mx_sX G (i + 6).toNatClampNeg), .int (mx_sX G (i + 7).toNatClampNeg)]) (b := 0) (S := []) 343 hX hR hC dL_law_340 kX7_lineUp lL_33 rfl rfl rfl rfl rfl rfl rfl (fun r M1 hp => ?_)
  obtain ⟨rfl, hp⟩ := hp
  refine r_aload_n 344 hX dL_law_343 rfl ?_
  refine r_aload_n 345 hX dL_law_344 rfl ?_
  refine r_iload 347 hX dL_law_345 rfl ?_
  refine r_iconst 348 hX dL_law_347 rfl ?_
  refine r_iadd 349 hX dL_law_348 ?_
  refine r_sald 350 hX dL_law_349 h1 ?_
  refine r_aload_n 351 hX dL_law_350 rfl ?_
  refine r_iload 353 hX dL_law_351 rfl ?_
  refine r_iconst 354 hX dL_law_353 rfl ?_
  refine r_iadd 355 hX dL_law_354 ?_
  refine r_sald 356 hX dL_law_355 h2 ?_
  refine r_aload_n 357 hX dL_law_356 rfl ?_
  refine r_iload 359 hX dL_law_357 rfl ?_
  refine r_iconst 360 hX dL_law_359 rfl ?_
  refine r_iadd 361 hX dL_law_360 ?_
  refine r_sald 362 hX dL_law_361 h3 ?_
  refine r_aload_n 363 hX dL_law_362 rfl ?_
  refine r_iload 365 hX dL_law_363 rfl ?_
  refine r_iconst 366 hX dL_law_365 rfl ?_
  refine r_iadd 367 hX dL_law_366 ?_
  refine r_sald 368 hX dL_law_367 h4 ?_
  refine r_aload_n 369 hX dL_law_368 rfl ?_
  refine r_iload 371 hX dL_law_369 rfl ?_
  refine r_iconst 372 hX dL_law_371 rfl ?_
  refine r_iadd 373 hX dL_law_372 ?_
  refine r_sald 374 hX dL_law_373 h5 ?_
  refine r_aload_n 375 hX dL_law_374 rfl ?_
  refine r_iload 377 hX dL_law_375 rfl ?_
  refine r_bipush 379 hX dL_law_377 rfl ?_
  refine r_iadd 380 hX dL_law_379 ?_
  refine r_sald 381 hX dL_law_380 h6 ?_
  refine r_aload_n 382 hX dL_law_381 rfl ?_
  refine r_iload 384 hX dL_law_382 rfl ?_
  refine r_bipush 386 hX dL_law_384 rfl ?_
  refine r_iadd 387 hX dL_law_386 ?_
  refine r_sald 388 hX dL_law_387 h7 ?_
  refine r_callV (As := [.int (mx_sX G (i + 1).toNatClampNeg), .int (mx_sX G (i + 2).toNatClampNeg), .int (mx_sX G (i + 3).toNatClampNeg), .int (mx_sX G (i + 4).toNatClampNeg), .int (mx_sX G (i + 5).toNatClampNeg), .int (mx_sX G (i + 6).toNatClampNeg), .int (mx_sX G (i + 7).toNatClampNeg)]) (b := 46) (S := [.int v]) 391 hX hR (hD M1 hp) dL_law_388 kX8_lineUp lL_37 rfl rfl rfl rfl rfl rfl rfl (fun r M2 hp2 => ?_)
  obtain ⟨rfl, hp2⟩ := hp2
  exact r_icmp_eq 394 1109 hX dL_law_391 (fun _ => kk M2 hp2) (fun c => absurd rfl c)
set_option maxRecDepth 100000 in
set_option maxHeartbeats 2000000 in
theorem lw_c4 (hX : mx_OK G X RL cL_law 7) (hR : mx_RM X 10 374) (hi : lwH G i) (hn : n ≤ 1000) (h : RR n M M) (kk : ∀ M2, RR (n + 1) M2 M2 → mx_WW G X 1109 (lwL i) [] M2) : mx_WW G X 396 (lwL i) [] M := by
  obtain ⟨h1, h2, h3, h4, h5, h6, h7⟩ := hi
  obtain ⟨v, QC, hC, hD⟩ := P_begin (l := mx_l X) (G := G) (mx_sX G (i + 1).toNatClampNeg) h
  refine r_aload_n 397 hX dL_law_396 rfl ?_
  refine r_aload_n 398 hX dL_law_397 rfl ?_
  refine r_iload 400 hX dL_law_398 rfl ?_
  refine r_iconst 401 hX dL_law_400 rfl ?_
  refine r_iadd 402 hX dL_law_401 ?_
  refine r_sald 403 hX dL_law_402 h1 ?_
  refine r_callV (As := [.int (mx_sX G (i + 1).toNatClampNeg)]) (b := 0) (S := []) 406 hX hR hC dL_law_403 kX7_begin lL_38 rfl rfl rfl rfl rfl rfl rfl (fun r M1 hp => ?_)
  obtain ⟨rfl, hp⟩ := hp
  refine r_aload_n 407 hX dL_law_406 rfl ?_
  refine r_aload_n 408 hX dL_law_407 rfl ?_
  refine r_iload 410 hX dL_law_408 rfl ?_
  refine r_iconst 411 hX dL_law_410 rfl ?_
  refine r_iadd 412 hX dL_law_411 ?_
  refine r_sald 413 hX dL_law_412 h1 ?_
  refine r_callV (As := [.int (mx_sX G (i + 1).toNatClampNeg)]) (b := 46) (S := [.int v]) 416 hX hR (hD M1 hp) dL_law_413 kX8_begin lL_41 rfl rfl rfl rfl rfl rfl rfl (fun r M2 hp2 => ?_)
  obtain ⟨rfl, hp2⟩ := hp2
  exact r_icmp_eq 419 1109 hX dL_law_416 (fun _ => kk M2 hp2) (fun c => absurd rfl c)
set_option maxRecDepth 100000 in
set_option maxHeartbeats 2000000 in
theorem lw_c5 (hX : mx_OK G X RL cL_law 7) (hR : mx_RM X 10 374) (hi : lwH G i) (hn : n ≤ 1000) (h : RR n M M) (kk : ∀ M2, RR (n + 1) M2 M2 → mx_WW G X 1109 (lwL i) [] M2) : mx_WW G X 421 (lwL i) [] M := by
  obtain ⟨h1, h2, h3, h4, h5, h6, h7⟩ := hi
  obtain ⟨v, QC, hC, hD⟩ := P_rally (l := mx_l X) (G := G) (mx_sX G (i + 1).toNatClampNeg) hn h
  refine r_aload_n 422 hX dL_law_421 rfl ?_
  refine r_aload_n 423 hX dL_law_422 rfl ?_
  refine r_iload 425 hX dL_law_423 rfl ?_
  refine r_iconst 426 hX dL_law_425 rfl ?_
  refine r_iadd 427 hX dL_law_426 ?_
  refine r_sald 428 hX dL_law_427 h1 ?_
  refine r_callV (As := [.int (mx_sX G (i + 1).toNatClampNeg)]) (b := 0) (S := []) 431 hX hR hC dL_law_428 kX7_rally lL_42 rfl rfl rfl rfl rfl rfl rfl (fun r M1 hp => ?_)
  obtain ⟨rfl, hp⟩ := hp
  refine r_aload_n 432 hX dL_law_431 rfl ?_
  refine r_aload_n 433 hX dL_law_432 rfl ?_
  refine r_iload 435 hX dL_law_433 rfl ?_
  refine r_iconst 436 hX dL_law_435 rfl ?_
  refine r_iadd 437 hX dL_law_436 ?_
  refine r_sald 438 hX dL_law_437 h1 ?_
  refine r_callV (As := [.int (mx_sX G (i + 1).toNatClampNeg)]) (b := 46) (S := [.int v]) 441 hX hR (hD M1 hp) dL_law_438 kX8_rally lL_45 rfl rfl rfl rfl rfl rfl rfl (fun r M2 hp2 => ?_)
  obtain ⟨rfl, hp2⟩ := hp2
  exact r_icmp_eq 444 1109 hX dL_law_441 (fun _ => kk M2 hp2) (fun c => absurd rfl c)
set_option maxRecDepth 100000 in
set_option maxHeartbeats 2000000 in
theorem lw_c6 (hX : mx_OK G X RL cL_law 7) (hR : mx_RM X 10 374) (hi : lwH G i) (hn : n ≤ 1000) (h : RR n M M) (kk : ∀ M2, RR (n + 1) M2 M2 → mx_WW G X 1109 (lwL i) [] M2) : mx_WW G X 446 (lwL i) [] M := by
  obtain ⟨h1, h2, h3, h4, h5, h6, h7⟩ := hi
  obtain ⟨v, QC, hC, hD⟩ := P_may (l := mx_l X) (G := G) (mx_sX G (i + 1).toNatClampNeg) (mx_sX G (i + 2).toNatClampNeg) (mx_sX G (i + 3).toNatClampNeg) hn h
  refine r_aload_n 447 hX dL_law_446 rfl ?_
  refine r_aload_n 448 hX dL_law_447 rfl ?_
  refine r_iload 450 hX dL_law_448 rfl ?_
  refine r_iconst 451 hX dL_law_450 rfl ?_
  refine r_iadd 452 hX dL_law_451 ?_
  refine r_sald 453 hX dL_law_452 h1 ?_
  refine r_aload_n 454 hX dL_law_453 rfl ?_
  refine r_iload 456 hX dL_law_454 rfl ?_
  refine r_iconst 457 hX dL_law_456 rfl ?_
  refine r_iadd 458 hX dL_law_457 ?_
  refine r_sald 459 hX dL_law_458 h2 ?_
  refine r_aload_n 460 hX dL_law_459 rfl ?_
  refine r_iload 462 hX dL_law_460 rfl ?_
  refine r_iconst 463 hX dL_law_462 rfl ?_
  refine r_iadd 464 hX dL_law_463 ?_
  refine r_sald 465 hX dL_law_464 h3 ?_
  refine r_callV (As := [.int (mx_sX G (i + 1).toNatClampNeg), .int (mx_sX G (i + 2).toNatClampNeg), .int (mx_sX G (i + 3).toNatClampNeg)]) (b := 0) (S := []) 468 hX hR hC dL_law_465 kX7_may lL_46 rfl rfl rfl rfl rfl rfl rfl (fun r M1 hp => ?_)
  obtain ⟨rfl, hp⟩ := hp
  refine r_aload_n 469 hX dL_law_468 rfl ?_
  refine r_aload_n 470 hX dL_law_469 rfl ?_
  refine r_iload 472 hX dL_law_470 rfl ?_
  refine r_iconst 473 hX dL_law_472 rfl ?_
  refine r_iadd 474 hX dL_law_473 ?_
  refine r_sald 475 hX dL_law_474 h1 ?_
  refine r_aload_n 476 hX dL_law_475 rfl ?_
  refine r_iload 478 hX dL_law_476 rfl ?_
  refine r_iconst 479 hX dL_law_478 rfl ?_
  refine r_iadd 480 hX dL_law_479 ?_
  refine r_sald 481 hX dL_law_480 h2 ?_
  refine r_aload_n 482 hX dL_law_481 rfl ?_
  refine r_iload 484 hX dL_law_482 rfl ?_
  refine r_iconst 485 hX dL_law_484 rfl ?_
  refine r_iadd 486 hX dL_law_485 ?_
  refine r_sald 487 hX dL_law_486 h3 ?_
  refine r_callV (As := [.int (mx_sX G (i + 1).toNatClampNeg), .int (mx_sX G (i + 2).toNatClampNeg), .int (mx_sX G (i + 3).toNatClampNeg)]) (b := 46) (S := [.int v]) 490 hX hR (hD M1 hp) dL_law_487 kX8_may lL_50 rfl rfl rfl rfl rfl rfl rfl (fun r M2 hp2 => ?_)
  obtain ⟨rfl, hp2⟩ := hp2
  exact r_icmp_eq 493 1109 hX dL_law_490 (fun _ => kk M2 hp2) (fun c => absurd rfl c)
set_option maxRecDepth 100000 in
set_option maxHeartbeats 2000000 in
theorem lw_c7 (hX : mx_OK G X RL cL_law 7) (hR : mx_RM X 10 374) (hi : lwH G i) (hn : n ≤ 1000) (h : RR n M M) (kk : ∀ M2, RR (n + 1) M2 M2 → mx_WW G X 1109 (lwL i) [] M2) : mx_WW G X 495 (lwL i) [] M := by
  obtain ⟨h1, h2, h3, h4, h5, h6, h7⟩ := hi
  obtain ⟨v, QC, hC, hD⟩ := P_change (l := mx_l X) (G := G) (mx_sX G (i + 1).toNatClampNeg) (mx_sX G (i + 2).toNatClampNeg) (mx_sX G (i + 3).toNatClampNeg) hn h
  refine r_aload_n 496 hX dL_law_495 rfl ?_
  refine r_aload_n 497 hX dL_law_496 rfl ?_
  refine r_iload 499 hX dL_law_497 rfl ?_
  refine r_iconst 500 hX dL_law_499 rfl ?_
  refine r_iadd 501 hX dL_law_500 ?_
  refine r_sald 502 hX dL_law_501 h1 ?_
  refine r_aload_n 503 hX dL_law_502 rfl ?_
  refine r_iload 505 hX dL_law_503 rfl ?_
  refine r_iconst 506 hX dL_law_505 rfl ?_
  refine r_iadd 507 hX dL_law_506 ?_
  refine r_sald 508 hX dL_law_507 h2 ?_
  refine r_aload_n 509 hX dL_law_508 rfl ?_
  refine r_iload 511 hX dL_law_509 rfl ?_
  refine r_iconst 512 hX dL_law_511 rfl ?_
  refine r_iadd 513 hX dL_law_512 ?_
  refine r_sald 514 hX dL_law_513 h3 ?_
  refine r_callV (As := [.int (mx_sX G (i + 1).toNatClampNeg), .int (mx_sX G (i + 2).toNatClampNeg), .int (mx_sX G (i + 3).toNatClampNeg)]) (b := 0) (S := []) 517 hX hR hC dL_law_514 kX7_change lL_51 rfl rfl rfl rfl rfl rfl rfl (fun r M1 hp => ?_)
  obtain ⟨rfl, hp⟩ := hp
  refine r_aload_n 518 hX dL_law_517 rfl ?_
  refine r_aload_n 519 hX dL_law_518 rfl ?_
  refine r_iload 521 hX dL_law_519 rfl ?_
  refine r_iconst 522 hX dL_law_521 rfl ?_
  refine r_iadd 523 hX dL_law_522 ?_
  refine r_sald 524 hX dL_law_523 h1 ?_
  refine r_aload_n 525 hX dL_law_524 rfl ?_
  refine r_iload 527 hX dL_law_525 rfl ?_
  refine r_iconst 528 hX dL_law_527 rfl ?_
  refine r_iadd 529 hX dL_law_528 ?_
  refine r_sald 530 hX dL_law_529 h2 ?_
  refine r_aload_n 531 hX dL_law_530 rfl ?_
  refine r_iload 533 hX dL_law_531 rfl ?_
  refine r_iconst 534 hX dL_law_533 rfl ?_
  refine r_iadd 535 hX dL_law_534 ?_
  refine r_sald 536 hX dL_law_535 h3 ?_
  refine r_callV (As := [.int (mx_sX G (i + 1).toNatClampNeg), .int (mx_sX G (i + 2).toNatClampNeg), .int (mx_sX G (i + 3).toNatClampNeg)]) (b := 46) (S := [.int v]) 539 hX hR (hD M1 hp) dL_law_536 kX8_change lL_54 rfl rfl rfl rfl rfl rfl rfl (fun r M2 hp2 => ?_)
  obtain ⟨rfl, hp2⟩ := hp2
  exact r_icmp_eq 542 1109 hX dL_law_539 (fun _ => kk M2 hp2) (fun c => absurd rfl c)
set_option maxRecDepth 100000 in
set_option maxHeartbeats 2000000 in
theorem lw_c8 (hX : mx_OK G X RL cL_law 7) (hR : mx_RM X 10 374) (hi : lwH G i) (hn : n ≤ 1000) (h : RR n M M) (kk : ∀ M2, RR (n + 1) M2 M2 → mx_WW G X 1109 (lwL i) [] M2) : mx_WW G X 544 (lwL i) [] M := by
  obtain ⟨h1, h2, h3, h4, h5, h6, h7⟩ := hi
  obtain ⟨v, QC, hC, hD⟩ := P_free (l := mx_l X) (G := G) (mx_sX G (i + 1).toNatClampNeg) (mx_sX G (i + 2).toNatClampNeg) hn h
  refine r_aload_n 545 hX dL_law_544 rfl ?_
  refine r_aload_n 546 hX dL_law_545 rfl ?_
  refine r_iload 548 hX dL_law_546 rfl ?_
  refine r_iconst 549 hX dL_law_548 rfl ?_
  refine r_iadd 550 hX dL_law_549 ?_
  refine r_sald 551 hX dL_law_550 h1 ?_
  refine r_aload_n 552 hX dL_law_551 rfl ?_
  refine r_iload 554 hX dL_law_552 rfl ?_
  refine r_iconst 555 hX dL_law_554 rfl ?_
  refine r_iadd 556 hX dL_law_555 ?_
  refine r_sald 557 hX dL_law_556 h2 ?_
  refine r_callV (As := [.int (mx_sX G (i + 1).toNatClampNeg), .int (mx_sX G (i + 2).toNatClampNeg)]) (b := 0) (S := []) 560 hX hR hC dL_law_557 kX7_free lL_55 rfl rfl rfl rfl rfl rfl rfl (fun r M1 hp => ?_)
  obtain ⟨rfl, hp⟩ := hp
  refine r_aload_n 561 hX dL_law_560 rfl ?_
  refine r_aload_n 562 hX dL_law_561 rfl ?_
  refine r_iload 564 hX dL_law_562 rfl ?_
  refine r_iconst 565 hX dL_law_564 rfl ?_
  refine r_iadd 566 hX dL_law_565 ?_
  refine r_sald 567 hX dL_law_566 h1 ?_
  refine r_aload_n 568 hX dL_law_567 rfl ?_
  refine r_iload 570 hX dL_law_568 rfl ?_
  refine r_iconst 571 hX dL_law_570 rfl ?_
  refine r_iadd 572 hX dL_law_571 ?_
  refine r_sald 573 hX dL_law_572 h2 ?_
  refine r_callV (As := [.int (mx_sX G (i + 1).toNatClampNeg), .int (mx_sX G (i + 2).toNatClampNeg)]) (b := 46) (S := [.int v]) 576 hX hR (hD M1 hp) dL_law_573 kX8_free lL_58 rfl rfl rfl rfl rfl rfl rfl (fun r M2 hp2 => ?_)
  obtain ⟨rfl, hp2⟩ := hp2
  exact r_icmp_eq 579 1109 hX dL_law_576 (fun _ => kk M2 hp2) (fun c => absurd rfl c)
set_option maxRecDepth 100000 in
set_option maxHeartbeats 2000000 in
theorem lw_c9 (hX : mx_OK G X RL cL_law 7) (hR : mx_RM X 10 374) (hi : lwH G i) (hn : n ≤ 1000) (h : RR n M M) (kk : ∀ M2, RR (n + 1) M2 M2 → mx_WW G X 1109 (lwL i) [] M2) : mx_WW G X 581 (lwL i) [] M := by
  obtain ⟨h1, h2, h3, h4, h5, h6, h7⟩ := hi
  obtain ⟨v, QC, hC, hD⟩ := P_pause (l := mx_l X) (G := G) (mx_sX G (i + 1).toNatClampNeg) h
  refine r_aload_n 582 hX dL_law_581 rfl ?_
  refine r_aload_n 583 hX dL_law_582 rfl ?_
  refine r_iload 585 hX dL_law_583 rfl ?_
  refine r_iconst 586 hX dL_law_585 rfl ?_
  refine r_iadd 587 hX dL_law_586 ?_
  refine r_sald 588 hX dL_law_587 h1 ?_
  refine r_callV (As := [.int (mx_sX G (i + 1).toNatClampNeg)]) (b := 0) (S := []) 591 hX hR hC dL_law_588 kX7_pause lL_59 rfl rfl rfl rfl rfl rfl rfl (fun r M1 hp => ?_)
  obtain ⟨rfl, hp⟩ := hp
  refine r_aload_n 592 hX dL_law_591 rfl ?_
  refine r_aload_n 593 hX dL_law_592 rfl ?_
  refine r_iload 595 hX dL_law_593 rfl ?_
  refine r_iconst 596 hX dL_law_595 rfl ?_
  refine r_iadd 597 hX dL_law_596 ?_
  refine r_sald 598 hX dL_law_597 h1 ?_
  refine r_callV (As := [.int (mx_sX G (i + 1).toNatClampNeg)]) (b := 46) (S := [.int v]) 601 hX hR (hD M1 hp) dL_law_598 kX8_pause lL_62 rfl rfl rfl rfl rfl rfl rfl (fun r M2 hp2 => ?_)
  obtain ⟨rfl, hp2⟩ := hp2
  exact r_icmp_eq 604 1109 hX dL_law_601 (fun _ => kk M2 hp2) (fun c => absurd rfl c)
set_option maxRecDepth 100000 in
set_option maxHeartbeats 2000000 in
theorem lw_c10 (hX : mx_OK G X RL cL_law 7) (hR : mx_RM X 10 374) (hi : lwH G i) (hn : n ≤ 1000) (h : RR n M M) (kk : ∀ M2, RR (n + 1) M2 M2 → mx_WW G X 1109 (lwL i) [] M2) : mx_WW G X 606 (lwL i) [] M := by
  obtain ⟨h1, h2, h3, h4, h5, h6, h7⟩ := hi
  obtain ⟨v, QC, hC, hD⟩ := P_wrong (l := mx_l X) (G := G) (mx_sX G (i + 1).toNatClampNeg) hn h
  refine r_aload_n 607 hX dL_law_606 rfl ?_
  refine r_aload_n 608 hX dL_law_607 rfl ?_
  refine r_iload 610 hX dL_law_608 rfl ?_
  refine r_iconst 611 hX dL_law_610 rfl ?_
  refine r_iadd 612 hX dL_law_611 ?_
  refine r_sald 613 hX dL_law_612 h1 ?_
  refine r_callV (As := [.int (mx_sX G (i + 1).toNatClampNeg)]) (b := 0) (S := []) 616 hX hR hC dL_law_613 kX7_wrong lL_63 rfl rfl rfl rfl rfl rfl rfl (fun r M1 hp => ?_)
  obtain ⟨rfl, hp⟩ := hp
  refine r_aload_n 617 hX dL_law_616 rfl ?_
  refine r_aload_n 618 hX dL_law_617 rfl ?_
  refine r_iload 620 hX dL_law_618 rfl ?_
  refine r_iconst 621 hX dL_law_620 rfl ?_
  refine r_iadd 622 hX dL_law_621 ?_
  refine r_sald 623 hX dL_law_622 h1 ?_
  refine r_callV (As := [.int (mx_sX G (i + 1).toNatClampNeg)]) (b := 46) (S := [.int v]) 626 hX hR (hD M1 hp) dL_law_623 kX8_wrong lL_66 rfl rfl rfl rfl rfl rfl rfl (fun r M2 hp2 => ?_)
  obtain ⟨rfl, hp2⟩ := hp2
  exact r_icmp_eq 629 1109 hX dL_law_626 (fun _ => kk M2 hp2) (fun c => absurd rfl c)
set_option maxRecDepth 100000 in
set_option maxHeartbeats 2000000 in
theorem lw_c11 (hX : mx_OK G X RL cL_law 7) (hR : mx_RM X 10 374) (hi : lwH G i) (hn : n ≤ 1000) (h : RR n M M) (kk : ∀ M2, RR (n + 1) M2 M2 → mx_WW G X 1109 (lwL i) [] M2) : mx_WW G X 631 (lwL i) [] M := by
  obtain ⟨h1, h2, h3, h4, h5, h6, h7⟩ := hi
  obtain ⟨v, QC, hC, hD⟩ := P_at (l := mx_l X) (G := G) (mx_sX G (i + 1).toNatClampNeg) (mx_sX G (i + 2).toNatClampNeg) h
  refine r_aload_n 632 hX dL_law_631 rfl ?_
  refine r_aload_n 633 hX dL_law_632 rfl ?_
  refine r_iload 635 hX dL_law_633 rfl ?_
  refine r_iconst 636 hX dL_law_635 rfl ?_
  refine r_iadd 637 hX dL_law_636 ?_
  refine r_sald 638 hX dL_law_637 h1 ?_
  refine r_aload_n 639 hX dL_law_638 rfl ?_
  refine r_iload 641 hX dL_law_639 rfl ?_
  refine r_iconst 642 hX dL_law_641 rfl ?_
  refine r_iadd 643 hX dL_law_642 ?_
  refine r_sald 644 hX dL_law_643 h2 ?_
  refine r_callV (As := [.int (mx_sX G (i + 1).toNatClampNeg), .int (mx_sX G (i + 2).toNatClampNeg)]) (b := 0) (S := []) 647 hX hR hC dL_law_644 kX7_at lL_67 rfl rfl rfl rfl rfl rfl rfl (fun r M1 hp => ?_)
  obtain ⟨rfl, hp⟩ := hp
  refine r_aload_n 648 hX dL_law_647 rfl ?_
  refine r_aload_n 649 hX dL_law_648 rfl ?_
  refine r_iload 651 hX dL_law_649 rfl ?_
  refine r_iconst 652 hX dL_law_651 rfl ?_
  refine r_iadd 653 hX dL_law_652 ?_
  refine r_sald 654 hX dL_law_653 h1 ?_
  refine r_aload_n 655 hX dL_law_654 rfl ?_
  refine r_iload 657 hX dL_law_655 rfl ?_
  refine r_iconst 658 hX dL_law_657 rfl ?_
  refine r_iadd 659 hX dL_law_658 ?_
  refine r_sald 660 hX dL_law_659 h2 ?_
  refine r_callV (As := [.int (mx_sX G (i + 1).toNatClampNeg), .int (mx_sX G (i + 2).toNatClampNeg)]) (b := 46) (S := [.int v]) 663 hX hR (hD M1 hp) dL_law_660 kX8_at lL_70 rfl rfl rfl rfl rfl rfl rfl (fun r M2 hp2 => ?_)
  obtain ⟨rfl, hp2⟩ := hp2
  exact r_icmp_eq 666 1109 hX dL_law_663 (fun _ => kk M2 hp2) (fun c => absurd rfl c)
set_option maxRecDepth 100000 in
set_option maxHeartbeats 2000000 in
theorem lw_c12 (hX : mx_OK G X RL cL_law 7) (hR : mx_RM X 10 374) (hi : lwH G i) (hn : n ≤ 1000) (h : RR n M M) (kk : ∀ M2, RR (n + 1) M2 M2 → mx_WW G X 1109 (lwL i) [] M2) : mx_WW G X 668 (lwL i) [] M := by
  obtain ⟨h1, h2, h3, h4, h5, h6, h7⟩ := hi
  obtain ⟨v, QC, hC, hD⟩ := P_of (l := mx_l X) (G := G) (mx_sX G (i + 1).toNatClampNeg) (mx_sX G (i + 2).toNatClampNeg) h
  refine r_aload_n 669 hX dL_law_668 rfl ?_
  refine r_aload_n 670 hX dL_law_669 rfl ?_
  refine r_iload 672 hX dL_law_670 rfl ?_
  refine r_iconst 673 hX dL_law_672 rfl ?_
  refine r_iadd 674 hX dL_law_673 ?_
  refine r_sald 675 hX dL_law_674 h1 ?_
  refine r_aload_n 676 hX dL_law_675 rfl ?_
  refine r_iload 678 hX dL_law_676 rfl ?_
  refine r_iconst 679 hX dL_law_678 rfl ?_
  refine r_iadd 680 hX dL_law_679 ?_
  refine r_sald 681 hX dL_law_680 h2 ?_
  refine r_callV (As := [.int (mx_sX G (i + 1).toNatClampNeg), .int (mx_sX G (i + 2).toNatClampNeg)]) (b := 0) (S := []) 684 hX hR hC dL_law_681 kX7_of lL_71 rfl rfl rfl rfl rfl rfl rfl (fun r M1 hp => ?_)
  obtain ⟨rfl, hp⟩ := hp
  refine r_aload_n 685 hX dL_law_684 rfl ?_
  refine r_aload_n 686 hX dL_law_685 rfl ?_
  refine r_iload 688 hX dL_law_686 rfl ?_
  refine r_iconst 689 hX dL_law_688 rfl ?_
  refine r_iadd 690 hX dL_law_689 ?_
  refine r_sald 691 hX dL_law_690 h1 ?_
  refine r_aload_n 692 hX dL_law_691 rfl ?_
  refine r_iload 694 hX dL_law_692 rfl ?_
  refine r_iconst 695 hX dL_law_694 rfl ?_
  refine r_iadd 696 hX dL_law_695 ?_
  refine r_sald 697 hX dL_law_696 h2 ?_
  refine r_callV (As := [.int (mx_sX G (i + 1).toNatClampNeg), .int (mx_sX G (i + 2).toNatClampNeg)]) (b := 46) (S := [.int v]) 700 hX hR (hD M1 hp) dL_law_697 kX8_of lL_74 rfl rfl rfl rfl rfl rfl rfl (fun r M2 hp2 => ?_)
  obtain ⟨rfl, hp2⟩ := hp2
  exact r_icmp_eq 703 1109 hX dL_law_700 (fun _ => kk M2 hp2) (fun c => absurd rfl c)
set_option maxRecDepth 100000 in
set_option maxHeartbeats 2000000 in
theorem lw_c13 (hX : mx_OK G X RL cL_law 7) (hR : mx_RM X 10 374) (hi : lwH G i) (hn : n ≤ 1000) (h : RR n M M) (kk : ∀ M2, RR (n + 1) M2 M2 → mx_WW G X 1109 (lwL i) [] M2) : mx_WW G X 705 (lwL i) [] M := by
  obtain ⟨h1, h2, h3, h4, h5, h6, h7⟩ := hi
  obtain ⟨v, QC, hC, hD⟩ := P_count (l := mx_l X) (G := G) (mx_sX G (i + 1).toNatClampNeg) h
  refine r_aload_n 706 hX dL_law_705 rfl ?_
  refine r_aload_n 707 hX dL_law_706 rfl ?_
  refine r_iload 709 hX dL_law_707 rfl ?_
  refine r_iconst 710 hX dL_law_709 rfl ?_
  refine r_iadd 711 hX dL_law_710 ?_
  refine r_sald 712 hX dL_law_711 h1 ?_
  refine r_callV (As := [.int (mx_sX G (i + 1).toNatClampNeg)]) (b := 0) (S := []) 715 hX hR hC dL_law_712 kX7_count lL_75 rfl rfl rfl rfl rfl rfl rfl (fun r M1 hp => ?_)
  obtain ⟨rfl, hp⟩ := hp
  refine r_aload_n 716 hX dL_law_715 rfl ?_
  refine r_aload_n 717 hX dL_law_716 rfl ?_
  refine r_iload 719 hX dL_law_717 rfl ?_
  refine r_iconst 720 hX dL_law_719 rfl ?_
  refine r_iadd 721 hX dL_law_720 ?_
  refine r_sald 722 hX dL_law_721 h1 ?_
  refine r_callV (As := [.int (mx_sX G (i + 1).toNatClampNeg)]) (b := 46) (S := [.int v]) 725 hX hR (hD M1 hp) dL_law_722 kX8_count lL_78 rfl rfl rfl rfl rfl rfl rfl (fun r M2 hp2 => ?_)
  obtain ⟨rfl, hp2⟩ := hp2
  exact r_icmp_eq 728 1109 hX dL_law_725 (fun _ => kk M2 hp2) (fun c => absurd rfl c)
set_option maxRecDepth 100000 in
set_option maxHeartbeats 2000000 in
theorem lw_c14 (hX : mx_OK G X RL cL_law 7) (hR : mx_RM X 10 374) (hi : lwH G i) (hn : n ≤ 1000) (h : RR n M M) (kk : ∀ M2, RR (n + 1) M2 M2 → mx_WW G X 1109 (lwL i) [] M2) : mx_WW G X 730 (lwL i) [] M := by
  obtain ⟨h1, h2, h3, h4, h5, h6, h7⟩ := hi
  obtain ⟨v, QC, hC, hD⟩ := P_served (l := mx_l X) (G := G) (mx_sX G (i + 1).toNatClampNeg) (mx_sX G (i + 2).toNatClampNeg) h
  refine r_aload_n 731 hX dL_law_730 rfl ?_
  refine r_aload_n 732 hX dL_law_731 rfl ?_
  refine r_iload 734 hX dL_law_732 rfl ?_
  refine r_iconst 735 hX dL_law_734 rfl ?_
  refine r_iadd 736 hX dL_law_735 ?_
  refine r_sald 737 hX dL_law_736 h1 ?_
  refine r_aload_n 738 hX dL_law_737 rfl ?_
  refine r_iload 740 hX dL_law_738 rfl ?_
  refine r_iconst 741 hX dL_law_740 rfl ?_
  refine r_iadd 742 hX dL_law_741 ?_
  refine r_sald 743 hX dL_law_742 h2 ?_
  refine r_callV (As := [.int (mx_sX G (i + 1).toNatClampNeg), .int (mx_sX G (i + 2).toNatClampNeg)]) (b := 0) (S := []) 746 hX hR hC dL_law_743 kX7_served lL_79 rfl rfl rfl rfl rfl rfl rfl (fun r M1 hp => ?_)
  obtain ⟨rfl, hp⟩ := hp
  refine r_aload_n 747 hX dL_law_746 rfl ?_
  refine r_aload_n 748 hX dL_law_747 rfl ?_
  refine r_iload 750 hX dL_law_748 rfl ?_
  refine r_iconst 751 hX dL_law_750 rfl ?_
  refine r_iadd 752 hX dL_law_751 ?_
  refine r_sald 753 hX dL_law_752 h1 ?_
  refine r_aload_n 754 hX dL_law_753 rfl ?_
  refine r_iload 756 hX dL_law_754 rfl ?_
  refine r_iconst 757 hX dL_law_756 rfl ?_
  refine r_iadd 758 hX dL_law_757 ?_
  refine r_sald 759 hX dL_law_758 h2 ?_
  refine r_callV (As := [.int (mx_sX G (i + 1).toNatClampNeg), .int (mx_sX G (i + 2).toNatClampNeg)]) (b := 46) (S := [.int v]) 762 hX hR (hD M1 hp) dL_law_759 kX8_served lL_82 rfl rfl rfl rfl rfl rfl rfl (fun r M2 hp2 => ?_)
  obtain ⟨rfl, hp2⟩ := hp2
  exact r_icmp_eq 765 1109 hX dL_law_762 (fun _ => kk M2 hp2) (fun c => absurd rfl c)
set_option maxRecDepth 100000 in
set_option maxHeartbeats 2000000 in
theorem lw_c15 (hX : mx_OK G X RL cL_law 7) (hR : mx_RM X 10 374) (hi : lwH G i) (hn : n ≤ 1000) (h : RR n M M) (kk : ∀ M2, RR (n + 1) M2 M2 → mx_WW G X 1109 (lwL i) [] M2) : mx_WW G X 767 (lwL i) [] M := by
  obtain ⟨h1, h2, h3, h4, h5, h6, h7⟩ := hi
  obtain ⟨v, QC, hC, hD⟩ := P_feet (l := mx_l X) (G := G) (mx_sX G (i + 1).toNatClampNeg) (mx_sX G (i + 2).toNatClampNeg) (mx_sX G (i + 3).toNatClampNeg) (mx_sX G (i + 4).toNatClampNeg) h
  refine r_aload_n 768 hX dL_law_767 rfl ?_
  refine r_aload_n 769 hX dL_law_768 rfl ?_
  refine r_iload 771 hX dL_law_769 rfl ?_
  refine r_iconst 772 hX dL_law_771 rfl ?_
  refine r_iadd 773 hX dL_law_772 ?_
  refine r_sald 774 hX dL_law_773 h1 ?_
  refine r_aload_n 775 hX dL_law_774 rfl ?_
  refine r_iload 777 hX dL_law_775 rfl ?_
  refine r_iconst 778 hX dL_law_777 rfl ?_
  refine r_iadd 779 hX dL_law_778 ?_
  refine r_sald 780 hX dL_law_779 h2 ?_
  refine r_aload_n 781 hX dL_law_780 rfl ?_
  refine r_iload 783 hX dL_law_781 rfl ?_
  refine r_iconst 784 hX dL_law_783 rfl ?_
  refine r_iadd 785 hX dL_law_784 ?_
  refine r_sald 786 hX dL_law_785 h3 ?_
  refine r_aload_n 787 hX dL_law_786 rfl ?_
  refine r_iload 789 hX dL_law_787 rfl ?_
  refine r_iconst 790 hX dL_law_789 rfl ?_
  refine r_iadd 791 hX dL_law_790 ?_
  refine r_sald 792 hX dL_law_791 h4 ?_
  refine r_callV (As := [.int (mx_sX G (i + 1).toNatClampNeg), .int (mx_sX G (i + 2).toNatClampNeg), .int (mx_sX G (i + 3).toNatClampNeg), .int (mx_sX G (i + 4).toNatClampNeg)]) (b := 0) (S := []) 795 hX hR hC dL_law_792 kX7_feet lL_83 rfl rfl rfl rfl rfl rfl rfl (fun r M1 hp => ?_)
  obtain ⟨rfl, hp⟩ := hp
  refine r_aload_n 796 hX dL_law_795 rfl ?_
  refine r_aload_n 797 hX dL_law_796 rfl ?_
  refine r_iload 799 hX dL_law_797 rfl ?_
  refine r_iconst 800 hX dL_law_799 rfl ?_
  refine r_iadd 801 hX dL_law_800 ?_
  refine r_sald 802 hX dL_law_801 h1 ?_
  refine r_aload_n 803 hX dL_law_802 rfl ?_
  refine r_iload 805 hX dL_law_803 rfl ?_
  refine r_iconst 806 hX dL_law_805 rfl ?_
  refine r_iadd 807 hX dL_law_806 ?_
  refine r_sald 808 hX dL_law_807 h2 ?_
  refine r_aload_n 809 hX dL_law_808 rfl ?_
  refine r_iload 811 hX dL_law_809 rfl ?_
  refine r_iconst 812 hX dL_law_811 rfl ?_
  refine r_iadd 813 hX dL_law_812 ?_
  refine r_sald 814 hX dL_law_813 h3 ?_
  refine r_aload_n 815 hX dL_law_814 rfl ?_
  refine r_iload 817 hX dL_law_815 rfl ?_
  refine r_iconst 818 hX dL_law_817 rfl ?_
  refine r_iadd 819 hX dL_law_818 ?_
  refine r_sald 820 hX dL_law_819 h4 ?_
  refine r_callV (As := [.int (mx_sX G (i + 1).toNatClampNeg), .int (mx_sX G (i + 2).toNatClampNeg), .int (mx_sX G (i + 3).toNatClampNeg), .int (mx_sX G (i + 4).toNatClampNeg)]) (b := 46) (S := [.int v]) 823 hX hR (hD M1 hp) dL_law_820 kX8_feet lL_87 rfl rfl rfl rfl rfl rfl rfl (fun r M2 hp2 => ?_)
  obtain ⟨rfl, hp2⟩ := hp2
  exact r_icmp_eq 826 1109 hX dL_law_823 (fun _ => kk M2 hp2) (fun c => absurd rfl c)
set_option maxRecDepth 100000 in
set_option maxHeartbeats 2000000 in
theorem lw_c16 (hX : mx_OK G X RL cL_law 7) (hR : mx_RM X 10 374) (hi : lwH G i) (hn : n ≤ 1000) (h : RR n M M) (kk : ∀ M2, RR (n + 1) M2 M2 → mx_WW G X 1109 (lwL i) [] M2) : mx_WW G X 828 (lwL i) [] M := by
  obtain ⟨h1, h2, h3, h4, h5, h6, h7⟩ := hi
  obtain ⟨v, QC, hC, hD⟩ := P_overlap (l := mx_l X) (G := G) (mx_sX G (i + 1).toNatClampNeg) h
  refine r_aload_n 829 hX dL_law_828 rfl ?_
  refine r_aload_n 830 hX dL_law_829 rfl ?_
  refine r_iload 832 hX dL_law_830 rfl ?_
  refine r_iconst 833 hX dL_law_832 rfl ?_
  refine r_iadd 834 hX dL_law_833 ?_
  refine r_sald 835 hX dL_law_834 h1 ?_
  refine r_callV (As := [.int (mx_sX G (i + 1).toNatClampNeg)]) (b := 0) (S := []) 838 hX hR hC dL_law_835 kX7_overlap lL_88 rfl rfl rfl rfl rfl rfl rfl (fun r M1 hp => ?_)
  obtain ⟨rfl, hp⟩ := hp
  refine r_aload_n 839 hX dL_law_838 rfl ?_
  refine r_aload_n 840 hX dL_law_839 rfl ?_
  refine r_iload 842 hX dL_law_840 rfl ?_
  refine r_iconst 843 hX dL_law_842 rfl ?_
  refine r_iadd 844 hX dL_law_843 ?_
  refine r_sald 845 hX dL_law_844 h1 ?_
  refine r_callV (As := [.int (mx_sX G (i + 1).toNatClampNeg)]) (b := 46) (S := [.int v]) 848 hX hR (hD M1 hp) dL_law_845 kX8_overlap lL_91 rfl rfl rfl rfl rfl rfl rfl (fun r M2 hp2 => ?_)
  obtain ⟨rfl, hp2⟩ := hp2
  exact r_icmp_eq 851 1109 hX dL_law_848 (fun _ => kk M2 hp2) (fun c => absurd rfl c)
set_option maxRecDepth 100000 in
set_option maxHeartbeats 2000000 in
theorem lw_c17 (hX : mx_OK G X RL cL_law 7) (hR : mx_RM X 10 374) (hi : lwH G i) (hn : n ≤ 1000) (h : RR n M M) (kk : ∀ M2, RR (n + 1) M2 M2 → mx_WW G X 1109 (lwL i) [] M2) : mx_WW G X 853 (lwL i) [] M := by
  obtain ⟨h1, h2, h3, h4, h5, h6, h7⟩ := hi
  obtain ⟨v, QC, hC, hD⟩ := P_sign (l := mx_l X) (G := G) (mx_sX G (i + 1).toNatClampNeg) h
  refine r_aload_n 854 hX dL_law_853 rfl ?_
  refine r_aload_n 855 hX dL_law_854 rfl ?_
  refine r_iload 857 hX dL_law_855 rfl ?_
  refine r_iconst 858 hX dL_law_857 rfl ?_
  refine r_iadd 859 hX dL_law_858 ?_
  refine r_sald 860 hX dL_law_859 h1 ?_
  refine r_callV (As := [.int (mx_sX G (i + 1).toNatClampNeg)]) (b := 0) (S := []) 863 hX hR hC dL_law_860 kX7_sign lL_92 rfl rfl rfl rfl rfl rfl rfl (fun r M1 hp => ?_)
  obtain ⟨rfl, hp⟩ := hp
  refine r_aload_n 864 hX dL_law_863 rfl ?_
  refine r_aload_n 865 hX dL_law_864 rfl ?_
  refine r_iload 867 hX dL_law_865 rfl ?_
  refine r_iconst 868 hX dL_law_867 rfl ?_
  refine r_iadd 869 hX dL_law_868 ?_
  refine r_sald 870 hX dL_law_869 h1 ?_
  refine r_callV (As := [.int (mx_sX G (i + 1).toNatClampNeg)]) (b := 46) (S := [.int v]) 873 hX hR (hD M1 hp) dL_law_870 kX8_sign lL_95 rfl rfl rfl rfl rfl rfl rfl (fun r M2 hp2 => ?_)
  obtain ⟨rfl, hp2⟩ := hp2
  exact r_icmp_eq 876 1109 hX dL_law_873 (fun _ => kk M2 hp2) (fun c => absurd rfl c)
set_option maxRecDepth 100000 in
set_option maxHeartbeats 2000000 in
theorem lw_c18 (hX : mx_OK G X RL cL_law 7) (hR : mx_RM X 10 374) (hi : lwH G i) (hn : n ≤ 1000) (h : RR n M M) (kk : ∀ M2, RR (n + 1) M2 M2 → mx_WW G X 1109 (lwL i) [] M2) : mx_WW G X 878 (lwL i) [] M := by
  obtain ⟨h1, h2, h3, h4, h5, h6, h7⟩ := hi
  obtain ⟨v, QC, hC, hD⟩ := P_end (l := mx_l X) (G := G) (mx_sX G (i + 1).toNatClampNeg) h
  refine r_aload_n 879 hX dL_law_878 rfl ?_
  refine r_aload_n 880 hX dL_law_879 rfl ?_
  refine r_iload 882 hX dL_law_880 rfl ?_
  refine r_iconst 883 hX dL_law_882 rfl ?_
  refine r_iadd 884 hX dL_law_883 ?_
  refine r_sald 885 hX dL_law_884 h1 ?_
  refine r_callV (As := [.int (mx_sX G (i + 1).toNatClampNeg)]) (b := 0) (S := []) 888 hX hR hC dL_law_885 kX7_end lL_96 rfl rfl rfl rfl rfl rfl rfl (fun r M1 hp => ?_)
  obtain ⟨rfl, hp⟩ := hp
  refine r_aload_n 889 hX dL_law_888 rfl ?_
  refine r_aload_n 890 hX dL_law_889 rfl ?_
  refine r_iload 892 hX dL_law_890 rfl ?_
  refine r_iconst 893 hX dL_law_892 rfl ?_
  refine r_iadd 894 hX dL_law_893 ?_
  refine r_sald 895 hX dL_law_894 h1 ?_
  refine r_callV (As := [.int (mx_sX G (i + 1).toNatClampNeg)]) (b := 46) (S := [.int v]) 898 hX hR (hD M1 hp) dL_law_895 kX8_end lL_100 rfl rfl rfl rfl rfl rfl rfl (fun r M2 hp2 => ?_)
  obtain ⟨rfl, hp2⟩ := hp2
  exact r_icmp_eq 901 1109 hX dL_law_898 (fun _ => kk M2 hp2) (fun c => absurd rfl c)
set_option maxRecDepth 100000 in
set_option maxHeartbeats 2000000 in
theorem lw_c19 (hX : mx_OK G X RL cL_law 7) (hR : mx_RM X 10 374) (hi : lwH G i) (hn : n ≤ 1000) (h : RR n M M) (kk : ∀ M2, RR (n + 1) M2 M2 → mx_WW G X 1109 (lwL i) [] M2) : mx_WW G X 903 (lwL i) [] M := by
  obtain ⟨h1, h2, h3, h4, h5, h6, h7⟩ := hi
  obtain ⟨v, QC, hC, hD⟩ := P_sheet (l := mx_l X) (G := G)  hn h
  refine r_aload_n 904 hX dL_law_903 rfl ?_
  refine r_callV (As := []) (b := 0) (S := []) 907 hX hR hC dL_law_904 kX7_sheet lL_101 rfl rfl rfl rfl rfl rfl rfl (fun r M1 hp => ?_)
  obtain ⟨rfl, hp⟩ := hp
  refine r_aload_n 908 hX dL_law_907 rfl ?_
  refine r_callV (As := []) (b := 46) (S := [.int v]) 911 hX hR (hD M1 hp) dL_law_908 kX8_sheet lL_105 rfl rfl rfl rfl rfl rfl rfl (fun r M2 hp2 => ?_)
  obtain ⟨rfl, hp2⟩ := hp2
  exact r_icmp_eq 914 1109 hX dL_law_911 (fun _ => kk M2 hp2) (fun c => absurd rfl c)
set_option maxRecDepth 100000 in
set_option maxHeartbeats 2000000 in
theorem lw_c20 (hX : mx_OK G X RL cL_law 7) (hR : mx_RM X 10 374) (hi : lwH G i) (hn : n ≤ 1000) (h : RR n M M) (kk : ∀ M2, RR (n + 1) M2 M2 → mx_WW G X 1109 (lwL i) [] M2) : mx_WW G X 916 (lwL i) [] M := by
  obtain ⟨h1, h2, h3, h4, h5, h6, h7⟩ := hi
  obtain ⟨v, QC, hC, hD⟩ := P_odds (l := mx_l X) (G := G) (mx_sX G (i + 1).toNatClampNeg) (mx_sX G (i + 2).toNatClampNeg) (mx_sX G (i + 3).toNatClampNeg) hn h
  refine r_aload_n 917 hX dL_law_916 rfl ?_
  refine r_aload_n 918 hX dL_law_917 rfl ?_
  refine r_iload 920 hX dL_law_918 rfl ?_
  refine r_iconst 921 hX dL_law_920 rfl ?_
  refine r_iadd 922 hX dL_law_921 ?_
  refine r_sald 923 hX dL_law_922 h1 ?_
  refine r_aload_n 924 hX dL_law_923 rfl ?_
  refine r_iload 926 hX dL_law_924 rfl ?_
  refine r_iconst 927 hX dL_law_926 rfl ?_
  refine r_iadd 928 hX dL_law_927 ?_
  refine r_sald 929 hX dL_law_928 h2 ?_
  refine r_aload_n 930 hX dL_law_929 rfl ?_
  refine r_iload 932 hX dL_law_930 rfl ?_
  refine r_iconst 933 hX dL_law_932 rfl ?_
  refine r_iadd 934 hX dL_law_933 ?_
  refine r_sald 935 hX dL_law_934 h3 ?_
  refine r_callV (As := [.int (mx_sX G (i + 1).toNatClampNeg), .int (mx_sX G (i + 2).toNatClampNeg), .int (mx_sX G (i + 3).toNatClampNeg)]) (b := 0) (S := []) 938 hX hR hC dL_law_935 kX7_odds lL_106 rfl rfl rfl rfl rfl rfl rfl (fun r M1 hp => ?_)
  obtain ⟨rfl, hp⟩ := hp
  refine r_aload_n 939 hX dL_law_938 rfl ?_
  refine r_aload_n 940 hX dL_law_939 rfl ?_
  refine r_iload 942 hX dL_law_940 rfl ?_
  refine r_iconst 943 hX dL_law_942 rfl ?_
  refine r_iadd 944 hX dL_law_943 ?_
  refine r_sald 945 hX dL_law_944 h1 ?_
  refine r_aload_n 946 hX dL_law_945 rfl ?_
  refine r_iload 948 hX dL_law_946 rfl ?_
  refine r_iconst 949 hX dL_law_948 rfl ?_
  refine r_iadd 950 hX dL_law_949 ?_
  refine r_sald 951 hX dL_law_950 h2 ?_
  refine r_aload_n 952 hX dL_law_951 rfl ?_
  refine r_iload 954 hX dL_law_952 rfl ?_
  refine r_iconst 955 hX dL_law_954 rfl ?_
  refine r_iadd 956 hX dL_law_955 ?_
  refine r_sald 957 hX dL_law_956 h3 ?_
  refine r_callV (As := [.int (mx_sX G (i + 1).toNatClampNeg), .int (mx_sX G (i + 2).toNatClampNeg), .int (mx_sX G (i + 3).toNatClampNeg)]) (b := 46) (S := [.int v]) 960 hX hR (hD M1 hp) dL_law_957 kX8_odds lL_109 rfl rfl rfl rfl rfl rfl rfl (fun r M2 hp2 => ?_)
  obtain ⟨rfl, hp2⟩ := hp2
  exact r_icmp_eq 963 1109 hX dL_law_960 (fun _ => kk M2 hp2) (fun c => absurd rfl c)
set_option maxRecDepth 100000 in
set_option maxHeartbeats 2000000 in
theorem lw_c21 (hX : mx_OK G X RL cL_law 7) (hR : mx_RM X 10 374) (hi : lwH G i) (hn : n ≤ 1000) (h : RR n M M) (kk : ∀ M2, RR (n + 1) M2 M2 → mx_WW G X 1109 (lwL i) [] M2) : mx_WW G X 965 (lwL i) [] M := by
  obtain ⟨h1, h2, h3, h4, h5, h6, h7⟩ := hi
  obtain ⟨v, QC, hC, hD⟩ := P_chance (l := mx_l X) (G := G)  hn h
  refine r_aload_n 966 hX dL_law_965 rfl ?_
  refine r_callV (As := []) (b := 0) (S := []) 969 hX hR hC dL_law_966 kX7_chance lL_110 rfl rfl rfl rfl rfl rfl rfl (fun r M1 hp => ?_)
  obtain ⟨rfl, hp⟩ := hp
  refine r_aload_n 970 hX dL_law_969 rfl ?_
  refine r_callV (As := []) (b := 46) (S := [.int v]) 973 hX hR (hD M1 hp) dL_law_970 kX8_chance lL_113 rfl rfl rfl rfl rfl rfl rfl (fun r M2 hp2 => ?_)
  obtain ⟨rfl, hp2⟩ := hp2
  exact r_icmp_eq 976 1109 hX dL_law_973 (fun _ => kk M2 hp2) (fun c => absurd rfl c)
set_option maxRecDepth 100000 in
set_option maxHeartbeats 2000000 in
theorem lw_c22 (hX : mx_OK G X RL cL_law 7) (hR : mx_RM X 10 374) (hi : lwH G i) (hn : n ≤ 1000) (h : RR n M M) (kk : ∀ M2, RR (n + 1) M2 M2 → mx_WW G X 1109 (lwL i) [] M2) : mx_WW G X 978 (lwL i) [] M := by
  obtain ⟨h1, h2, h3, h4, h5, h6, h7⟩ := hi
  obtain ⟨v, QC, hC, hD⟩ := P_weight (l := mx_l X) (G := G)  hn h
  refine r_aload_n 979 hX dL_law_978 rfl ?_
  refine r_callV (As := []) (b := 0) (S := []) 982 hX hR hC dL_law_979 kX7_weight lL_114 rfl rfl rfl rfl rfl rfl rfl (fun r M1 hp => ?_)
  obtain ⟨rfl, hp⟩ := hp
  refine r_aload_n 983 hX dL_law_982 rfl ?_
  refine r_callV (As := []) (b := 46) (S := [.int v]) 986 hX hR (hD M1 hp) dL_law_983 kX8_weight lL_117 rfl rfl rfl rfl rfl rfl rfl (fun r M2 hp2 => ?_)
  obtain ⟨rfl, hp2⟩ := hp2
  exact r_icmp_eq 989 1109 hX dL_law_986 (fun _ => kk M2 hp2) (fun c => absurd rfl c)
set_option maxRecDepth 100000 in
set_option maxHeartbeats 2000000 in
theorem lw_c23 (hX : mx_OK G X RL cL_law 7) (hR : mx_RM X 10 374) (hi : lwH G i) (hn : n ≤ 1000) (h : RR n M M) (kk : ∀ M2, RR (n + 1) M2 M2 → mx_WW G X 1109 (lwL i) [] M2) : mx_WW G X 991 (lwL i) [] M := by
  obtain ⟨h1, h2, h3, h4, h5, h6, h7⟩ := hi
  obtain ⟨v, QC, hC, hD⟩ := P_turn (l := mx_l X) (G := G) (mx_sX G (i + 1).toNatClampNeg) (mx_sX G (i + 2).toNatClampNeg) h
  refine r_aload_n 992 hX dL_law_991 rfl ?_
  refine r_aload_n 993 hX dL_law_992 rfl ?_
  refine r_iload 995 hX dL_law_993 rfl ?_
  refine r_iconst 996 hX dL_law_995 rfl ?_
  refine r_iadd 997 hX dL_law_996 ?_
  refine r_sald 998 hX dL_law_997 h1 ?_
  refine r_aload_n 999 hX dL_law_998 rfl ?_
  refine r_iload 1001 hX dL_law_999 rfl ?_
  refine r_iconst 1002 hX dL_law_1001 rfl ?_
  refine r_iadd 1003 hX dL_law_1002 ?_
  refine r_sald 1004 hX dL_law_1003 h2 ?_
  refine r_callV (As := [.int (mx_sX G (i + 1).toNatClampNeg), .int (mx_sX G (i + 2).toNatClampNeg)]) (b := 0) (S := []) 1007 hX hR hC dL_law_1004 kX7_turn lL_118 rfl rfl rfl rfl rfl rfl rfl (fun r M1 hp => ?_)
  obtain ⟨rfl, hp⟩ := hp
  refine r_aload_n 1008 hX dL_law_1007 rfl ?_
  refine r_aload_n 1009 hX dL_law_1008 rfl ?_
  refine r_iload 1011 hX dL_law_1009 rfl ?_
  refine r_iconst 1012 hX dL_law_1011 rfl ?_
  refine r_iadd 1013 hX dL_law_1012 ?_
  refine r_sald 1014 hX dL_law_1013 h1 ?_
  refine r_aload_n 1015 hX dL_law_1014 rfl ?_
  refine r_iload 1017 hX dL_law_1015 rfl ?_
  refine r_iconst 1018 hX dL_law_1017 rfl ?_
  refine r_iadd 1019 hX dL_law_1018 ?_
  refine r_sald 1020 hX dL_law_1019 h2 ?_
  refine r_callV (As := [.int (mx_sX G (i + 1).toNatClampNeg), .int (mx_sX G (i + 2).toNatClampNeg)]) (b := 46) (S := [.int v]) 1023 hX hR (hD M1 hp) dL_law_1020 kX8_turn_ lL_121 rfl rfl rfl rfl rfl rfl rfl (fun r M2 hp2 => ?_)
  obtain ⟨rfl, hp2⟩ := hp2
  exact r_icmp_eq 1026 1109 hX dL_law_1023 (fun _ => kk M2 hp2) (fun c => absurd rfl c)
set_option maxRecDepth 100000 in
set_option maxHeartbeats 2000000 in
theorem lw_c24 (hX : mx_OK G X RL cL_law 7) (hR : mx_RM X 10 374) (hi : lwH G i) (hn : n ≤ 1000) (h : RR n M M) (kk : ∀ M2, RR (n + 1) M2 M2 → mx_WW G X 1109 (lwL i) [] M2) : mx_WW G X 1028 (lwL i) [] M := by
  obtain ⟨h1, h2, h3, h4, h5, h6, h7⟩ := hi
  obtain ⟨v, QC, hC, hD⟩ := P_advice (l := mx_l X) (G := G) (mx_sX G (i + 1).toNatClampNeg) hn h
  refine r_aload_n 1029 hX dL_law_1028 rfl ?_
  refine r_aload_n 1030 hX dL_law_1029 rfl ?_
  refine r_iload 1032 hX dL_law_1030 rfl ?_
  refine r_iconst 1033 hX dL_law_1032 rfl ?_
  refine r_iadd 1034 hX dL_law_1033 ?_
  refine r_sald 1035 hX dL_law_1034 h1 ?_
  refine r_callV (As := [.int (mx_sX G (i + 1).toNatClampNeg)]) (b := 0) (S := []) 1038 hX hR hC dL_law_1035 kX7_advice lL_122 rfl rfl rfl rfl rfl rfl rfl (fun r M1 hp => ?_)
  obtain ⟨rfl, hp⟩ := hp
  refine r_aload_n 1039 hX dL_law_1038 rfl ?_
  refine r_aload_n 1040 hX dL_law_1039 rfl ?_
  refine r_iload 1042 hX dL_law_1040 rfl ?_
  refine r_iconst 1043 hX dL_law_1042 rfl ?_
  refine r_iadd 1044 hX dL_law_1043 ?_
  refine r_sald 1045 hX dL_law_1044 h1 ?_
  refine r_callV (As := [.int (mx_sX G (i + 1).toNatClampNeg)]) (b := 46) (S := [.int v]) 1048 hX hR (hD M1 hp) dL_law_1045 kX8_advice lL_125 rfl rfl rfl rfl rfl rfl rfl (fun r M2 hp2 => ?_)
  obtain ⟨rfl, hp2⟩ := hp2
  exact r_icmp_eq 1051 1109 hX dL_law_1048 (fun _ => kk M2 hp2) (fun c => absurd rfl c)
end LWC

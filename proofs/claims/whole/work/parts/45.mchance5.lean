/-! chances of the model: the loop at one score -/
theorem tcl_0 {G : mx_G} {X : mx_X} {N0 : mx_Mem} {g x2 x3 : Int32} {a b v : Nat} {U  : Nat → Nat → Nat → Nat}  (hX : mx_OK G X RX8 cX8_fill 10) (hR : mx_RM X 3 75) (ha : a < 31) (hb : b < 31)
    (hov : ¬ lg_cmp (lN v) (-1) = 0) (hU : ∀ s i j, U s i j = v)
    (hE : ∀ N w9, tcI N0 U a b 6 0 N → mx_WW G X 362 [.ref 46, .int g, .int x2, .int x3, .int (nI a), .int (nI b), .long (lN v), .null, .int 6, w9] [] N) : ∀ N w9, tcI N0 U a b 0 0 N → mx_WW G X 150 [.ref 46, .int g, .int x2, .int x3, .int (nI a), .int (nI b), .long (lN v), .null, .int (nI 0), w9] [] N := by
  refine mx_back (P := fun i => ∀ N w9, tcI N0 U a b i 0 N → mx_WW G X 150 [.ref 46, .int g, .int x2, .int x3, .int (nI a), .int (nI b), .long (lN v), .null, .int (nI i), w9] [] N) 6 (fun i hi ih => ?_) ?_
  · intro N w9 hI
    have g1 : ¬ 6 ≤ nI i := nI_ge (b := 6) hi (by decide)
    refine r_iload 152 hX dX8_fill_150 rfl ?_
    refine r_bipush 154 hX dX8_fill_152 (v := 6) (by decide) ?_
    refine r_icmp_ge 157 362 hX dX8_fill_154 (fun c1 => absurd c1 g1) (fun c1 => ?_)
    refine r_iconst 158 hX dX8_fill_157 (v := 0) (by decide) ?_
    refine r_istore 160 hX dX8_fill_158 rfl ?_
    skip
    refine mx_back (P := fun j => ∀ N, tcI N0 U a b i j N → mx_WW G X 160 [.ref 46, .int g, .int x2, .int x3, .int (nI a), .int (nI b), .long (lN v), .null, .int (nI i), .int (nI j)] [] N) 6 (fun j hj ihj => ?_) ?_ N hI
    · intro N hI
      have g2 : ¬ 6 ≤ nI j := nI_ge (b := 6) hj (by decide)
      have l0 := ce_lt (a := a) (b := b) (s := 0) (i := i) (j := j) (by omega) (by omega) (by decide) hi hj
      have l1 := ce_lt (a := a) (b := b) (s := 1) (i := i) (j := j) (by omega) (by omega) (by decide) hi hj
      have r0 : nI i * 6 + nI j = nI ((0 * 6 + i) * 6 + j) := by rw [show (6 : Int32) = nI 6 from rfl, pk_mul, nI_add, Nat.zero_mul, Nat.zero_add]
      have r1 : (6 + nI i) * 6 + nI j = nI ((1 * 6 + i) * 6 + j) := od_ix 1 i j (by decide)
      refine r_iload 162 hX dX8_fill_160 rfl ?_
      refine r_bipush 164 hX dX8_fill_162 (v := 6) (by decide) ?_
      refine r_icmp_ge 167 356 hX dX8_fill_164 (fun c1 => absurd c1 g2) (fun c1 => ?_)
      refine r_aload_n 168 hX dX8_fill_167 rfl ?_
      refine r_getR 171 hX dX8_fill_168 fX8_52 rfl rfl rfl ?_
      refine r_iload 173 hX dX8_fill_171 rfl ?_
      refine r_iload 175 hX dX8_fill_173 rfl ?_
      refine r_iconst 176 hX dX8_fill_175 (v := 0) (by decide) ?_
      refine r_iload 178 hX dX8_fill_176 rfl ?_
      refine r_iload 180 hX dX8_fill_178 rfl ?_
      refine r_cS5F 183 hX hR (tX8_cell (a := a) (b := b) (s := 0) (i := i) (j := j)) dX8_fill_180 kX8_cell lX8_184 rfl rfl rfl ?_
      refine r_lload 185 hX dX8_fill_183 rfl ?_
      refine r_ldc2 188 hX dX8_fill_185 qX8_182 ?_
      refine r_lcmp 189 hX dX8_fill_188 ?_
      refine r_if_eq 192 197 hX dX8_fill_189 (fun c2 => absurd c2 hov) (fun c2 => ?_)
      refine r_lload 194 hX dX8_fill_192 rfl ?_
      refine r_goto 256 hX dX8_fill_194 ?_
      refine r_lastK 257 hX dX8_fill_256 rfl rfl (vp_in_nI l0 (by decide)) (j := ceN a b 0 i j) (nI_clamp (by omega)) ?_
      refine r_aload_n 258 hX dX8_fill_257 rfl ?_
      refine r_getR 261 hX dX8_fill_258 fX8_52 rfl rfl rfl ?_
      refine r_iload 263 hX dX8_fill_261 rfl ?_
      refine r_iload 265 hX dX8_fill_263 rfl ?_
      refine r_iconst 266 hX dX8_fill_265 (v := 1) (by decide) ?_
      refine r_iload 268 hX dX8_fill_266 rfl ?_
      refine r_iload 270 hX dX8_fill_268 rfl ?_
      refine r_cS5F 273 hX hR (tX8_cell (a := a) (b := b) (s := 1) (i := i) (j := j)) dX8_fill_270 kX8_cell lX8_184 rfl rfl rfl ?_
      refine r_lload 275 hX dX8_fill_273 rfl ?_
      refine r_ldc2 278 hX dX8_fill_275 qX8_182 ?_
      refine r_lcmp 279 hX dX8_fill_278 ?_
      refine r_if_eq 282 287 hX dX8_fill_279 (fun c3 => absurd c3 hov) (fun c3 => ?_)
      refine r_lload 284 hX dX8_fill_282 rfl ?_
      refine r_goto 349 hX dX8_fill_284 ?_
      refine r_lastK 350 hX dX8_fill_349 rfl rfl (vp_in_nI l1 (by decide)) (j := ceN a b 1 i j) (nI_clamp (by omega)) ?_
      refine r_iinc 353 hX dX8_fill_350 rfl (v := 1) (by decide) rfl ?_
      refine r_goto 160 hX dX8_fill_353 ?_
      rw [nI_1]
      have st := tcI_s hI (by omega) hi hj
      rw [hU, hU] at st
      exact ihj _ st
    · intro N hI
      show mx_WW G X 160 [.ref 46, .int g, .int x2, .int x3, .int (nI a), .int (nI b), .long (lN v), .null, .int (nI i), .int 6] [] N
      refine r_iload 162 hX dX8_fill_160 rfl ?_
      refine r_bipush 164 hX dX8_fill_162 (v := 6) (by decide) ?_
      refine r_icmp_ge 167 356 hX dX8_fill_164 (fun _ => ?_) (fun c => absurd c (by decide))
      refine r_iinc 359 hX dX8_fill_356 rfl (v := 1) (by decide) rfl ?_
      refine r_goto 150 hX dX8_fill_359 ?_
      rw [nI_1]
      exact ih _ _ (tcI_i hI)
  · intro N w9 hI
    show mx_WW G X 150 [.ref 46, .int g, .int x2, .int x3, .int (nI a), .int (nI b), .long (lN v), .null, .int 6, w9] [] N
    refine r_iload 152 hX dX8_fill_150 rfl ?_
    refine r_bipush 154 hX dX8_fill_152 (v := 6) (by decide) ?_
    refine r_icmp_ge 157 362 hX dX8_fill_154 (fun _ => ?_) (fun c => absurd c (by decide))
    exact hE _ _ hI
theorem tcl_1 {G : mx_G} {X : mx_X} {N0 : mx_Mem} {g x2 x3 : Int32} {a b  : Nat} {U od : Nat → Nat → Nat → Nat} {X1 Y1 : Nat → Nat → Nat} (hX : mx_OK G X RX8 cX8_fill 10) (hR : mx_RM X 3 75) (ha : a + 1 < 31) (hb : b + 1 < 31)
    (hod : ∀ s i j, s < 2 → i < 6 → j < 6 → N0.1 59 ((s * 6 + i) * 6 + j) = nI (od s i j)) (hc : ∀ s i j, od s i j ≤ 1000) (hx : ∀ i j, X1 i j ≤ 1000000000) (hy : ∀ i j, Y1 i j ≤ 1000000000) (tx : ∀ i j, i < 6 → j < 6 → N0.2 60 (ceN (a + 1) b 0 i j) = lN (X1 i j)) (ty : ∀ i j, i < 6 → j < 6 → N0.2 60 (ceN a (b + 1) 1 i j) = lN (Y1 i j)) (hU0 : ∀ i j, U 0 i j = avg (od 0 i j) (X1 i j) (Y1 i ((j + 1) % 6))) (hU1 : ∀ i j, U 1 i j = avg (od 1 i j) (Y1 i j) (X1 ((i + 1) % 6) j))
    (hE : ∀ N w9, tcI N0 U a b 6 0 N → mx_WW G X 362 [.ref 46, .int g, .int x2, .int x3, .int (nI a), .int (nI b), .long (-1), .null, .int 6, w9] [] N) : ∀ N w9, tcI N0 U a b 0 0 N → mx_WW G X 150 [.ref 46, .int g, .int x2, .int x3, .int (nI a), .int (nI b), .long (-1), .null, .int (nI 0), w9] [] N := by
  refine mx_back (P := fun i => ∀ N w9, tcI N0 U a b i 0 N → mx_WW G X 150 [.ref 46, .int g, .int x2, .int x3, .int (nI a), .int (nI b), .long (-1), .null, .int (nI i), w9] [] N) 6 (fun i hi ih => ?_) ?_
  · intro N w9 hI
    have g1 : ¬ 6 ≤ nI i := nI_ge (b := 6) hi (by decide)
    refine r_iload 152 hX dX8_fill_150 rfl ?_
    refine r_bipush 154 hX dX8_fill_152 (v := 6) (by decide) ?_
    refine r_icmp_ge 157 362 hX dX8_fill_154 (fun c1 => absurd c1 g1) (fun c1 => ?_)
    refine r_iconst 158 hX dX8_fill_157 (v := 0) (by decide) ?_
    refine r_istore 160 hX dX8_fill_158 rfl ?_
    skip
    refine mx_back (P := fun j => ∀ N, tcI N0 U a b i j N → mx_WW G X 160 [.ref 46, .int g, .int x2, .int x3, .int (nI a), .int (nI b), .long (-1), .null, .int (nI i), .int (nI j)] [] N) 6 (fun j hj ihj => ?_) ?_ N hI
    · intro N hI
      have g2 : ¬ 6 ≤ nI j := nI_ge (b := 6) hj (by decide)
      have l0 := ce_lt (a := a) (b := b) (s := 0) (i := i) (j := j) (by omega) (by omega) (by decide) hi hj
      have l1 := ce_lt (a := a) (b := b) (s := 1) (i := i) (j := j) (by omega) (by omega) (by decide) hi hj
      have r0 : nI i * 6 + nI j = nI ((0 * 6 + i) * 6 + j) := by rw [show (6 : Int32) = nI 6 from rfl, pk_mul, nI_add, Nat.zero_mul, Nat.zero_add]
      have r1 : (6 + nI i) * 6 + nI j = nI ((1 * 6 + i) * 6 + j) := od_ix 1 i j (by decide)
      refine r_iload 162 hX dX8_fill_160 rfl ?_
      refine r_bipush 164 hX dX8_fill_162 (v := 6) (by decide) ?_
      refine r_icmp_ge 167 356 hX dX8_fill_164 (fun c1 => absurd c1 g2) (fun c1 => ?_)
      refine r_aload_n 168 hX dX8_fill_167 rfl ?_
      refine r_getR 171 hX dX8_fill_168 fX8_52 rfl rfl rfl ?_
      refine r_iload 173 hX dX8_fill_171 rfl ?_
      refine r_iload 175 hX dX8_fill_173 rfl ?_
      refine r_iconst 176 hX dX8_fill_175 (v := 0) (by decide) ?_
      refine r_iload 178 hX dX8_fill_176 rfl ?_
      refine r_iload 180 hX dX8_fill_178 rfl ?_
      refine r_cS5F 183 hX hR (tX8_cell (a := a) (b := b) (s := 0) (i := i) (j := j)) dX8_fill_180 kX8_cell lX8_184 rfl rfl rfl ?_
      refine r_lload 185 hX dX8_fill_183 rfl ?_
      refine r_ldc2 188 hX dX8_fill_185 qX8_182 ?_
      refine r_lcmp 189 hX dX8_fill_188 ?_
      refine r_if_eq 192 197 hX dX8_fill_189 (fun c2 => ?_) (fun c2 => absurd (by decide) c2)
      refine r_aload_n 198 hX dX8_fill_197 rfl ?_
      refine r_getR 201 hX dX8_fill_198 fX8_48 rfl rfl rfl ?_
      refine r_iload 203 hX dX8_fill_201 rfl ?_
      refine r_bipush 205 hX dX8_fill_203 (v := 6) (by decide) ?_
      refine r_imul 206 hX dX8_fill_205 ?_
      refine r_iload 208 hX dX8_fill_206 rfl ?_
      refine r_iadd 209 hX dX8_fill_208 ?_
      rw [r0]
      refine r_ialdV 210 hX dX8_fill_209 rfl rfl (vp_in_nI (show (0 * 6 + i) * 6 + j < 72 by omega) (by decide)) (nI_clamp (by omega)) (v := nI (od 0 i j)) (by rw [hI.1.1]; exact hod 0 i j (by decide) hi hj) ?_
      refine r_aload_n 211 hX dX8_fill_210 rfl ?_
      refine r_getR 214 hX dX8_fill_211 fX8_52 rfl rfl rfl ?_
      refine r_iload 216 hX dX8_fill_214 rfl ?_
      refine r_iconst 217 hX dX8_fill_216 (v := 1) (by decide) ?_
      refine r_iadd 218 hX dX8_fill_217 ?_
      rw [nI_1]
      refine r_iload 220 hX dX8_fill_218 rfl ?_
      refine r_iconst 221 hX dX8_fill_220 (v := 0) (by decide) ?_
      refine r_iload 223 hX dX8_fill_221 rfl ?_
      refine r_iload 225 hX dX8_fill_223 rfl ?_
      refine r_cS5F 228 hX hR (tX8_cell (a := a + 1) (b := b) (s := 0) (i := i) (j := j)) dX8_fill_225 kX8_cell lX8_184 rfl rfl rfl ?_
      refine r_laldV 229 hX dX8_fill_228 rfl rfl (vp_in_nI (ce_lt (a := a + 1) (b := b) (s := 0) (i := i) (j := j) (by omega) (by omega) (by decide) hi hj) (by decide)) (nI_clamp (Nat.lt_trans (ce_lt (a := a + 1) (b := b) (s := 0) (i := i) (j := j) (by omega) (by omega) (by decide) hi hj) (by decide))) (v := lN (X1 i j)) (by rw [tcI_o hI (by omega) (by omega) (by decide) hi hj (by omega)]; exact tx i j hi hj) ?_
      refine r_aload_n 230 hX dX8_fill_229 rfl ?_
      refine r_getR 233 hX dX8_fill_230 fX8_52 rfl rfl rfl ?_
      refine r_iload 235 hX dX8_fill_233 rfl ?_
      refine r_iload 237 hX dX8_fill_235 rfl ?_
      refine r_iconst 238 hX dX8_fill_237 (v := 1) (by decide) ?_
      refine r_iadd 239 hX dX8_fill_238 ?_
      rw [nI_1]
      refine r_iconst 240 hX dX8_fill_239 (v := 1) (by decide) ?_
      refine r_iload 242 hX dX8_fill_240 rfl ?_
      refine r_iload 244 hX dX8_fill_242 rfl ?_
      refine r_iconst 245 hX dX8_fill_244 (v := 1) (by decide) ?_
      refine r_iadd 246 hX dX8_fill_245 ?_
      rw [nI_1]
      refine r_bipush 248 hX dX8_fill_246 (v := 6) (by decide) ?_
      refine r_irem 249 hX dX8_fill_248 (by decide) ?_
      rw [mx_r6 (j + 1) (by omega)]
      refine r_cS5F 252 hX hR (tX8_cell (a := a) (b := b + 1) (s := 1) (i := i) (j := (j + 1) % 6)) dX8_fill_249 kX8_cell lX8_184 rfl rfl rfl ?_
      refine r_laldV 253 hX dX8_fill_252 rfl rfl (vp_in_nI (ce_lt (a := a) (b := b + 1) (s := 1) (i := i) (j := (j + 1) % 6) (by omega) (by omega) (by decide) hi (by omega)) (by decide)) (nI_clamp (Nat.lt_trans (ce_lt (a := a) (b := b + 1) (s := 1) (i := i) (j := (j + 1) % 6) (by omega) (by omega) (by decide) hi (by omega)) (by decide))) (v := lN (Y1 i ((j + 1) % 6))) (by rw [tcI_o hI (by omega) (by omega) (by decide) hi (by omega) (by omega)]; exact ty i ((j + 1) % 6) hi (by omega)) ?_
      refine r_cS3F 256 hX hR (tX8_mean (c := od 0 i j) (a := X1 i j) (b := Y1 i ((j + 1) % 6)) (hc _ _ _) (hx _ _) (hy _ _)) dX8_fill_253 kX8_mean lX8_188 rfl rfl rfl ?_
      refine r_lastK 257 hX dX8_fill_256 rfl rfl (vp_in_nI l0 (by decide)) (j := ceN a b 0 i j) (nI_clamp (by omega)) ?_
      refine r_aload_n 258 hX dX8_fill_257 rfl ?_
      refine r_getR 261 hX dX8_fill_258 fX8_52 rfl rfl rfl ?_
      refine r_iload 263 hX dX8_fill_261 rfl ?_
      refine r_iload 265 hX dX8_fill_263 rfl ?_
      refine r_iconst 266 hX dX8_fill_265 (v := 1) (by decide) ?_
      refine r_iload 268 hX dX8_fill_266 rfl ?_
      refine r_iload 270 hX dX8_fill_268 rfl ?_
      refine r_cS5F 273 hX hR (tX8_cell (a := a) (b := b) (s := 1) (i := i) (j := j)) dX8_fill_270 kX8_cell lX8_184 rfl rfl rfl ?_
      refine r_lload 275 hX dX8_fill_273 rfl ?_
      refine r_ldc2 278 hX dX8_fill_275 qX8_182 ?_
      refine r_lcmp 279 hX dX8_fill_278 ?_
      refine r_if_eq 282 287 hX dX8_fill_279 (fun c3 => ?_) (fun c3 => absurd (by decide) c3)
      refine r_aload_n 288 hX dX8_fill_287 rfl ?_
      refine r_getR 291 hX dX8_fill_288 fX8_48 rfl rfl rfl ?_
      refine r_bipush 293 hX dX8_fill_291 (v := 6) (by decide) ?_
      refine r_iload 295 hX dX8_fill_293 rfl ?_
      refine r_iadd 296 hX dX8_fill_295 ?_
      refine r_bipush 298 hX dX8_fill_296 (v := 6) (by decide) ?_
      refine r_imul 299 hX dX8_fill_298 ?_
      refine r_iload 301 hX dX8_fill_299 rfl ?_
      refine r_iadd 302 hX dX8_fill_301 ?_
      rw [r1]
      refine r_ialdV 303 hX dX8_fill_302 rfl rfl (vp_in_nI (show (1 * 6 + i) * 6 + j < 72 by omega) (by decide)) (nI_clamp (by omega)) (v := nI (od 1 i j)) (by rw [mL_1, hI.1.1]; exact hod 1 i j (by decide) hi hj) ?_
      refine r_aload_n 304 hX dX8_fill_303 rfl ?_
      refine r_getR 307 hX dX8_fill_304 fX8_52 rfl rfl rfl ?_
      refine r_iload 309 hX dX8_fill_307 rfl ?_
      refine r_iload 311 hX dX8_fill_309 rfl ?_
      refine r_iconst 312 hX dX8_fill_311 (v := 1) (by decide) ?_
      refine r_iadd 313 hX dX8_fill_312 ?_
      rw [nI_1]
      refine r_iconst 314 hX dX8_fill_313 (v := 1) (by decide) ?_
      refine r_iload 316 hX dX8_fill_314 rfl ?_
      refine r_iload 318 hX dX8_fill_316 rfl ?_
      refine r_cS5F 321 hX hR (tX8_cell (a := a) (b := b + 1) (s := 1) (i := i) (j := j)) dX8_fill_318 kX8_cell lX8_184 rfl rfl rfl ?_
      refine r_laldV 322 hX dX8_fill_321 rfl rfl (vp_in_nI (ce_lt (a := a) (b := b + 1) (s := 1) (i := i) (j := j) (by omega) (by omega) (by decide) hi hj) (by decide)) (nI_clamp (Nat.lt_trans (ce_lt (a := a) (b := b + 1) (s := 1) (i := i) (j := j) (by omega) (by omega) (by decide) hi hj) (by decide))) (v := lN (Y1 i j)) (by rw [mL_ap, if_neg (fun e => by have := ce_inj (by omega) (by omega) (by decide) (by decide) hi hi hj hj e.2; omega), tcI_o hI (by omega) (by omega) (by decide) hi hj (by omega)]; exact ty i j hi hj) ?_
      refine r_aload_n 323 hX dX8_fill_322 rfl ?_
      refine r_getR 326 hX dX8_fill_323 fX8_52 rfl rfl rfl ?_
      refine r_iload 328 hX dX8_fill_326 rfl ?_
      refine r_iconst 329 hX dX8_fill_328 (v := 1) (by decide) ?_
      refine r_iadd 330 hX dX8_fill_329 ?_
      rw [nI_1]
      refine r_iload 332 hX dX8_fill_330 rfl ?_
      refine r_iconst 333 hX dX8_fill_332 (v := 0) (by decide) ?_
      refine r_iload 335 hX dX8_fill_333 rfl ?_
      refine r_iconst 336 hX dX8_fill_335 (v := 1) (by decide) ?_
      refine r_iadd 337 hX dX8_fill_336 ?_
      rw [nI_1]
      refine r_bipush 339 hX dX8_fill_337 (v := 6) (by decide) ?_
      refine r_irem 340 hX dX8_fill_339 (by decide) ?_
      rw [mx_r6 (i + 1) (by omega)]
      refine r_iload 342 hX dX8_fill_340 rfl ?_
      refine r_cS5F 345 hX hR (tX8_cell (a := a + 1) (b := b) (s := 0) (i := (i + 1) % 6) (j := j)) dX8_fill_342 kX8_cell lX8_184 rfl rfl rfl ?_
      refine r_laldV 346 hX dX8_fill_345 rfl rfl (vp_in_nI (ce_lt (a := a + 1) (b := b) (s := 0) (i := (i + 1) % 6) (j := j) (by omega) (by omega) (by decide) (by omega) hj) (by decide)) (nI_clamp (Nat.lt_trans (ce_lt (a := a + 1) (b := b) (s := 0) (i := (i + 1) % 6) (j := j) (by omega) (by omega) (by decide) (by omega) hj) (by decide))) (v := lN (X1 ((i + 1) % 6) j)) (by rw [mL_ap, if_neg (fun e => by have := ce_inj (by omega) (by omega) (by decide) (by decide) (by omega) hi hj hj e.2; omega), tcI_o hI (by omega) (by omega) (by decide) (by omega) hj (by omega)]; exact tx ((i + 1) % 6) j (by omega) hj) ?_
      refine r_cS3F 349 hX hR (tX8_mean (c := od 1 i j) (a := Y1 i j) (b := X1 ((i + 1) % 6) j) (hc _ _ _) (hy _ _) (hx _ _)) dX8_fill_346 kX8_mean lX8_188 rfl rfl rfl ?_
      refine r_lastK 350 hX dX8_fill_349 rfl rfl (vp_in_nI l1 (by decide)) (j := ceN a b 1 i j) (nI_clamp (by omega)) ?_
      refine r_iinc 353 hX dX8_fill_350 rfl (v := 1) (by decide) rfl ?_
      refine r_goto 160 hX dX8_fill_353 ?_
      rw [nI_1]
      have st := tcI_s hI (by omega) hi hj
      rw [hU0, hU1] at st
      exact ihj _ st
    · intro N hI
      show mx_WW G X 160 [.ref 46, .int g, .int x2, .int x3, .int (nI a), .int (nI b), .long (-1), .null, .int (nI i), .int 6] [] N
      refine r_iload 162 hX dX8_fill_160 rfl ?_
      refine r_bipush 164 hX dX8_fill_162 (v := 6) (by decide) ?_
      refine r_icmp_ge 167 356 hX dX8_fill_164 (fun _ => ?_) (fun c => absurd c (by decide))
      refine r_iinc 359 hX dX8_fill_356 rfl (v := 1) (by decide) rfl ?_
      refine r_goto 150 hX dX8_fill_359 ?_
      rw [nI_1]
      exact ih _ _ (tcI_i hI)
  · intro N w9 hI
    show mx_WW G X 150 [.ref 46, .int g, .int x2, .int x3, .int (nI a), .int (nI b), .long (-1), .null, .int 6, w9] [] N
    refine r_iload 152 hX dX8_fill_150 rfl ?_
    refine r_bipush 154 hX dX8_fill_152 (v := 6) (by decide) ?_
    refine r_icmp_ge 157 362 hX dX8_fill_154 (fun _ => ?_) (fun c => absurd c (by decide))
    exact hE _ _ hI

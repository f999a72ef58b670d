/-! the model's constructor, from the cells on -/
def X8M (M : mx_Mem) : mx_Mem := mst (mI (mI (mI (mI (mI (mI (mI (mI (mI (mI (mI (mI (mI (mI M 52 10 (-1)) 52 14 (-1)) 52 15 (-1)) 52 16 (-1)) 52 17 (-1)) 52 18 (-1)) 52 19 (-1)) 52 60 (-1)) 52 64 (-1)) 52 65 (-1)) 52 66 (-1)) 52 67 (-1)) 52 68 (-1)) 52 69 (-1)) 12
theorem tX8_putC {l : Launch} {G : mx_G} {M : mx_Mem} {a b v : Int32} (h : (decide (a = nI a.toNatClampNeg) && decide (b = nI b.toNatClampNeg) && decide (6 + 50 * a.toNatClampNeg + b.toNatClampNeg < 106)) = true) : mx_Met l G yX8_put cX8_put 4 none 0 0 [.ref 46, .int a, .int b, .int v] M (mx_F none (mI M 52 (6 + 50 * a.toNatClampNeg + b.toNatClampNeg) v)) := by
  simp only [Bool.and_eq_true, decide_eq_true_eq] at h
  have h9 := tX8_put (l := l) (G := G) (M := M) (v := v) (t := a.toNatClampNeg) (k := b.toNatClampNeg) rfl h.2
  rw [← h.1.1, ← h.1.2] at h9
  exact h9
set_option maxRecDepth 100000 in
set_option maxHeartbeats 4000000 in
theorem X8_tail {G : mx_G} {X : mx_X} {M : mx_Mem} (hX : mx_OK G X RX8 cX8_init 3) (hR : mx_RM X 1 31) (hT : mx_RT G X none (mx_F none (X8M M))) : mx_WW G X 203 [.ref 46, .int (nI 96), .null] [] M := by
  refine r_iconst 204 hX dX8_init_203 (v := 0) (by decide) ?_
  refine r_istore_n 205 hX dX8_init_204 rfl ?_
  refine r_iload_n 206 hX dX8_init_205 rfl ?_
  refine r_iconst 207 hX dX8_init_206 (v := 2) (by decide) ?_
  refine r_icmp_ge 210 247 hX dX8_init_207 (fun c => absurd c (by decide)) (fun _ => ?_)
  refine r_aload_n 211 hX dX8_init_210 rfl ?_
  refine r_iload_n 212 hX dX8_init_211 rfl ?_
  refine r_iconst 213 hX dX8_init_212 (v := 4) (by decide) ?_
  refine r_iconst 214 hX dX8_init_213 (v := -1) (by decide) ?_
  refine r_cV3U 217 hX hR (tX8_putC rfl) dX8_init_214 kX8_put lX8_56 rfl rfl rfl rfl rfl rfl ?_
  refine r_iconst 218 hX dX8_init_217 (v := 0) (by decide) ?_
  refine r_istore_n 219 hX dX8_init_218 rfl ?_
  refine r_iload_n 220 hX dX8_init_219 rfl ?_
  refine r_bipush 222 hX dX8_init_220 (v := 6) (by decide) ?_
  refine r_icmp_ge 225 241 hX dX8_init_222 (fun c => absurd c (by decide)) (fun _ => ?_)
  refine r_aload_n 226 hX dX8_init_225 rfl ?_
  refine r_iload_n 227 hX dX8_init_226 rfl ?_
  refine r_bipush 229 hX dX8_init_227 (v := 8) (by decide) ?_
  refine r_iload_n 230 hX dX8_init_229 rfl ?_
  refine r_iaddK 231 hX dX8_init_230 (w := 8) (by decide) ?_
  refine r_iconst 232 hX dX8_init_231 (v := -1) (by decide) ?_
  refine r_cV3U 235 hX hR (tX8_putC rfl) dX8_init_232 kX8_put lX8_56 rfl rfl rfl rfl rfl rfl ?_
  refine r_iincK 238 hX dX8_init_235 rfl (w := 1) (by decide) rfl ?_
  refine (show mx_WW G X 238 [_, _, _] _ _ from ?_)
  refine r_goto 219 hX dX8_init_238 ?_
  refine r_iload_n 220 hX dX8_init_219 rfl ?_
  refine r_bipush 222 hX dX8_init_220 (v := 6) (by decide) ?_
  refine r_icmp_ge 225 241 hX dX8_init_222 (fun c => absurd c (by decide)) (fun _ => ?_)
  refine r_aload_n 226 hX dX8_init_225 rfl ?_
  refine r_iload_n 227 hX dX8_init_226 rfl ?_
  refine r_bipush 229 hX dX8_init_227 (v := 8) (by decide) ?_
  refine r_iload_n 230 hX dX8_init_229 rfl ?_
  refine r_iaddK 231 hX dX8_init_230 (w := 9) (by decide) ?_
  refine r_iconst 232 hX dX8_init_231 (v := -1) (by decide) ?_
  refine r_cV3U 235 hX hR (tX8_putC rfl) dX8_init_232 kX8_put lX8_56 rfl rfl rfl rfl rfl rfl ?_
  refine r_iincK 238 hX dX8_init_235 rfl (w := 2) (by decide) rfl ?_
  refine r_goto 219 hX dX8_init_238 ?_
  refine r_iload_n 220 hX dX8_init_219 rfl ?_
  refine r_bipush 222 hX dX8_init_220 (v := 6) (by decide) ?_
  refine r_icmp_ge 225 241 hX dX8_init_222 (fun c => absurd c (by decide)) (fun _ => ?_)
  refine r_aload_n 226 hX dX8_init_225 rfl ?_
  refine r_iload_n 227 hX dX8_init_226 rfl ?_
  refine r_bipush 229 hX dX8_init_227 (v := 8) (by decide) ?_
  refine r_iload_n 230 hX dX8_init_229 rfl ?_
  refine r_iaddK 231 hX dX8_init_230 (w := 10) (by decide) ?_
  refine r_iconst 232 hX dX8_init_231 (v := -1) (by decide) ?_
  refine r_cV3U 235 hX hR (tX8_putC rfl) dX8_init_232 kX8_put lX8_56 rfl rfl rfl rfl rfl rfl ?_
  refine r_iincK 238 hX dX8_init_235 rfl (w := 3) (by decide) rfl ?_
  refine r_goto 219 hX dX8_init_238 ?_
  refine r_iload_n 220 hX dX8_init_219 rfl ?_
  refine r_bipush 222 hX dX8_init_220 (v := 6) (by decide) ?_
  refine r_icmp_ge 225 241 hX dX8_init_222 (fun c => absurd c (by decide)) (fun _ => ?_)
  refine r_aload_n 226 hX dX8_init_225 rfl ?_
  refine r_iload_n 227 hX dX8_init_226 rfl ?_
  refine r_bipush 229 hX dX8_init_227 (v := 8) (by decide) ?_
  refine r_iload_n 230 hX dX8_init_229 rfl ?_
  refine r_iaddK 231 hX dX8_init_230 (w := 11) (by decide) ?_
  refine r_iconst 232 hX dX8_init_231 (v := -1) (by decide) ?_
  refine r_cV3U 235 hX hR (tX8_putC rfl) dX8_init_232 kX8_put lX8_56 rfl rfl rfl rfl rfl rfl ?_
  refine r_iincK 238 hX dX8_init_235 rfl (w := 4) (by decide) rfl ?_
  refine (show mx_WW G X 238 [_, _, _] _ _ from ?_)
  refine r_goto 219 hX dX8_init_238 ?_
  refine r_iload_n 220 hX dX8_init_219 rfl ?_
  refine r_bipush 222 hX dX8_init_220 (v := 6) (by decide) ?_
  refine r_icmp_ge 225 241 hX dX8_init_222 (fun c => absurd c (by decide)) (fun _ => ?_)
  refine r_aload_n 226 hX dX8_init_225 rfl ?_
  refine r_iload_n 227 hX dX8_init_226 rfl ?_
  refine r_bipush 229 hX dX8_init_227 (v := 8) (by decide) ?_
  refine r_iload_n 230 hX dX8_init_229 rfl ?_
  refine r_iaddK 231 hX dX8_init_230 (w := 12) (by decide) ?_
  refine r_iconst 232 hX dX8_init_231 (v := -1) (by decide) ?_
  refine r_cV3U 235 hX hR (tX8_putC rfl) dX8_init_232 kX8_put lX8_56 rfl rfl rfl rfl rfl rfl ?_
  refine r_iincK 238 hX dX8_init_235 rfl (w := 5) (by decide) rfl ?_
  refine r_goto 219 hX dX8_init_238 ?_
  refine r_iload_n 220 hX dX8_init_219 rfl ?_
  refine r_bipush 222 hX dX8_init_220 (v := 6) (by decide) ?_
  refine r_icmp_ge 225 241 hX dX8_init_222 (fun c => absurd c (by decide)) (fun _ => ?_)
  refine r_aload_n 226 hX dX8_init_225 rfl ?_
  refine r_iload_n 227 hX dX8_init_226 rfl ?_
  refine r_bipush 229 hX dX8_init_227 (v := 8) (by decide) ?_
  refine r_iload_n 230 hX dX8_init_229 rfl ?_
  refine r_iaddK 231 hX dX8_init_230 (w := 13) (by decide) ?_
  refine r_iconst 232 hX dX8_init_231 (v := -1) (by decide) ?_
  refine r_cV3U 235 hX hR (tX8_putC rfl) dX8_init_232 kX8_put lX8_56 rfl rfl rfl rfl rfl rfl ?_
  refine r_iincK 238 hX dX8_init_235 rfl (w := 6) (by decide) rfl ?_
  refine r_goto 219 hX dX8_init_238 ?_
  refine r_iload_n 220 hX dX8_init_219 rfl ?_
  refine r_bipush 222 hX dX8_init_220 (v := 6) (by decide) ?_
  refine r_icmp_ge 225 241 hX dX8_init_222 (fun _ => ?_) (fun c => absurd c (by decide))
  refine r_iincK 244 hX dX8_init_241 rfl (w := 1) (by decide) rfl ?_
  refine (show mx_WW G X 244 [_, _, _] _ _ from ?_)
  refine r_goto 205 hX dX8_init_244 ?_
  refine r_iload_n 206 hX dX8_init_205 rfl ?_
  refine r_iconst 207 hX dX8_init_206 (v := 2) (by decide) ?_
  refine r_icmp_ge 210 247 hX dX8_init_207 (fun c => absurd c (by decide)) (fun _ => ?_)
  refine r_aload_n 211 hX dX8_init_210 rfl ?_
  refine r_iload_n 212 hX dX8_init_211 rfl ?_
  refine r_iconst 213 hX dX8_init_212 (v := 4) (by decide) ?_
  refine r_iconst 214 hX dX8_init_213 (v := -1) (by decide) ?_
  refine r_cV3U 217 hX hR (tX8_putC rfl) dX8_init_214 kX8_put lX8_56 rfl rfl rfl rfl rfl rfl ?_
  refine r_iconst 218 hX dX8_init_217 (v := 0) (by decide) ?_
  refine r_istore_n 219 hX dX8_init_218 rfl ?_
  refine r_iload_n 220 hX dX8_init_219 rfl ?_
  refine r_bipush 222 hX dX8_init_220 (v := 6) (by decide) ?_
  refine r_icmp_ge 225 241 hX dX8_init_222 (fun c => absurd c (by decide)) (fun _ => ?_)
  refine r_aload_n 226 hX dX8_init_225 rfl ?_
  refine r_iload_n 227 hX dX8_init_226 rfl ?_
  refine r_bipush 229 hX dX8_init_227 (v := 8) (by decide) ?_
  refine r_iload_n 230 hX dX8_init_229 rfl ?_
  refine r_iaddK 231 hX dX8_init_230 (w := 8) (by decide) ?_
  refine r_iconst 232 hX dX8_init_231 (v := -1) (by decide) ?_
  refine r_cV3U 235 hX hR (tX8_putC rfl) dX8_init_232 kX8_put lX8_56 rfl rfl rfl rfl rfl rfl ?_
  refine r_iincK 238 hX dX8_init_235 rfl (w := 1) (by decide) rfl ?_
  refine r_goto 219 hX dX8_init_238 ?_
  refine r_iload_n 220 hX dX8_init_219 rfl ?_
  refine r_bipush 222 hX dX8_init_220 (v := 6) (by decide) ?_
  refine r_icmp_ge 225 241 hX dX8_init_222 (fun c => absurd c (by decide)) (fun _ => ?_)
  refine r_aload_n 226 hX dX8_init_225 rfl ?_
  refine r_iload_n 227 hX dX8_init_226 rfl ?_
  refine r_bipush 229 hX dX8_init_227 (v := 8) (by decide) ?_
  refine r_iload_n 230 hX dX8_init_229 rfl ?_
  refine r_iaddK 231 hX dX8_init_230 (w := 9) (by decide) ?_
  refine r_iconst 232 hX dX8_init_231 (v := -1) (by decide) ?_
  refine r_cV3U 235 hX hR (tX8_putC rfl) dX8_init_232 kX8_put lX8_56 rfl rfl rfl rfl rfl rfl ?_
  refine r_iincK 238 hX dX8_init_235 rfl (w := 2) (by decide) rfl ?_
  refine (show mx_WW G X 238 [_, _, _] _ _ from ?_)
  refine r_goto 219 hX dX8_init_238 ?_
  refine r_iload_n 220 hX dX8_init_219 rfl ?_
  refine r_bipush 222 hX dX8_init_220 (v := 6) (by decide) ?_
  refine r_icmp_ge 225 241 hX dX8_init_222 (fun c => absurd c (by decide)) (fun _ => ?_)
  refine r_aload_n 226 hX dX8_init_225 rfl ?_
  refine r_iload_n 227 hX dX8_init_226 rfl ?_
  refine r_bipush 229 hX dX8_init_227 (v := 8) (by decide) ?_
  refine r_iload_n 230 hX dX8_init_229 rfl ?_
  refine r_iaddK 231 hX dX8_init_230 (w := 10) (by decide) ?_
  refine r_iconst 232 hX dX8_init_231 (v := -1) (by decide) ?_
  refine r_cV3U 235 hX hR (tX8_putC rfl) dX8_init_232 kX8_put lX8_56 rfl rfl rfl rfl rfl rfl ?_
  refine r_iincK 238 hX dX8_init_235 rfl (w := 3) (by decide) rfl ?_
  refine r_goto 219 hX dX8_init_238 ?_
  refine r_iload_n 220 hX dX8_init_219 rfl ?_
  refine r_bipush 222 hX dX8_init_220 (v := 6) (by decide) ?_
  refine r_icmp_ge 225 241 hX dX8_init_222 (fun c => absurd c (by decide)) (fun _ => ?_)
  refine r_aload_n 226 hX dX8_init_225 rfl ?_
  refine r_iload_n 227 hX dX8_init_226 rfl ?_
  refine r_bipush 229 hX dX8_init_227 (v := 8) (by decide) ?_
  refine r_iload_n 230 hX dX8_init_229 rfl ?_
  refine r_iaddK 231 hX dX8_init_230 (w := 11) (by decide) ?_
  refine r_iconst 232 hX dX8_init_231 (v := -1) (by decide) ?_
  refine r_cV3U 235 hX hR (tX8_putC rfl) dX8_init_232 kX8_put lX8_56 rfl rfl rfl rfl rfl rfl ?_
  refine r_iincK 238 hX dX8_init_235 rfl (w := 4) (by decide) rfl ?_
  refine r_goto 219 hX dX8_init_238 ?_
  refine r_iload_n 220 hX dX8_init_219 rfl ?_
  refine r_bipush 222 hX dX8_init_220 (v := 6) (by decide) ?_
  refine r_icmp_ge 225 241 hX dX8_init_222 (fun c => absurd c (by decide)) (fun _ => ?_)
  refine r_aload_n 226 hX dX8_init_225 rfl ?_
  refine r_iload_n 227 hX dX8_init_226 rfl ?_
  refine r_bipush 229 hX dX8_init_227 (v := 8) (by decide) ?_
  refine r_iload_n 230 hX dX8_init_229 rfl ?_
  refine r_iaddK 231 hX dX8_init_230 (w := 12) (by decide) ?_
  refine r_iconst 232 hX dX8_init_231 (v := -1) (by decide) ?_
  refine r_cV3U 235 hX hR (tX8_putC rfl) dX8_init_232 kX8_put lX8_56 rfl rfl rfl rfl rfl rfl ?_
  refine r_iincK 238 hX dX8_init_235 rfl (w := 5) (by decide) rfl ?_
  refine (show mx_WW G X 238 [_, _, _] _ _ from ?_)
  refine r_goto 219 hX dX8_init_238 ?_
  refine r_iload_n 220 hX dX8_init_219 rfl ?_
  refine r_bipush 222 hX dX8_init_220 (v := 6) (by decide) ?_
  refine r_icmp_ge 225 241 hX dX8_init_222 (fun c => absurd c (by decide)) (fun _ => ?_)
  refine r_aload_n 226 hX dX8_init_225 rfl ?_
  refine r_iload_n 227 hX dX8_init_226 rfl ?_
  refine r_bipush 229 hX dX8_init_227 (v := 8) (by decide) ?_
  refine r_iload_n 230 hX dX8_init_229 rfl ?_
  refine r_iaddK 231 hX dX8_init_230 (w := 13) (by decide) ?_
  refine r_iconst 232 hX dX8_init_231 (v := -1) (by decide) ?_
  refine r_cV3U 235 hX hR (tX8_putC rfl) dX8_init_232 kX8_put lX8_56 rfl rfl rfl rfl rfl rfl ?_
  refine r_iincK 238 hX dX8_init_235 rfl (w := 6) (by decide) rfl ?_
  refine r_goto 219 hX dX8_init_238 ?_
  refine r_iload_n 220 hX dX8_init_219 rfl ?_
  refine r_bipush 222 hX dX8_init_220 (v := 6) (by decide) ?_
  refine r_icmp_ge 225 241 hX dX8_init_222 (fun _ => ?_) (fun c => absurd c (by decide))
  refine r_iincK 244 hX dX8_init_241 rfl (w := 2) (by decide) rfl ?_
  refine r_goto 205 hX dX8_init_244 ?_
  refine r_iload_n 206 hX dX8_init_205 rfl ?_
  refine r_iconst 207 hX dX8_init_206 (v := 2) (by decide) ?_
  refine r_icmp_ge 210 247 hX dX8_init_207 (fun _ => ?_) (fun c => absurd c (by decide))
  refine r_aload_n 248 hX dX8_init_247 rfl ?_
  refine r_cV0U 251 hX hR tX8_stand dX8_init_248 kX8_stand lX8_60 rfl rfl rfl rfl rfl rfl ?_
  refine r_vret hX hT dX8_init_251 ?_
  exact ⟨rfl, rfl⟩
def wAll : List mk_E := wX7 ++ wX8.map (mk_sf 46)
def iV (o : Option Value) : Int32 := match o with
  | some (.int v) => v
  | _ => 0
def M00 : mx_Mem := (fun k j => match wAll.getD k (.inr (0, [])) with
  | .inl (_, _, .inl f) => f j
  | .inl (_, _, .inr _) => 0
  | .inr (_, fs) => iV fs[j]?, fun _ _ => 0)
def m0G (b n : Nat) (st : Nat → Nat) (D : va_G) (cA : FieldType → ClassId) (sN : Nat) (sX : Nat → Int32) : mx_G := (b, n, fun k => if k < 62 then b + k else st k, D, cA, sN, sX)
set_option maxRecDepth 100000 in
set_option maxHeartbeats 4000000 in
theorem wAll_at {b n : Nat} {st : Nat → Nat} {D : va_G} {cA : FieldType → ClassId} {sN : Nat} {sX : Nat → Int32} {H : Heap} (k : Nat) (hk : k < 61) (h : va_at D mx_cl (b + k, mk_r cA b (wAll.getD k (.inr (0, [])))) H) : va_at D mx_cl (mx_cell (m0G b n st D cA sN sX) M00 k) H := by
  match k, hk with
  | 0, _ => exact h
  | 1, _ => exact h
  | 2, _ => exact h
  | 3, _ => exact h
  | 4, _ => exact h
  | 5, _ => exact h
  | 6, _ => exact h
  | 7, _ => exact h
  | 8, _ => exact h
  | 9, _ => exact h
  | 10, _ => exact h
  | 11, _ => exact h
  | 12, _ => exact h
  | 13, _ => exact h
  | 14, _ => exact h
  | 15, _ => exact h
  | 16, _ => exact h
  | 17, _ => exact h
  | 18, _ => exact h
  | 19, _ => exact h
  | 20, _ => exact h
  | 21, _ => exact h
  | 22, _ => exact h
  | 23, _ => exact h
  | 24, _ => exact h
  | 25, _ => exact h
  | 26, _ => exact h
  | 27, _ => exact h
  | 28, _ => exact h
  | 29, _ => exact h
  | 30, _ => exact h
  | 31, _ => exact h
  | 32, _ => exact h
  | 33, _ => exact h
  | 34, _ => exact h
  | 35, _ => exact h
  | 36, _ => exact h
  | 37, _ => exact h
  | 38, _ => exact h
  | 39, _ => exact h
  | 40, _ => exact h
  | 41, _ => exact h
  | 42, _ => exact h
  | 43, _ =>
    refine Eq.trans h (congrArg some ?_)
    show arrV (cA (.array .int)) 2 (fun j => va_rf (some (b + (39 + (4 + 1 + j))))) = arrV (cA (.array .int)) 2 (fun j => va_rf (some (if 44 + j < 62 then b + (44 + j) else st (44 + j))))
    refine arrV_cg (fun j hj => ?_)
    show va_rf (some (b + (39 + (4 + 1 + j)))) = va_rf (some (if 44 + j < 62 then b + (44 + j) else st (44 + j)))
    rw [if_pos (by omega), show 39 + (4 + 1 + j) = 44 + j by omega]
  | 44, _ => exact h
  | 45, _ => exact h
  | 46, _ => exact h
  | 47, _ => exact h
  | 48, _ => exact h
  | 49, _ => exact h
  | 50, _ => exact h
  | 51, _ => exact h
  | 52, _ => exact h
  | 53, _ => exact h
  | 54, _ => exact h
  | 55, _ => exact h
  | 56, _ => exact h
  | 57, _ => exact h
  | 58, _ => exact h
  | 59, _ => exact h
  | 60, _ => exact h
  | k + 61, hk => exact absurd hk (by omega)
theorem wX7_len : wX7.length = 46 := by rfl
theorem wX8_len : wX8.length = 15 := by rfl
abbrev fr8 : mk_E := .inr (8, [.null, .null, .null, .null, .null, .null, .null, .null, .null, .null, .int 0, .int 0, .int 0, .int 0, .null, .null, .null, .null])
def i8Pc (b : Nat) (st : Nat → Nat) (D : va_G) (cA : FieldType → ClassId) (sN : Nat) (sX : Nat → Int32) : Array Value → State → Prop := fun v U => v = #[Value.ref (b + 46)] ∧ mx_SC (m0G b 61 st D cA sN sX) U U.heap ∧ mk_AO U ∧ U.heap.size = b + 47 ∧ va_P D mx_cl (mk_at cA b (wX7 ++ [fr8])) U.heap
theorem m0_P {b : Nat} {st : Nat → Nat} {D : va_G} {cA : FieldType → ClassId} {sN : Nat} {sX : Nat → Int32} {H0 H : Heap} (h0 : va_P D mx_cl (mk_at cA b (wX7 ++ [fr8])) H0) (hk : ∀ q, q < b + 46 → H[q]? = H0[q]?) (h8 : va_P D mx_cl (mk_at cA (b + 46) wX8) H) : va_P D mx_cl (mx_ws (m0G b 61 st D cA sN sX) M00) H := by
  intro k q hq
  obtain ⟨hk61, rfl⟩ := mx_ws_get hq
  have hk61 : k < 61 := hk61
  refine wAll_at k hk61 ?_
  by_cases h46 : k < 46
  · obtain ⟨e, he⟩ : ∃ e, wX7[k]? = some e := ⟨_, List.getElem?_eq_getElem (by rw [wX7_len]; exact h46)⟩
    have e1 : wAll.getD k (.inr (0, [])) = e := by
      rw [List.getD_eq_getElem?_getD, wAll, List.getElem?_append_left (by rw [wX7_len]; exact h46), he]
      rfl
    rw [e1]
    have h1 := h0 k _ (mk_get (by rw [List.getElem?_append_left (by rw [wX7_len]; exact h46)]; exact he))
    exact h1.kept (hk _ (by show b + k < b + 46; omega))
  · obtain ⟨e, he⟩ : ∃ e, wX8[k - 46]? = some e := ⟨_, List.getElem?_eq_getElem (by rw [wX8_len]; omega)⟩
    have e1 : wAll.getD k (.inr (0, [])) = mk_sf 46 e := by
      rw [List.getD_eq_getElem?_getD, wAll, List.getElem?_append_right (by rw [wX7_len]; omega), wX7_len, List.getElem?_map, he]
      rfl
    rw [e1, mk_sf_r, show b + k = b + 46 + (k - 46) by omega]
    exact h8 _ _ (mk_get he)
set_option maxRecDepth 100000 in
set_option maxHeartbeats 4000000 in
theorem tX8_init {l : Launch} {b : Nat} {st : Nat → Nat} {D : va_G} {cA : FieldType → ClassId} {sN : Nat} {sX : Nat → Int32} : Met l yX8_init (Cond.code yX8_init cX8_init 3 none :: mx_gW) ({ frames := 1, cells := 14, slots := 69736, locals := 31 } : Room) (i8Pc b st D cA sN sX) (mx_Qc (m0G b 61 st D cA sN sX) (mx_F none (X8M M00))) 14 69736 (mx_A (m0G b 61 st D cA sN sX)) := by
  refine Met.ofW (cc := cX8_init) (maxL := 3) (ret := none) (by decide +kernel) rfl ?_
  intro p e s m args below meth c s₁ B hml hv
  obtain ⟨rfl, hSC, hAO, hsz, hP⟩ := hv
  have hts : ∀ w ∈ Cond.code yX8_init cX8_init 3 none :: mx_gW, w.before _ s = true := atoms_spec B.pre
  have hg : ∀ w ∈ mx_gW, w.before _ s = true := fun w hw => hts w (List.mem_cons_of_mem _ hw)
  have hown : s.vm.findClass RX8 = some m.cls := findClass_of_methodNamed B.named
  have hin : meth.name = "<init>" := (name_of_methodNamed B.named B.method).1
  have hX1 : mk_OK (mk_G D cA (b + 46)) (p, l, e, (headSpec (Cond.code yX8_init cX8_init 3 none :: mx_gW) ({ frames := 1, cells := 14, slots := 69736, locals := 31 } : Room)).room, s, m, #[Value.ref (b + 46)], below, meth, c, MQ below (mx_Qc (m0G b 61 st D cA sN sX) (mx_F none (X8M M00))) #[Value.ref (b + 46)] s 14 69736 (mx_A (m0G b 61 st D cA sN sX))) RX8 cX8_init 3 :=
    ⟨B.exec, B.bytes, hml, hown, hg, hSC.1, rfl, (show b + 46 ≤ s.heap.size by omega), hAO⟩
  have ph2 := X8_tail (M := M00) (G := m0G b 61 st D cA sN sX) (X := (p, l, e, (headSpec (Cond.code yX8_init cX8_init 3 none :: mx_gW) ({ frames := 1, cells := 14, slots := 69736, locals := 31 } : Room)).room, s, m, #[Value.ref (b + 46)], below, meth, c, MQ below (mx_Qc (m0G b 61 st D cA sN sX) (mx_F none (X8M M00))) #[Value.ref (b + 46)] s 14 69736 (mx_A (m0G b 61 st D cA sN sX)), 14, 69736))
    ⟨B.exec, B.bytes, hml, hown, hg, hSC⟩ ⟨rfl, rfl, Nat.le_refl _, Nat.le_refl _⟩ ⟨B.returns, B.notSynchronized, rfl⟩
  have key := mX8_mk hX1 hin ⟨rfl, rfl, rfl, rfl⟩ rfl (fun H locs ls hz hP8 hS hl => by
    have hP8 : va_P D mx_cl (mk_at cA (b + 46) wX8) H := hP8
    have hPm : va_P D mx_cl (mx_ws (m0G b 61 st D cA sN sX) M00) H := m0_P hP (fun q hq => hS.2.1 q (by omega) (fun h => absurd (show b + 46 ≤ q from h) (by omega))) hP8
    have hS2 : va_S (mx_A (m0G b 61 st D cA sN sX)) s.heap H locs := ⟨hS.1, fun q h1 h2 => hS.2.1 q h1 (fun h3 => h2 (Nat.le_trans (Nat.le_add_right b 46) h3)), fun q hq => Nat.le_trans (Nat.le_add_right b 46) (hS.2.2 q hq)⟩
    have hl2 : mx_lh (m0G b 61 st D cA sN sX) ls [.ref 46, .int (nI 96), .null] := by
      refine ⟨hl.1, hl.2.1, fun j v hj hv => ?_⟩
      match j, hj with
      | 0, hj => cases hj; exact hl.2.2 0 (.ref 0) rfl (fun h => by cases h)
      | 1, hj => cases hj; exact hl.2.2 1 (.int (nI 96)) rfl (fun h => by cases h)
      | 2, hj => cases hj; exact absurd rfl hv
      | j + 3, hj => cases hj
    exact ph2 H locs ls hPm hS2 hl2)
  rw [lg_entry_eq]
  refine key s.heap [] _ (show b + 46 + 1 = s.heap.size + 0 by omega) ?_ va_S.rf (mx_entry (G := mk_G D cA (b + 46)) (av := [.ref 0]) (n := 3) (Nat.le_of_ble_eq_true rfl))
  intro k x hk
  obtain ⟨e9, h1, rfl⟩ := mk_got hk
  have h3 : k < 1 := (List.getElem?_eq_some_iff.mp h1).1
  rw [show k = 0 by omega] at h1 ⊢
  cases h1
  exact hP 46 _ (mk_get (e := fr8) (by rfl))

/-! the model: begin -/
def mb1 (N : mx_Mem) (B : Nat) : Nat → mx_Mem
  | 0 => N
  | n + 1 => mI (mb1 N B n) 52 (B + n) 0
def mb2 (N : mx_Mem) (B : Nat) : mx_Mem := mI (mI (mb1 N B 14) 52 (B + 1) (N.1 52 (B + 1))) 52 (B + 4) (-1)
def mb3 (N : mx_Mem) (B : Nat) : Nat → mx_Mem
  | 0 => N
  | n + 1 => mI (mI (mb3 N B n) 52 (B + (14 + n)) 0) 52 (B + (26 + n)) (-1)
def mb4 (N : mx_Mem) (B : Nat) (f : Nat → Int32) : Nat → mx_Mem
  | 0 => N
  | n + 1 => mI (mI (mb4 N B f n) 52 (B + (8 + n)) (f n)) 52 ((f n).toNatClampNeg + (B + 14)) 1
theorem mb1_ne (N : mx_Mem) (B : Nat) {k : Nat} (h : k ≠ 52) : ∀ n, (mb1 N B n).1 k = N.1 k
  | 0 => rfl
  | n + 1 => by
    funext j
    rw [mb1, mI_ne _ _ _ _ h, mb1_ne N B h n]
theorem mb3_ne (N : mx_Mem) (B : Nat) {k : Nat} (h : k ≠ 52) : ∀ n, (mb3 N B n).1 k = N.1 k
  | 0 => rfl
  | n + 1 => by
    funext j
    rw [mb3, mI_ne _ _ _ _ h, mI_ne _ _ _ _ h, mb3_ne N B h n]
theorem mb4_ne (N : mx_Mem) (B : Nat) (f : Nat → Int32) {k : Nat} (h : k ≠ 52) : ∀ n, (mb4 N B f n).1 k = N.1 k
  | 0 => rfl
  | n + 1 => by
    funext j
    rw [mb4, mI_ne _ _ _ _ h, mI_ne _ _ _ _ h, mb4_ne N B f h n]
def mbX (N : mx_Mem) (B x : Nat) : mx_Mem := mI (mb4 (mb3 (mb2 N B) B 12) B (fun k => N.1 50 (6 * x + k)) 6) 51 x 0
theorem mb2_ne (N : mx_Mem) (B : Nat) {k : Nat} (h : k ≠ 52) : (mb2 N B).1 k = N.1 k := by
  funext j
  rw [mb2, mI_ne _ _ _ _ h, mI_ne _ _ _ _ h, mb1_ne N B h]
theorem bgl1_0 {G : mx_G} {X : mx_X} {N : mx_Mem} {t s : Int32} (hX : mx_OK G X RX8 cX8_begin 5) (hR : mx_RM X 1 23) (hE : mx_WW G X 141 [.ref 46, .int t, .int 0, .int s, .int (nI 14)] [] (mb1 N 6 14)) : mx_WW G X 120 [.ref 46, .int t, .int 0, .int s, .int (nI 0)] [] N := by
  refine mx_back (P := fun i => mx_WW G X 120 [.ref 46, .int t, .int 0, .int s, .int (nI i)] [] (mb1 N 6 i)) 14 (fun i hi ih => ?_) ?_
  · show mx_WW G X 120 [.ref 46, .int t, .int 0, .int s, .int (nI i)] [] (mb1 N 6 i)
    refine r_iload 122 hX dX8_begin_120 rfl ?_
    refine r_bipush 124 hX dX8_begin_122 (v := 14) (by decide) ?_
    refine r_icmp_ge 127 141 hX dX8_begin_124 (fun c1 => absurd c1 (nI_ge (b := 14) hi (by decide))) (fun c1 => ?_)
    refine r_aload_n 128 hX dX8_begin_127 rfl ?_
    refine r_iload_n 129 hX dX8_begin_128 rfl ?_
    refine r_iload 131 hX dX8_begin_129 rfl ?_
    refine r_iconst 132 hX dX8_begin_131 (v := 0) (by decide) ?_
    refine r_cV3U 135 hX hR (tX8_put (t := 0) (k := i) (n := 6 + i) (by omega) (by omega)) dX8_begin_132 kX8_put lX8_56 rfl rfl rfl rfl rfl rfl ?_
    refine r_iinc 138 hX dX8_begin_135 rfl (v := 1) (by decide) rfl ?_
    refine r_goto 120 hX dX8_begin_138 ?_
    rw [nI_1]
    exact ih
  · show mx_WW G X 120 [.ref 46, .int t, .int 0, .int s, .int (nI 14)] [] (mb1 N 6 14)
    refine r_iload 122 hX dX8_begin_120 rfl ?_
    refine r_bipush 124 hX dX8_begin_122 (v := 14) (by decide) ?_
    refine r_icmp_ge 127 141 hX dX8_begin_124 (fun c1 => ?_) (fun c1 => absurd (show (14 : Int32) ≤ nI 14 by decide) c1)
    exact hE
theorem bgl3_0 {G : mx_G} {X : mx_X} {N : mx_Mem} {t s : Int32} (hX : mx_OK G X RX8 cX8_begin 5) (hR : mx_RM X 1 23) (hE : mx_WW G X 193 [.ref 46, .int t, .int 0, .int s, .int (nI 12)] [] (mb3 N 6 12)) : mx_WW G X 158 [.ref 46, .int t, .int 0, .int s, .int (nI 0)] [] N := by
  refine mx_back (P := fun i => mx_WW G X 158 [.ref 46, .int t, .int 0, .int s, .int (nI i)] [] (mb3 N 6 i)) 12 (fun i hi ih => ?_) ?_
  · show mx_WW G X 158 [.ref 46, .int t, .int 0, .int s, .int (nI i)] [] (mb3 N 6 i)
    have k1 : (14 : Int32) + nI i = nI (14 + i) := nI_add 14 i
    have k2 : (26 : Int32) + nI i = nI (26 + i) := nI_add 26 i
    refine r_iload 160 hX dX8_begin_158 rfl ?_
    refine r_bipush 162 hX dX8_begin_160 (v := 12) (by decide) ?_
    refine r_icmp_ge 165 193 hX dX8_begin_162 (fun c1 => absurd c1 (nI_ge (b := 12) hi (by decide))) (fun c1 => ?_)
    refine r_aload_n 166 hX dX8_begin_165 rfl ?_
    refine r_iload_n 167 hX dX8_begin_166 rfl ?_
    refine r_bipush 169 hX dX8_begin_167 (v := 14) (by decide) ?_
    refine r_iload 171 hX dX8_begin_169 rfl ?_
    refine r_iadd 172 hX dX8_begin_171 ?_
    rw [k1]
    refine r_iconst 173 hX dX8_begin_172 (v := 0) (by decide) ?_
    refine r_cV3U 176 hX hR (tX8_put (t := 0) (k := 14 + i) (n := 6 + (14 + i)) (by omega) (by omega)) dX8_begin_173 kX8_put lX8_56 rfl rfl rfl rfl rfl rfl ?_
    refine r_aload_n 177 hX dX8_begin_176 rfl ?_
    refine r_iload_n 178 hX dX8_begin_177 rfl ?_
    refine r_bipush 180 hX dX8_begin_178 (v := 26) (by decide) ?_
    refine r_iload 182 hX dX8_begin_180 rfl ?_
    refine r_iadd 183 hX dX8_begin_182 ?_
    rw [k2]
    refine r_iconst 184 hX dX8_begin_183 (v := -1) (by decide) ?_
    refine r_cV3U 187 hX hR (tX8_put (t := 0) (k := 26 + i) (n := 6 + (26 + i)) (by omega) (by omega)) dX8_begin_184 kX8_put lX8_56 rfl rfl rfl rfl rfl rfl ?_
    refine r_iinc 190 hX dX8_begin_187 rfl (v := 1) (by decide) rfl ?_
    refine r_goto 158 hX dX8_begin_190 ?_
    rw [nI_1]
    exact ih
  · show mx_WW G X 158 [.ref 46, .int t, .int 0, .int s, .int (nI 12)] [] (mb3 N 6 12)
    refine r_iload 160 hX dX8_begin_158 rfl ?_
    refine r_bipush 162 hX dX8_begin_160 (v := 12) (by decide) ?_
    refine r_icmp_ge 165 193 hX dX8_begin_162 (fun c1 => ?_) (fun c1 => absurd (show (12 : Int32) ≤ nI 12 by decide) c1)
    exact hE
theorem bgl4_0 {G : mx_G} {X : mx_X} {N : mx_Mem} {t s : Int32} (f : Nat → Int32) (hf : ∀ k : Nat, k < 6 → isP (f k)) (hN : ∀ k, N.1 50 (0 + k) = f k) (hX : mx_OK G X RX8 cX8_begin 5) (hR : mx_RM X 1 23) (hE : mx_WW G X 252 [.ref 46, .int t, .int 0, .int s, .int (nI 6)] [] (mb4 N 6 f 6)) : mx_WW G X 196 [.ref 46, .int t, .int 0, .int s, .int (nI 0)] [] N := by
  refine mx_back (P := fun i => mx_WW G X 196 [.ref 46, .int t, .int 0, .int s, .int (nI i)] [] (mb4 N 6 f i)) 6 (fun i hi ih => ?_) ?_
  · show mx_WW G X 196 [.ref 46, .int t, .int 0, .int s, .int (nI i)] [] (mb4 N 6 f i)
    have k1 : (8 : Int32) + nI i = nI (8 + i) := nI_add 8 i
    have k2 : (0 : Int32) + nI i = nI (0 + i) := nI_add 0 i
    have g1 : (mb4 N 6 f i).1 50 (0 + i) = f i := by rw [mb4_ne N 6 f (by decide)]; exact hN i
    have g2 : (mI (mb4 N 6 f i) 52 (6 + (8 + i)) (f i)).1 50 (0 + i) = f i := by rw [mI_ne _ _ _ _ (by decide)]; exact g1
    refine r_iload 198 hX dX8_begin_196 rfl ?_
    refine r_bipush 200 hX dX8_begin_198 (v := 6) (by decide) ?_
    refine r_icmp_ge 203 252 hX dX8_begin_200 (fun c1 => absurd c1 (nI_ge (b := 6) hi (by decide))) (fun c1 => ?_)
    refine r_aload_n 204 hX dX8_begin_203 rfl ?_
    refine r_iload_n 205 hX dX8_begin_204 rfl ?_
    refine r_bipush 207 hX dX8_begin_205 (v := 8) (by decide) ?_
    refine r_iload 209 hX dX8_begin_207 rfl ?_
    refine r_iadd 210 hX dX8_begin_209 ?_
    rw [k1]
    refine r_aload_n 211 hX dX8_begin_210 rfl ?_
    refine r_getR 214 hX dX8_begin_211 fX8_19 rfl rfl rfl ?_
    refine r_bipush 216 hX dX8_begin_214 (v := 6) (by decide) ?_
    refine r_iload_n 217 hX dX8_begin_216 rfl ?_
    refine r_imulK 218 hX dX8_begin_217 (w := 0) (by decide) ?_
    refine r_iload 220 hX dX8_begin_218 rfl ?_
    refine r_iadd 221 hX dX8_begin_220 ?_
    rw [k2]
    refine r_ialdV 222 hX dX8_begin_221 rfl rfl (vp_in_nI (show 0 + i < 12 by omega) (by decide)) (nI_clamp (by omega)) (v := f i) g1 ?_
    refine r_cV3U 225 hX hR (tX8_put (t := 0) (k := 8 + i) (n := 6 + (8 + i)) (by omega) (by omega)) dX8_begin_222 kX8_put lX8_56 rfl rfl rfl rfl rfl rfl ?_
    refine r_aload_n 226 hX dX8_begin_225 rfl ?_
    refine r_iload_n 227 hX dX8_begin_226 rfl ?_
    refine r_bipush 229 hX dX8_begin_227 (v := 14) (by decide) ?_
    refine r_aload_n 230 hX dX8_begin_229 rfl ?_
    refine r_getR 233 hX dX8_begin_230 fX8_19 rfl rfl rfl ?_
    refine r_bipush 235 hX dX8_begin_233 (v := 6) (by decide) ?_
    refine r_iload_n 236 hX dX8_begin_235 rfl ?_
    refine r_imulK 237 hX dX8_begin_236 (w := 0) (by decide) ?_
    refine r_iload 239 hX dX8_begin_237 rfl ?_
    refine r_iadd 240 hX dX8_begin_239 ?_
    rw [k2]
    refine r_ialdV 241 hX dX8_begin_240 rfl rfl (vp_in_nI (show 0 + i < 12 by omega) (by decide)) (nI_clamp (by omega)) (v := f i) g2 ?_
    refine r_iadd 242 hX dX8_begin_241 ?_
    refine r_iconst 243 hX dX8_begin_242 (v := 1) (by decide) ?_
    refine r_cV3U 246 hX hR (tX8_putV 0 14 20 12 rfl (by decide) (vpP (hf i hi))) dX8_begin_243 kX8_put lX8_56 rfl rfl rfl rfl rfl rfl ?_
    refine r_iinc 249 hX dX8_begin_246 rfl (v := 1) (by decide) rfl ?_
    refine r_goto 196 hX dX8_begin_249 ?_
    rw [nI_1]
    exact ih
  · show mx_WW G X 196 [.ref 46, .int t, .int 0, .int s, .int (nI 6)] [] (mb4 N 6 f 6)
    refine r_iload 198 hX dX8_begin_196 rfl ?_
    refine r_bipush 200 hX dX8_begin_198 (v := 6) (by decide) ?_
    refine r_icmp_ge 203 252 hX dX8_begin_200 (fun c1 => ?_) (fun c1 => absurd (show (6 : Int32) ≤ nI 6 by decide) c1)
    exact hE
theorem bgz_0 {G : mx_G} {X : mx_X} {N : mx_Mem} {t s : Int32} (hX : mx_OK G X RX8 cX8_begin 5) (hR : mx_RM X 1 23) (hE : mx_WW G X 105 [.ref 46, .int t, .int 1, .int s, .int (nI 6)] [] (mI N 51 0 0)) : mx_WW G X 252 [.ref 46, .int t, .int 0, .int s, .int (nI 6)] [] N := by
  refine r_aload_n 253 hX dX8_begin_252 rfl ?_
  refine r_getR 256 hX dX8_begin_253 fX8_22 rfl rfl rfl ?_
  refine r_iload_n 257 hX dX8_begin_256 rfl ?_
  refine r_iconst 258 hX dX8_begin_257 (v := 0) (by decide) ?_
  refine r_zastK 259 hX dX8_begin_258 rfl rfl (vpK rfl) (j := 0) (by decide) (y := 0) (by decide) ?_
  refine r_iincK 262 hX dX8_begin_259 rfl (w := 1) (by decide) rfl ?_
  refine r_goto 105 hX dX8_begin_262 ?_
  exact hE
theorem bgy_0 {G : mx_G} {X : mx_X} {N : mx_Mem} {t : Int32} (hf : ∀ k : Nat, k < 6 → isP (N.1 50 (0 + k))) (hX : mx_OK G X RX8 cX8_begin 5) (hR : mx_RM X 1 23) (hE : ∀ s : Int32, mx_WW G X 105 [.ref 46, .int t, .int 1, .int s, .int (nI 6)] [] (mbX N 6 0)) : mx_WW G X 141 [.ref 46, .int t, .int 0, .int (N.1 52 7), .int (nI 14)] [] (mb1 N 6 14) := by
  have hm : (mb3 (mb2 N 6) 6 12).1 50 = N.1 50 := by rw [mb3_ne _ _ (by decide), mb2_ne _ _ (by decide)]
  refine r_aload_n 142 hX dX8_begin_141 rfl ?_
  refine r_iload_n 143 hX dX8_begin_142 rfl ?_
  refine r_iconst 144 hX dX8_begin_143 (v := 1) (by decide) ?_
  refine r_iload_n 145 hX dX8_begin_144 rfl ?_
  refine r_cV3U 148 hX hR (tX8_put (t := 0) (k := 1) (n := 7) rfl (by decide)) dX8_begin_145 kX8_put lX8_56 rfl rfl rfl rfl rfl rfl ?_
  refine r_aload_n 149 hX dX8_begin_148 rfl ?_
  refine r_iload_n 150 hX dX8_begin_149 rfl ?_
  refine r_iconst 151 hX dX8_begin_150 (v := 4) (by decide) ?_
  refine r_iconst 152 hX dX8_begin_151 (v := -1) (by decide) ?_
  refine r_cV3U 155 hX hR (tX8_put (t := 0) (k := 4) (n := 10) rfl (by decide)) dX8_begin_152 kX8_put lX8_56 rfl rfl rfl rfl rfl rfl ?_
  refine r_iconst 156 hX dX8_begin_155 (v := 0) (by decide) ?_
  refine r_istore 158 hX dX8_begin_156 rfl ?_
  refine bgl3_0 (N := mb2 N 6) hX hR ?_
  refine r_iconst 194 hX dX8_begin_193 (v := 0) (by decide) ?_
  refine r_istore 196 hX dX8_begin_194 rfl ?_
  refine bgl4_0 (N := mb3 (mb2 N 6) 6 12) (fun k => N.1 50 (0 + k)) hf (fun k => by rw [hm]) hX hR ?_
  exact bgz_0 hX hR (hE _)
theorem bgx_0 {G : mx_G} {X : mx_X} {N : mx_Mem} {t : Int32} {v3 v4 : Value} (hf : ∀ k : Nat, k < 6 → isP (N.1 50 (0 + k))) (hX : mx_OK G X RX8 cX8_begin 5) (hR : mx_RM X 1 23) (hE : ∀ s : Int32, mx_WW G X 105 [.ref 46, .int t, .int 1, .int s, .int (nI 6)] [] (mbX N 6 0)) : mx_WW G X 110 [.ref 46, .int t, .int 0, v3, v4] [] N := by
  refine r_aload_n 111 hX dX8_begin_110 rfl ?_
  refine r_iload_n 112 hX dX8_begin_111 rfl ?_
  refine r_iconst 113 hX dX8_begin_112 (v := 1) (by decide) ?_
  refine r_cV2F 116 hX hR (tX8_get (t := 0) (k := 1) (n := 7) rfl (by decide)) dX8_begin_113 kX8_get lX8_95 rfl rfl rfl rfl rfl rfl ?_
  refine r_istore_n 117 hX dX8_begin_116 rfl ?_
  refine r_iconst 118 hX dX8_begin_117 (v := 0) (by decide) ?_
  refine r_istore 120 hX dX8_begin_118 rfl ?_
  refine bgl1_0 hX hR ?_
  exact bgy_0 hf hX hR hE
theorem bgl1_1 {G : mx_G} {X : mx_X} {N : mx_Mem} {t s : Int32} (hX : mx_OK G X RX8 cX8_begin 5) (hR : mx_RM X 1 23) (hE : mx_WW G X 141 [.ref 46, .int t, .int 1, .int s, .int (nI 14)] [] (mb1 N 56 14)) : mx_WW G X 120 [.ref 46, .int t, .int 1, .int s, .int (nI 0)] [] N := by
  refine mx_back (P := fun i => mx_WW G X 120 [.ref 46, .int t, .int 1, .int s, .int (nI i)] [] (mb1 N 56 i)) 14 (fun i hi ih => ?_) ?_
  · show mx_WW G X 120 [.ref 46, .int t, .int 1, .int s, .int (nI i)] [] (mb1 N 56 i)
    refine r_iload 122 hX dX8_begin_120 rfl ?_
    refine r_bipush 124 hX dX8_begin_122 (v := 14) (by decide) ?_
    refine r_icmp_ge 127 141 hX dX8_begin_124 (fun c1 => absurd c1 (nI_ge (b := 14) hi (by decide))) (fun c1 => ?_)
    refine r_aload_n 128 hX dX8_begin_127 rfl ?_
    refine r_iload_n 129 hX dX8_begin_128 rfl ?_
    refine r_iload 131 hX dX8_begin_129 rfl ?_
    refine r_iconst 132 hX dX8_begin_131 (v := 0) (by decide) ?_
    refine r_cV3U 135 hX hR (tX8_put (t := 1) (k := i) (n := 56 + i) (by omega) (by omega)) dX8_begin_132 kX8_put lX8_56 rfl rfl rfl rfl rfl rfl ?_
    refine r_iinc 138 hX dX8_begin_135 rfl (v := 1) (by decide) rfl ?_
    refine r_goto 120 hX dX8_begin_138 ?_
    rw [nI_1]
    exact ih
  · show mx_WW G X 120 [.ref 46, .int t, .int 1, .int s, .int (nI 14)] [] (mb1 N 56 14)
    refine r_iload 122 hX dX8_begin_120 rfl ?_
    refine r_bipush 124 hX dX8_begin_122 (v := 14) (by decide) ?_
    refine r_icmp_ge 127 141 hX dX8_begin_124 (fun c1 => ?_) (fun c1 => absurd (show (14 : Int32) ≤ nI 14 by decide) c1)
    exact hE
theorem bgl3_1 {G : mx_G} {X : mx_X} {N : mx_Mem} {t s : Int32} (hX : mx_OK G X RX8 cX8_begin 5) (hR : mx_RM X 1 23) (hE : mx_WW G X 193 [.ref 46, .int t, .int 1, .int s, .int (nI 12)] [] (mb3 N 56 12)) : mx_WW G X 158 [.ref 46, .int t, .int 1, .int s, .int (nI 0)] [] N := by
  refine mx_back (P := fun i => mx_WW G X 158 [.ref 46, .int t, .int 1, .int s, .int (nI i)] [] (mb3 N 56 i)) 12 (fun i hi ih => ?_) ?_
  · show mx_WW G X 158 [.ref 46, .int t, .int 1, .int s, .int (nI i)] [] (mb3 N 56 i)
    have k1 : (14 : Int32) + nI i = nI (14 + i) := nI_add 14 i
    have k2 : (26 : Int32) + nI i = nI (26 + i) := nI_add 26 i
    refine r_iload 160 hX dX8_begin_158 rfl ?_
    refine r_bipush 162 hX dX8_begin_160 (v := 12) (by decide) ?_
    refine r_icmp_ge 165 193 hX dX8_begin_162 (fun c1 => absurd c1 (nI_ge (b := 12) hi (by decide))) (fun c1 => ?_)
    refine r_aload_n 166 hX dX8_begin_165 rfl ?_
    refine r_iload_n 167 hX dX8_begin_166 rfl ?_
    refine r_bipush 169 hX dX8_begin_167 (v := 14) (by decide) ?_
    refine r_iload 171 hX dX8_begin_169 rfl ?_
    refine r_iadd 172 hX dX8_begin_171 ?_
    rw [k1]
    refine r_iconst 173 hX dX8_begin_172 (v := 0) (by decide) ?_
    refine r_cV3U 176 hX hR (tX8_put (t := 1) (k := 14 + i) (n := 56 + (14 + i)) (by omega) (by omega)) dX8_begin_173 kX8_put lX8_56 rfl rfl rfl rfl rfl rfl ?_
    refine r_aload_n 177 hX dX8_begin_176 rfl ?_
    refine r_iload_n 178 hX dX8_begin_177 rfl ?_
    refine r_bipush 180 hX dX8_begin_178 (v := 26) (by decide) ?_
    refine r_iload 182 hX dX8_begin_180 rfl ?_
    refine r_iadd 183 hX dX8_begin_182 ?_
    rw [k2]
    refine r_iconst 184 hX dX8_begin_183 (v := -1) (by decide) ?_
    refine r_cV3U 187 hX hR (tX8_put (t := 1) (k := 26 + i) (n := 56 + (26 + i)) (by omega) (by omega)) dX8_begin_184 kX8_put lX8_56 rfl rfl rfl rfl rfl rfl ?_
    refine r_iinc 190 hX dX8_begin_187 rfl (v := 1) (by decide) rfl ?_
    refine r_goto 158 hX dX8_begin_190 ?_
    rw [nI_1]
    exact ih
  · show mx_WW G X 158 [.ref 46, .int t, .int 1, .int s, .int (nI 12)] [] (mb3 N 56 12)
    refine r_iload 160 hX dX8_begin_158 rfl ?_
    refine r_bipush 162 hX dX8_begin_160 (v := 12) (by decide) ?_
    refine r_icmp_ge 165 193 hX dX8_begin_162 (fun c1 => ?_) (fun c1 => absurd (show (12 : Int32) ≤ nI 12 by decide) c1)
    exact hE
theorem bgl4_1 {G : mx_G} {X : mx_X} {N : mx_Mem} {t s : Int32} (f : Nat → Int32) (hf : ∀ k : Nat, k < 6 → isP (f k)) (hN : ∀ k, N.1 50 (6 + k) = f k) (hX : mx_OK G X RX8 cX8_begin 5) (hR : mx_RM X 1 23) (hE : mx_WW G X 252 [.ref 46, .int t, .int 1, .int s, .int (nI 6)] [] (mb4 N 56 f 6)) : mx_WW G X 196 [.ref 46, .int t, .int 1, .int s, .int (nI 0)] [] N := by
  refine mx_back (P := fun i => mx_WW G X 196 [.ref 46, .int t, .int 1, .int s, .int (nI i)] [] (mb4 N 56 f i)) 6 (fun i hi ih => ?_) ?_
  · show mx_WW G X 196 [.ref 46, .int t, .int 1, .int s, .int (nI i)] [] (mb4 N 56 f i)
    have k1 : (8 : Int32) + nI i = nI (8 + i) := nI_add 8 i
    have k2 : (6 : Int32) + nI i = nI (6 + i) := nI_add 6 i
    have g1 : (mb4 N 56 f i).1 50 (6 + i) = f i := by rw [mb4_ne N 56 f (by decide)]; exact hN i
    have g2 : (mI (mb4 N 56 f i) 52 (56 + (8 + i)) (f i)).1 50 (6 + i) = f i := by rw [mI_ne _ _ _ _ (by decide)]; exact g1
    refine r_iload 198 hX dX8_begin_196 rfl ?_
    refine r_bipush 200 hX dX8_begin_198 (v := 6) (by decide) ?_
    refine r_icmp_ge 203 252 hX dX8_begin_200 (fun c1 => absurd c1 (nI_ge (b := 6) hi (by decide))) (fun c1 => ?_)
    refine r_aload_n 204 hX dX8_begin_203 rfl ?_
    refine r_iload_n 205 hX dX8_begin_204 rfl ?_
    refine r_bipush 207 hX dX8_begin_205 (v := 8) (by decide) ?_
    refine r_iload 209 hX dX8_begin_207 rfl ?_
    refine r_iadd 210 hX dX8_begin_209 ?_
    rw [k1]
    refine r_aload_n 211 hX dX8_begin_210 rfl ?_
    refine r_getR 214 hX dX8_begin_211 fX8_19 rfl rfl rfl ?_
    refine r_bipush 216 hX dX8_begin_214 (v := 6) (by decide) ?_
    refine r_iload_n 217 hX dX8_begin_216 rfl ?_
    refine r_imulK 218 hX dX8_begin_217 (w := 6) (by decide) ?_
    refine r_iload 220 hX dX8_begin_218 rfl ?_
    refine r_iadd 221 hX dX8_begin_220 ?_
    rw [k2]
    refine r_ialdV 222 hX dX8_begin_221 rfl rfl (vp_in_nI (show 6 + i < 12 by omega) (by decide)) (nI_clamp (by omega)) (v := f i) g1 ?_
    refine r_cV3U 225 hX hR (tX8_put (t := 1) (k := 8 + i) (n := 56 + (8 + i)) (by omega) (by omega)) dX8_begin_222 kX8_put lX8_56 rfl rfl rfl rfl rfl rfl ?_
    refine r_aload_n 226 hX dX8_begin_225 rfl ?_
    refine r_iload_n 227 hX dX8_begin_226 rfl ?_
    refine r_bipush 229 hX dX8_begin_227 (v := 14) (by decide) ?_
    refine r_aload_n 230 hX dX8_begin_229 rfl ?_
    refine r_getR 233 hX dX8_begin_230 fX8_19 rfl rfl rfl ?_
    refine r_bipush 235 hX dX8_begin_233 (v := 6) (by decide) ?_
    refine r_iload_n 236 hX dX8_begin_235 rfl ?_
    refine r_imulK 237 hX dX8_begin_236 (w := 6) (by decide) ?_
    refine r_iload 239 hX dX8_begin_237 rfl ?_
    refine r_iadd 240 hX dX8_begin_239 ?_
    rw [k2]
    refine r_ialdV 241 hX dX8_begin_240 rfl rfl (vp_in_nI (show 6 + i < 12 by omega) (by decide)) (nI_clamp (by omega)) (v := f i) g2 ?_
    refine r_iadd 242 hX dX8_begin_241 ?_
    refine r_iconst 243 hX dX8_begin_242 (v := 1) (by decide) ?_
    refine r_cV3U 246 hX hR (tX8_putV 1 14 70 12 rfl (by decide) (vpP (hf i hi))) dX8_begin_243 kX8_put lX8_56 rfl rfl rfl rfl rfl rfl ?_
    refine r_iinc 249 hX dX8_begin_246 rfl (v := 1) (by decide) rfl ?_
    refine r_goto 196 hX dX8_begin_249 ?_
    rw [nI_1]
    exact ih
  · show mx_WW G X 196 [.ref 46, .int t, .int 1, .int s, .int (nI 6)] [] (mb4 N 56 f 6)
    refine r_iload 198 hX dX8_begin_196 rfl ?_
    refine r_bipush 200 hX dX8_begin_198 (v := 6) (by decide) ?_
    refine r_icmp_ge 203 252 hX dX8_begin_200 (fun c1 => ?_) (fun c1 => absurd (show (6 : Int32) ≤ nI 6 by decide) c1)
    exact hE
theorem bgz_1 {G : mx_G} {X : mx_X} {N : mx_Mem} {t s : Int32} (hX : mx_OK G X RX8 cX8_begin 5) (hR : mx_RM X 1 23) (hE : mx_WW G X 105 [.ref 46, .int t, .int 2, .int s, .int (nI 6)] [] (mI N 51 1 0)) : mx_WW G X 252 [.ref 46, .int t, .int 1, .int s, .int (nI 6)] [] N := by
  refine r_aload_n 253 hX dX8_begin_252 rfl ?_
  refine r_getR 256 hX dX8_begin_253 fX8_22 rfl rfl rfl ?_
  refine r_iload_n 257 hX dX8_begin_256 rfl ?_
  refine r_iconst 258 hX dX8_begin_257 (v := 0) (by decide) ?_
  refine r_zastK 259 hX dX8_begin_258 rfl rfl (vpK rfl) (j := 1) (by decide) (y := 0) (by decide) ?_
  refine r_iincK 262 hX dX8_begin_259 rfl (w := 2) (by decide) rfl ?_
  refine r_goto 105 hX dX8_begin_262 ?_
  exact hE
theorem bgy_1 {G : mx_G} {X : mx_X} {N : mx_Mem} {t : Int32} (hf : ∀ k : Nat, k < 6 → isP (N.1 50 (6 + k))) (hX : mx_OK G X RX8 cX8_begin 5) (hR : mx_RM X 1 23) (hE : ∀ s : Int32, mx_WW G X 105 [.ref 46, .int t, .int 2, .int s, .int (nI 6)] [] (mbX N 56 1)) : mx_WW G X 141 [.ref 46, .int t, .int 1, .int (N.1 52 57), .int (nI 14)] [] (mb1 N 56 14) := by
  have hm : (mb3 (mb2 N 56) 56 12).1 50 = N.1 50 := by rw [mb3_ne _ _ (by decide), mb2_ne _ _ (by decide)]
  refine r_aload_n 142 hX dX8_begin_141 rfl ?_
  refine r_iload_n 143 hX dX8_begin_142 rfl ?_
  refine r_iconst 144 hX dX8_begin_143 (v := 1) (by decide) ?_
  refine r_iload_n 145 hX dX8_begin_144 rfl ?_
  refine r_cV3U 148 hX hR (tX8_put (t := 1) (k := 1) (n := 57) rfl (by decide)) dX8_begin_145 kX8_put lX8_56 rfl rfl rfl rfl rfl rfl ?_
  refine r_aload_n 149 hX dX8_begin_148 rfl ?_
  refine r_iload_n 150 hX dX8_begin_149 rfl ?_
  refine r_iconst 151 hX dX8_begin_150 (v := 4) (by decide) ?_
  refine r_iconst 152 hX dX8_begin_151 (v := -1) (by decide) ?_
  refine r_cV3U 155 hX hR (tX8_put (t := 1) (k := 4) (n := 60) rfl (by decide)) dX8_begin_152 kX8_put lX8_56 rfl rfl rfl rfl rfl rfl ?_
  refine r_iconst 156 hX dX8_begin_155 (v := 0) (by decide) ?_
  refine r_istore 158 hX dX8_begin_156 rfl ?_
  refine bgl3_1 (N := mb2 N 56) hX hR ?_
  refine r_iconst 194 hX dX8_begin_193 (v := 0) (by decide) ?_
  refine r_istore 196 hX dX8_begin_194 rfl ?_
  refine bgl4_1 (N := mb3 (mb2 N 56) 56 12) (fun k => N.1 50 (6 + k)) hf (fun k => by rw [hm]) hX hR ?_
  exact bgz_1 hX hR (hE _)
theorem bgx_1 {G : mx_G} {X : mx_X} {N : mx_Mem} {t : Int32} {v3 v4 : Value} (hf : ∀ k : Nat, k < 6 → isP (N.1 50 (6 + k))) (hX : mx_OK G X RX8 cX8_begin 5) (hR : mx_RM X 1 23) (hE : ∀ s : Int32, mx_WW G X 105 [.ref 46, .int t, .int 2, .int s, .int (nI 6)] [] (mbX N 56 1)) : mx_WW G X 110 [.ref 46, .int t, .int 1, v3, v4] [] N := by
  refine r_aload_n 111 hX dX8_begin_110 rfl ?_
  refine r_iload_n 112 hX dX8_begin_111 rfl ?_
  refine r_iconst 113 hX dX8_begin_112 (v := 1) (by decide) ?_
  refine r_cV2F 116 hX hR (tX8_get (t := 1) (k := 1) (n := 57) rfl (by decide)) dX8_begin_113 kX8_get lX8_95 rfl rfl rfl rfl rfl rfl ?_
  refine r_istore_n 117 hX dX8_begin_116 rfl ?_
  refine r_iconst 118 hX dX8_begin_117 (v := 0) (by decide) ?_
  refine r_istore 120 hX dX8_begin_118 rfl ?_
  refine bgl1_1 hX hR ?_
  exact bgy_1 hf hX hR hE
abbrev mrd6 (M : mx_Mem) (x : Nat) : Prop := ∃ k : Nat, k < 6 ∧ M.1 50 (6 * x + k) = M.1 48 x
def mbC (M : mx_Mem) : Prop := (¬ M.1 52 1 = 1 ∧ M.1 52 4 = -1) ∧ (¬ M.1 51 0 = 0 ∧ ¬ M.1 51 1 = 0) ∧ (¬ ∃ k : Nat, k < 6 ∧ M.1 50 (0 + k) = M.1 48 0) ∧ ¬ ∃ k : Nat, k < 6 ∧ M.1 50 (6 + k) = M.1 48 1
def mbH (M : mx_Mem) (t : Int32) : mx_Mem := mI (mI (mI (mI (mI (th0 M) 52 0 (M.1 52 0 + 1)) 52 1 1) 52 2 t) 52 3 0) 52 5 (-1)
def mbM (M : mx_Mem) (t : Int32) : mx_Mem := mst (mbX (mbX (mbH M t) 6 0) 56 1) 12
set_option maxRecDepth 100000 in
set_option maxHeartbeats 4000000 in
theorem tX8_begin_0 {l : Launch} {G : mx_G} {M : mx_Mem} (hp0 : ¬ M.1 51 0 = 0 → ∀ k : Nat, k < 6 → isP (M.1 50 (0 + k))) (hp1 : ¬ M.1 51 1 = 0 → ∀ k : Nat, k < 6 → isP (M.1 50 (6 + k))) : mx_Met l G yX8_begin cX8_begin 5 ((some FieldType.int)) 1 23 [.ref 46, .int 0] M (fun r M' => (mbC M ∧ r = some (.int ((mbM M 0).1 52 0)) ∧ M' = mbM M 0) ∨ (¬ mbC M ∧ r = some (.int (-1)) ∧ M' = th0 M)) := by
  refine mx_enter (own := RX8) (L := [.ref 46, .int 0, .null, .null, .null]) (by decide +kernel) rfl rfl rfl ?_
  intro X hlX hX hR hT
  refine r_aload_n 1 hX dX8_begin_0 rfl ?_
  refine r_iconst 2 hX dX8_begin_1 (v := 0) (by decide) ?_
  refine r_putI 5 hX dX8_begin_2 fX8_63 fp8_13 rfl rfl rfl ?_
  refine r_iload_n 6 hX dX8_begin_5 rfl ?_
  refine r_cS1F 9 hX hR tX8_isTeam_0 dX8_begin_6 kX8_isTeam lX8_71 rfl rfl rfl ?_
  refine r_if_eq 12 63 hX dX8_begin_9 (fun c => absurd c (by decide)) (fun _ => ?_)
  refine r_aload_n 13 hX dX8_begin_12 rfl ?_
  refine r_cV0F 16 hX hR tX8_isOn dX8_begin_13 kX8_isOn lX8_82 rfl rfl rfl rfl rfl rfl ?_
  refine r_Bne 19 63 hX dX8_begin_16 (fun c1 => ?_) (fun c1 => ?_)
  · refine r_iconst 64 hX dX8_begin_63 (v := -1) (by decide) ?_
    refine r_iret hX hT dX8_begin_64 ?_
    clear hT hX hR hlX
    exact Or.inr ⟨fun h => by obtain ⟨⟨h1, h2⟩, ⟨h3, h4⟩, h5, h6⟩ := h; first | exact h1 c1 | exact c2 h2 | exact h3 c3 | exact h4 c4 | exact h5 c5 | exact h6 c6, rfl, rfl⟩
  · refine r_aload_n 20 hX dX8_begin_19 rfl ?_
    refine r_getR 23 hX dX8_begin_20 fX8_26 rfl rfl rfl ?_
    refine r_iconst 24 hX dX8_begin_23 (v := 4) (by decide) ?_
    refine r_ialdK 25 hX dX8_begin_24 rfl rfl (vpK rfl) (j := 4) (by decide) ?_
    refine r_iconst 26 hX dX8_begin_25 (v := -1) (by decide) ?_
    refine r_icmp_ne 29 63 hX dX8_begin_26 (fun c2 => ?_) (fun c2 => ?_)
    · refine r_iconst 64 hX dX8_begin_63 (v := -1) (by decide) ?_
      refine r_iret hX hT dX8_begin_64 ?_
      clear hT hX hR hlX
      exact Or.inr ⟨fun h => by obtain ⟨⟨h1, h2⟩, ⟨h3, h4⟩, h5, h6⟩ := h; first | exact h1 c1 | exact c2 h2 | exact h3 c3 | exact h4 c4 | exact h5 c5 | exact h6 c6, rfl, rfl⟩
    · refine r_aload_n 30 hX dX8_begin_29 rfl ?_
      refine r_getR 33 hX dX8_begin_30 fX8_22 rfl rfl rfl ?_
      refine r_iconst 34 hX dX8_begin_33 (v := 0) (by decide) ?_
      refine r_zaldK 35 hX dX8_begin_34 rfl rfl (vpK rfl) (j := 0) (by decide) ?_
      refine r_if_eq 38 63 hX dX8_begin_35 (fun c3 => ?_) (fun c3 => ?_)
      · refine r_iconst 64 hX dX8_begin_63 (v := -1) (by decide) ?_
        refine r_iret hX hT dX8_begin_64 ?_
        clear hT hX hR hlX
        exact Or.inr ⟨fun h => by obtain ⟨⟨h1, h2⟩, ⟨h3, h4⟩, h5, h6⟩ := h; first | exact h1 c1 | exact c2 h2 | exact h3 c3 | exact h4 c4 | exact h5 c5 | exact h6 c6, rfl, rfl⟩
      · refine r_aload_n 39 hX dX8_begin_38 rfl ?_
        refine r_getR 42 hX dX8_begin_39 fX8_22 rfl rfl rfl ?_
        refine r_iconst 43 hX dX8_begin_42 (v := 1) (by decide) ?_
        refine r_zaldK 44 hX dX8_begin_43 rfl rfl (vpK rfl) (j := 1) (by decide) ?_
        refine r_if_eq 47 63 hX dX8_begin_44 (fun c4 => ?_) (fun c4 => ?_)
        · refine r_iconst 64 hX dX8_begin_63 (v := -1) (by decide) ?_
          refine r_iret hX hT dX8_begin_64 ?_
          clear hT hX hR hlX
          exact Or.inr ⟨fun h => by obtain ⟨⟨h1, h2⟩, ⟨h3, h4⟩, h5, h6⟩ := h; first | exact h1 c1 | exact c2 h2 | exact h3 c3 | exact h4 c4 | exact h5 c5 | exact h6 c6, rfl, rfl⟩
        · refine r_aload_n 48 hX dX8_begin_47 rfl ?_
          refine r_iconst 49 hX dX8_begin_48 (v := 0) (by decide) ?_
          refine r_cV1F 52 hX hR tX8_hasFree_0 dX8_begin_49 kX8_hasFree lX8_92 rfl rfl rfl rfl rfl rfl ?_
          refine r_Bne 55 63 hX dX8_begin_52 (fun c5 => ?_) (fun c5 => ?_)
          · refine r_iconst 64 hX dX8_begin_63 (v := -1) (by decide) ?_
            refine r_iret hX hT dX8_begin_64 ?_
            clear hT hX hR hlX
            exact Or.inr ⟨fun h => by obtain ⟨⟨h1, h2⟩, ⟨h3, h4⟩, h5, h6⟩ := h; first | exact h1 c1 | exact c2 h2 | exact h3 c3 | exact h4 c4 | exact h5 c5 | exact h6 c6, rfl, rfl⟩
          · refine r_aload_n 56 hX dX8_begin_55 rfl ?_
            refine r_iconst 57 hX dX8_begin_56 (v := 1) (by decide) ?_
            refine r_cV1F 60 hX hR tX8_hasFree_1 dX8_begin_57 kX8_hasFree lX8_92 rfl rfl rfl rfl rfl rfl ?_
            refine r_Beq 63 65 hX dX8_begin_60 (fun c6 => ?_) (fun c6 => ?_)
            · refine r_aload_n 66 hX dX8_begin_65 rfl ?_
              refine r_getR 69 hX dX8_begin_66 fX8_26 rfl rfl rfl ?_
              refine r_iconst 70 hX dX8_begin_69 (v := 0) (by decide) ?_
              refine r_dup2 71 hX dX8_begin_70 rfl rfl ?_
              refine r_ialdK 72 hX dX8_begin_71 rfl rfl (vpK rfl) (j := 0) (by decide) ?_
              refine r_iconst 73 hX dX8_begin_72 (v := 1) (by decide) ?_
              refine r_iadd 74 hX dX8_begin_73 ?_
              refine r_iastK 75 hX dX8_begin_74 rfl rfl (vpK rfl) (j := 0) (by decide) ?_
              refine r_aload_n 76 hX dX8_begin_75 rfl ?_
              refine r_getR 79 hX dX8_begin_76 fX8_26 rfl rfl rfl ?_
              refine r_iconst 80 hX dX8_begin_79 (v := 1) (by decide) ?_
              refine r_iconst 81 hX dX8_begin_80 (v := 1) (by decide) ?_
              refine r_iastK 82 hX dX8_begin_81 rfl rfl (vpK rfl) (j := 1) (by decide) ?_
              refine r_aload_n 83 hX dX8_begin_82 rfl ?_
              refine r_getR 86 hX dX8_begin_83 fX8_26 rfl rfl rfl ?_
              refine r_iconst 87 hX dX8_begin_86 (v := 2) (by decide) ?_
              refine r_iload_n 88 hX dX8_begin_87 rfl ?_
              refine r_iastK 89 hX dX8_begin_88 rfl rfl (vpK rfl) (j := 2) (by decide) ?_
              refine r_aload_n 90 hX dX8_begin_89 rfl ?_
              refine r_getR 93 hX dX8_begin_90 fX8_26 rfl rfl rfl ?_
              refine r_iconst 94 hX dX8_begin_93 (v := 3) (by decide) ?_
              refine r_iconst 95 hX dX8_begin_94 (v := 0) (by decide) ?_
              refine r_iastK 96 hX dX8_begin_95 rfl rfl (vpK rfl) (j := 3) (by decide) ?_
              refine r_aload_n 97 hX dX8_begin_96 rfl ?_
              refine r_getR 100 hX dX8_begin_97 fX8_26 rfl rfl rfl ?_
              refine r_iconst 101 hX dX8_begin_100 (v := 5) (by decide) ?_
              refine r_iconst 102 hX dX8_begin_101 (v := -1) (by decide) ?_
              refine r_iastK 103 hX dX8_begin_102 rfl rfl (vpK rfl) (j := 5) (by decide) ?_
              refine r_iconst 104 hX dX8_begin_103 (v := 0) (by decide) ?_
              refine r_istore_n 105 hX dX8_begin_104 rfl ?_
              refine r_iload_n 106 hX dX8_begin_105 rfl ?_
              refine r_iconst 107 hX dX8_begin_106 (v := 2) (by decide) ?_
              refine r_icmp_ge 110 265 hX dX8_begin_107 (fun c => absurd c (by decide)) (fun _ => ?_)
              have d3 : ¬ M.1 51 0 = 0 := c3
              have d4 : ¬ M.1 51 1 = 0 := c4
              refine bgx_0 (N := mbH M 0) (hp0 d3) hX hR (fun s9 => ?_)
              refine r_iload_n 106 hX dX8_begin_105 rfl ?_
              refine r_iconst 107 hX dX8_begin_106 (v := 2) (by decide) ?_
              refine r_icmp_ge 110 265 hX dX8_begin_107 (fun c => absurd c (by decide)) (fun _ => ?_)
              refine bgx_1 (N := mbX (mbH M 0) 6 0) (fun k hk => ?_) hX hR (fun s8 => ?_)
              · rw [show (mbX (mbH M 0) 6 0).1 50 = M.1 50 by (unfold mbX; funext j; rw [mI_ne _ _ _ _ (by decide), mb4_ne _ _ _ (by decide), mb3_ne _ _ (by decide), mb2_ne _ _ (by decide)]; rfl)]
                exact hp1 d4 k hk
              · refine r_iload_n 106 hX dX8_begin_105 rfl ?_
                refine r_iconst 107 hX dX8_begin_106 (v := 2) (by decide) ?_
                refine r_icmp_ge 110 265 hX dX8_begin_107 (fun _ => ?_) (fun c => absurd c (by decide))
                refine r_aload_n 266 hX dX8_begin_265 rfl ?_
                refine r_cV0U 269 hX hR tX8_stand dX8_begin_266 kX8_stand lX8_60 rfl rfl rfl rfl rfl rfl ?_
                refine r_aload_n 270 hX dX8_begin_269 rfl ?_
                refine r_getR 273 hX dX8_begin_270 fX8_26 rfl rfl rfl ?_
                refine r_iconst 274 hX dX8_begin_273 (v := 0) (by decide) ?_
                refine r_ialdK 275 hX dX8_begin_274 rfl rfl (vpK rfl) (j := 0) (by decide) ?_
                refine r_iret hX hT dX8_begin_275 ?_
                exact Or.inl ⟨⟨⟨c1, c2⟩, ⟨c3, c4⟩, c5, c6⟩, rfl, rfl⟩
            · refine r_iconst 64 hX dX8_begin_63 (v := -1) (by decide) ?_
              refine r_iret hX hT dX8_begin_64 ?_
              clear hT hX hR hlX
              exact Or.inr ⟨fun h => by obtain ⟨⟨h1, h2⟩, ⟨h3, h4⟩, h5, h6⟩ := h; first | exact h1 c1 | exact c2 h2 | exact h3 c3 | exact h4 c4 | exact h5 c5 | exact h6 c6, rfl, rfl⟩
set_option maxRecDepth 100000 in
set_option maxHeartbeats 4000000 in
theorem tX8_begin_1 {l : Launch} {G : mx_G} {M : mx_Mem} (hp0 : ¬ M.1 51 0 = 0 → ∀ k : Nat, k < 6 → isP (M.1 50 (0 + k))) (hp1 : ¬ M.1 51 1 = 0 → ∀ k : Nat, k < 6 → isP (M.1 50 (6 + k))) : mx_Met l G yX8_begin cX8_begin 5 ((some FieldType.int)) 1 23 [.ref 46, .int 1] M (fun r M' => (mbC M ∧ r = some (.int ((mbM M 1).1 52 0)) ∧ M' = mbM M 1) ∨ (¬ mbC M ∧ r = some (.int (-1)) ∧ M' = th0 M)) := by
  refine mx_enter (own := RX8) (L := [.ref 46, .int 1, .null, .null, .null]) (by decide +kernel) rfl rfl rfl ?_
  intro X hlX hX hR hT
  refine r_aload_n 1 hX dX8_begin_0 rfl ?_
  refine r_iconst 2 hX dX8_begin_1 (v := 0) (by decide) ?_
  refine r_putI 5 hX dX8_begin_2 fX8_63 fp8_13 rfl rfl rfl ?_
  refine r_iload_n 6 hX dX8_begin_5 rfl ?_
  refine r_cS1F 9 hX hR tX8_isTeam_1 dX8_begin_6 kX8_isTeam lX8_71 rfl rfl rfl ?_
  refine r_if_eq 12 63 hX dX8_begin_9 (fun c => absurd c (by decide)) (fun _ => ?_)
  refine r_aload_n 13 hX dX8_begin_12 rfl ?_
  refine r_cV0F 16 hX hR tX8_isOn dX8_begin_13 kX8_isOn lX8_82 rfl rfl rfl rfl rfl rfl ?_
  refine r_Bne 19 63 hX dX8_begin_16 (fun c1 => ?_) (fun c1 => ?_)
  · refine r_iconst 64 hX dX8_begin_63 (v := -1) (by decide) ?_
    refine r_iret hX hT dX8_begin_64 ?_
    clear hT hX hR hlX
    exact Or.inr ⟨fun h => by obtain ⟨⟨h1, h2⟩, ⟨h3, h4⟩, h5, h6⟩ := h; first | exact h1 c1 | exact c2 h2 | exact h3 c3 | exact h4 c4 | exact h5 c5 | exact h6 c6, rfl, rfl⟩
  · refine r_aload_n 20 hX dX8_begin_19 rfl ?_
    refine r_getR 23 hX dX8_begin_20 fX8_26 rfl rfl rfl ?_
    refine r_iconst 24 hX dX8_begin_23 (v := 4) (by decide) ?_
    refine r_ialdK 25 hX dX8_begin_24 rfl rfl (vpK rfl) (j := 4) (by decide) ?_
    refine r_iconst 26 hX dX8_begin_25 (v := -1) (by decide) ?_
    refine r_icmp_ne 29 63 hX dX8_begin_26 (fun c2 => ?_) (fun c2 => ?_)
    · refine r_iconst 64 hX dX8_begin_63 (v := -1) (by decide) ?_
      refine r_iret hX hT dX8_begin_64 ?_
      clear hT hX hR hlX
      exact Or.inr ⟨fun h => by obtain ⟨⟨h1, h2⟩, ⟨h3, h4⟩, h5, h6⟩ := h; first | exact h1 c1 | exact c2 h2 | exact h3 c3 | exact h4 c4 | exact h5 c5 | exact h6 c6, rfl, rfl⟩
    · refine r_aload_n 30 hX dX8_begin_29 rfl ?_
      refine r_getR 33 hX dX8_begin_30 fX8_22 rfl rfl rfl ?_
      refine r_iconst 34 hX dX8_begin_33 (v := 0) (by decide) ?_
      refine r_zaldK 35 hX dX8_begin_34 rfl rfl (vpK rfl) (j := 0) (by decide) ?_
      refine r_if_eq 38 63 hX dX8_begin_35 (fun c3 => ?_) (fun c3 => ?_)
      · refine r_iconst 64 hX dX8_begin_63 (v := -1) (by decide) ?_
        refine r_iret hX hT dX8_begin_64 ?_
        clear hT hX hR hlX
        exact Or.inr ⟨fun h => by obtain ⟨⟨h1, h2⟩, ⟨h3, h4⟩, h5, h6⟩ := h; first | exact h1 c1 | exact c2 h2 | exact h3 c3 | exact h4 c4 | exact h5 c5 | exact h6 c6, rfl, rfl⟩
      · refine r_aload_n 39 hX dX8_begin_38 rfl ?_
        refine r_getR 42 hX dX8_begin_39 fX8_22 rfl rfl rfl ?_
        refine r_iconst 43 hX dX8_begin_42 (v := 1) (by decide) ?_
        refine r_zaldK 44 hX dX8_begin_43 rfl rfl (vpK rfl) (j := 1) (by decide) ?_
        refine r_if_eq 47 63 hX dX8_begin_44 (fun c4 => ?_) (fun c4 => ?_)
        · refine r_iconst 64 hX dX8_begin_63 (v := -1) (by decide) ?_
          refine r_iret hX hT dX8_begin_64 ?_
          clear hT hX hR hlX
          exact Or.inr ⟨fun h => by obtain ⟨⟨h1, h2⟩, ⟨h3, h4⟩, h5, h6⟩ := h; first | exact h1 c1 | exact c2 h2 | exact h3 c3 | exact h4 c4 | exact h5 c5 | exact h6 c6, rfl, rfl⟩
        · refine r_aload_n 48 hX dX8_begin_47 rfl ?_
          refine r_iconst 49 hX dX8_begin_48 (v := 0) (by decide) ?_
          refine r_cV1F 52 hX hR tX8_hasFree_0 dX8_begin_49 kX8_hasFree lX8_92 rfl rfl rfl rfl rfl rfl ?_
          refine r_Bne 55 63 hX dX8_begin_52 (fun c5 => ?_) (fun c5 => ?_)
          · refine r_iconst 64 hX dX8_begin_63 (v := -1) (by decide) ?_
            refine r_iret hX hT dX8_begin_64 ?_
            clear hT hX hR hlX
            exact Or.inr ⟨fun h => by obtain ⟨⟨h1, h2⟩, ⟨h3, h4⟩, h5, h6⟩ := h; first | exact h1 c1 | exact c2 h2 | exact h3 c3 | exact h4 c4 | exact h5 c5 | exact h6 c6, rfl, rfl⟩
          · refine r_aload_n 56 hX dX8_begin_55 rfl ?_
            refine r_iconst 57 hX dX8_begin_56 (v := 1) (by decide) ?_
            refine r_cV1F 60 hX hR tX8_hasFree_1 dX8_begin_57 kX8_hasFree lX8_92 rfl rfl rfl rfl rfl rfl ?_
            refine r_Beq 63 65 hX dX8_begin_60 (fun c6 => ?_) (fun c6 => ?_)
            · refine r_aload_n 66 hX dX8_begin_65 rfl ?_
              refine r_getR 69 hX dX8_begin_66 fX8_26 rfl rfl rfl ?_
              refine r_iconst 70 hX dX8_begin_69 (v := 0) (by decide) ?_
              refine r_dup2 71 hX dX8_begin_70 rfl rfl ?_
              refine r_ialdK 72 hX dX8_begin_71 rfl rfl (vpK rfl) (j := 0) (by decide) ?_
              refine r_iconst 73 hX dX8_begin_72 (v := 1) (by decide) ?_
              refine r_iadd 74 hX dX8_begin_73 ?_
              refine r_iastK 75 hX dX8_begin_74 rfl rfl (vpK rfl) (j := 0) (by decide) ?_
              refine r_aload_n 76 hX dX8_begin_75 rfl ?_
              refine r_getR 79 hX dX8_begin_76 fX8_26 rfl rfl rfl ?_
              refine r_iconst 80 hX dX8_begin_79 (v := 1) (by decide) ?_
              refine r_iconst 81 hX dX8_begin_80 (v := 1) (by decide) ?_
              refine r_iastK 82 hX dX8_begin_81 rfl rfl (vpK rfl) (j := 1) (by decide) ?_
              refine r_aload_n 83 hX dX8_begin_82 rfl ?_
              refine r_getR 86 hX dX8_begin_83 fX8_26 rfl rfl rfl ?_
              refine r_iconst 87 hX dX8_begin_86 (v := 2) (by decide) ?_
              refine r_iload_n 88 hX dX8_begin_87 rfl ?_
              refine r_iastK 89 hX dX8_begin_88 rfl rfl (vpK rfl) (j := 2) (by decide) ?_
              refine r_aload_n 90 hX dX8_begin_89 rfl ?_
              refine r_getR 93 hX dX8_begin_90 fX8_26 rfl rfl rfl ?_
              refine r_iconst 94 hX dX8_begin_93 (v := 3) (by decide) ?_
              refine r_iconst 95 hX dX8_begin_94 (v := 0) (by decide) ?_
              refine r_iastK 96 hX dX8_begin_95 rfl rfl (vpK rfl) (j := 3) (by decide) ?_
              refine r_aload_n 97 hX dX8_begin_96 rfl ?_
              refine r_getR 100 hX dX8_begin_97 fX8_26 rfl rfl rfl ?_
              refine r_iconst 101 hX dX8_begin_100 (v := 5) (by decide) ?_
              refine r_iconst 102 hX dX8_begin_101 (v := -1) (by decide) ?_
              refine r_iastK 103 hX dX8_begin_102 rfl rfl (vpK rfl) (j := 5) (by decide) ?_
              refine r_iconst 104 hX dX8_begin_103 (v := 0) (by decide) ?_
              refine r_istore_n 105 hX dX8_begin_104 rfl ?_
              refine r_iload_n 106 hX dX8_begin_105 rfl ?_
              refine r_iconst 107 hX dX8_begin_106 (v := 2) (by decide) ?_
              refine r_icmp_ge 110 265 hX dX8_begin_107 (fun c => absurd c (by decide)) (fun _ => ?_)
              have d3 : ¬ M.1 51 0 = 0 := c3
              have d4 : ¬ M.1 51 1 = 0 := c4
              refine bgx_0 (N := mbH M 1) (hp0 d3) hX hR (fun s9 => ?_)
              refine r_iload_n 106 hX dX8_begin_105 rfl ?_
              refine r_iconst 107 hX dX8_begin_106 (v := 2) (by decide) ?_
              refine r_icmp_ge 110 265 hX dX8_begin_107 (fun c => absurd c (by decide)) (fun _ => ?_)
              refine bgx_1 (N := mbX (mbH M 1) 6 0) (fun k hk => ?_) hX hR (fun s8 => ?_)
              · rw [show (mbX (mbH M 1) 6 0).1 50 = M.1 50 by (unfold mbX; funext j; rw [mI_ne _ _ _ _ (by decide), mb4_ne _ _ _ (by decide), mb3_ne _ _ (by decide), mb2_ne _ _ (by decide)]; rfl)]
                exact hp1 d4 k hk
              · refine r_iload_n 106 hX dX8_begin_105 rfl ?_
                refine r_iconst 107 hX dX8_begin_106 (v := 2) (by decide) ?_
                refine r_icmp_ge 110 265 hX dX8_begin_107 (fun _ => ?_) (fun c => absurd c (by decide))
                refine r_aload_n 266 hX dX8_begin_265 rfl ?_
                refine r_cV0U 269 hX hR tX8_stand dX8_begin_266 kX8_stand lX8_60 rfl rfl rfl rfl rfl rfl ?_
                refine r_aload_n 270 hX dX8_begin_269 rfl ?_
                refine r_getR 273 hX dX8_begin_270 fX8_26 rfl rfl rfl ?_
                refine r_iconst 274 hX dX8_begin_273 (v := 0) (by decide) ?_
                refine r_ialdK 275 hX dX8_begin_274 rfl rfl (vpK rfl) (j := 0) (by decide) ?_
                refine r_iret hX hT dX8_begin_275 ?_
                exact Or.inl ⟨⟨⟨c1, c2⟩, ⟨c3, c4⟩, c5, c6⟩, rfl, rfl⟩
            · refine r_iconst 64 hX dX8_begin_63 (v := -1) (by decide) ?_
              refine r_iret hX hT dX8_begin_64 ?_
              clear hT hX hR hlX
              exact Or.inr ⟨fun h => by obtain ⟨⟨h1, h2⟩, ⟨h3, h4⟩, h5, h6⟩ := h; first | exact h1 c1 | exact c2 h2 | exact h3 c3 | exact h4 c4 | exact h5 c5 | exact h6 c6, rfl, rfl⟩

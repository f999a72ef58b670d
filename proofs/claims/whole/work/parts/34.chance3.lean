/-! chances of the class: a score's row -/
def fwM (M : mx_Mem) (k s : Nat) (v : Nat → Int32) : Nat → mx_Mem
  | 0 => M
  | n + 1 => mI (fwM M k s v n) k (s + n) (v n)
theorem fwM_ne (M : mx_Mem) {k s : Nat} (v : Nat → Int32) {k' : Nat} (h : k' ≠ k) (j : Nat) : ∀ n, (fwM M k s v n).1 k' j = M.1 k' j
  | 0 => rfl
  | n + 1 => by rw [fwM, mI_ne _ _ _ _ h, fwM_ne M v h j n]
theorem fwM_out (M : mx_Mem) {k s : Nat} (v : Nat → Int32) {j : Nat} : ∀ n, (j < s ∨ s + n ≤ j) → (fwM M k s v n).1 k j = M.1 k j
  | 0, _ => rfl
  | n + 1, h => by
    have h2 : j ≠ s + n := by omega
    have h3 := fwM_out M (k := k) (s := s) v (j := j) n (by omega)
    rw [fwM]
    simp [mI, mR, upd, h2, h3]
theorem fwM_in (M : mx_Mem) {k s : Nat} (v : Nat → Int32) {j : Nat} : ∀ n, j < n → (fwM M k s v n).1 k (s + j) = v j
  | 0, h => by omega
  | n + 1, h => by
    rw [fwM]
    by_cases e : j = n
    · subst e
      simp [mI, mR, upd]
    · have h2 : s + j ≠ s + n := by omega
      have h3 := fwM_in M (k := k) (s := s) v (j := j) n (by omega)
      simp [mI, mR, upd, h2, h3, e]
theorem fwM_2 (M : mx_Mem) {k s : Nat} (v : Nat → Int32) : ∀ n, (fwM M k s v n).2 = M.2
  | 0 => rfl
  | n + 1 => by
    have := fwM_2 M (k := k) (s := s) v n
    rw [fwM]
    simpa [mI, mR] using this
theorem rw_ne (a : Nat) : 44 + (a + 1) % 2 ≠ 44 + a % 2 := by omega
theorem rkI_0 {G : mx_G} {X : mx_X} {N : mx_Mem} {a b n c x y : Nat} {v9 v10 v11 v12 v13 v14 v15 : Value} (hX : mx_OK G X RX0 cX0_reckonScore 16) (hn : n < 12) (hb : b + 1 ≤ 30) (hc : c ≤ 1000) (hx : x ≤ 1000000000) (hy : y ≤ 1000000000) (h1 : N.1 42 n = nI c) (h2 : N.1 (44 + (a + 1) % 2) (b * 12 + n) = nI x) (h3 : N.1 (44 + a % 2) (b * 12 + (12 + (n + 1) % 12)) = nI y)
    (hE : ∀ w9 w10 w11 w12 w13 w14 w15 : Value, mx_WW G X 43 [.ref 39, .int (nI a), .int (nI b), .ref (44 + a % 2), .ref (44 + (a + 1) % 2), .int (nI (b * 12)), .int (nI (b * 12 + 12)), .int 1, .int (nI (n + 1)), w9, w10, w11, w12, w13, w14, w15] [] (mI N (44 + a % 2) (b * 12 + n) (nI (avg c x y)))) : mx_WW G X 43 [.ref 39, .int (nI a), .int (nI b), .ref (44 + a % 2), .ref (44 + (a + 1) % 2), .int (nI (b * 12)), .int (nI (b * 12 + 12)), .int 0, .int (nI n), v9, v10, v11, v12, v13, v14, v15] [] N := by
  have g1 : ¬ 12 ≤ nI n := nI_ge (b := 12) hn (by decide)
  have g2 : nI n + 1 = nI (n + 1) := nI_1 n
  have g3 : nI (b * 12) + nI n = nI (b * 12 + n) := nI_add _ _
  have g4 : nI (b * 12 + 12) + nI n = nI (b * 12 + (12 + n)) := by rw [nI_add, Nat.add_assoc]
  have g5 : nI (b * 12) + nI ((n + 1) % 12) = nI (b * 12 + (n + 1) % 12) := nI_add _ _
  have g6 : nI (b * 12 + 12) + nI ((n + 1) % 12) = nI (b * 12 + (12 + (n + 1) % 12)) := by rw [nI_add, Nat.add_assoc]
  have ke : 12 ≤ nI (n + 1) → n = 11 := fun c => Classical.byContradiction fun e => absurd c (nI_ge (b := 12) (show n + 1 < 12 by omega) (by decide))
  have kn : ¬ 12 ≤ nI (n + 1) → (n + 1) % 12 = n + 1 := fun c => by
    have : n ≠ 11 := fun e => by subst e; exact c (by decide)
    omega
  have lE := avg_m hc hx hy
  refine r_iload 45 hX dX0_reckonScore_43 rfl ?_
  refine r_bipush 47 hX dX0_reckonScore_45 (v := 12) (by decide) ?_
  refine r_icmp_ge 50 172 hX dX0_reckonScore_47 (fun c1 => absurd c1 g1) (fun c1 => ?_)
  refine r_iload 52 hX dX0_reckonScore_50 rfl ?_
  refine r_iconst 53 hX dX0_reckonScore_52 (v := 1) (by decide) ?_
  refine r_iadd 54 hX dX0_reckonScore_53 ?_
  refine r_bipush 56 hX dX0_reckonScore_54 (v := 12) (by decide) ?_
  rw [g2]
  refine r_icmp_ge 59 66 hX dX0_reckonScore_56 (fun c2 => ?_) (fun c2 => ?_)
  · refine r_iconst 67 hX dX0_reckonScore_66 (v := 0) (by decide) ?_
    refine mx_top (y := nI ((n + 1) % 12)) (by first | (rw [ke c2]; rfl) | rw [kn c2, g2]) ?_
    refine r_istore 69 hX dX0_reckonScore_67 rfl ?_
    refine r_iload 71 hX dX0_reckonScore_69 rfl ?_
    refine r_if_ne 74 86 hX dX0_reckonScore_71 (fun c => absurd c (by decide)) (fun _ => ?_)
    refine r_aload 76 hX dX0_reckonScore_74 rfl ?_
    refine r_iload 78 hX dX0_reckonScore_76 rfl ?_
    refine r_iload 80 hX dX0_reckonScore_78 rfl ?_
    refine r_iadd 81 hX dX0_reckonScore_80 ?_
    rw [g3]
    refine r_ialdV 82 hX dX0_reckonScore_81 (shR (a + 1)) (bltR (a + 1)) (vp_in_nI (show b * 12 + n < 372 by omega) (by decide)) (nI_clamp (by omega)) (v := nI x) h2 ?_
    refine r_i2l 83 hX dX0_reckonScore_82 ?_
    refine r_goto 94 hX dX0_reckonScore_83 ?_
    refine r_lstore 96 hX dX0_reckonScore_94 rfl ?_
    refine r_iload 98 hX dX0_reckonScore_96 rfl ?_
    refine r_if_ne 101 112 hX dX0_reckonScore_98 (fun c => absurd c (by decide)) (fun _ => ?_)
    refine r_aload_n 102 hX dX0_reckonScore_101 rfl ?_
    refine r_iload 104 hX dX0_reckonScore_102 rfl ?_
    refine r_iload 106 hX dX0_reckonScore_104 rfl ?_
    refine r_iadd 107 hX dX0_reckonScore_106 ?_
    rw [g6]
    refine r_ialdV 108 hX dX0_reckonScore_107 (shR a) (bltR a) (vp_in_nI (show b * 12 + (12 + (n + 1) % 12) < 372 by omega) (by decide)) (nI_clamp (by omega)) (v := nI y) h3 ?_
    refine r_i2l 109 hX dX0_reckonScore_108 ?_
    refine r_goto 121 hX dX0_reckonScore_109 ?_
    refine r_lstore 123 hX dX0_reckonScore_121 rfl ?_
    refine (show mx_WW G X 123 [_, _, _, _, _, _, _, _, _, _, _, _, _, _, _, _] _ _ from ?_)
    refine r_aload_n 124 hX dX0_reckonScore_123 rfl ?_
    refine r_getR 127 hX dX0_reckonScore_124 fX0_18 rfl rfl rfl ?_
    refine r_iload 129 hX dX0_reckonScore_127 rfl ?_
    refine r_ialdV 130 hX dX0_reckonScore_129 rfl rfl (vp_in_nI hn (by decide)) (nI_clamp (by omega)) (v := nI c) h1 ?_
    refine r_i2l 131 hX dX0_reckonScore_130 ?_
    refine r_lstore 133 hX dX0_reckonScore_131 rfl ?_
    refine r_aload_n 134 hX dX0_reckonScore_133 rfl ?_
    refine r_iload 136 hX dX0_reckonScore_134 rfl ?_
    refine r_iload 138 hX dX0_reckonScore_136 rfl ?_
    refine r_iadd 139 hX dX0_reckonScore_138 ?_
    rw [g3]
    refine r_lload 141 hX dX0_reckonScore_139 rfl ?_
    refine r_lload 143 hX dX0_reckonScore_141 rfl ?_
    refine r_lmul 144 hX dX0_reckonScore_143 ?_
    refine r_ldc2 147 hX dX0_reckonScore_144 qX0_80 ?_
    refine r_lload 149 hX dX0_reckonScore_147 rfl ?_
    refine r_lsub 150 hX dX0_reckonScore_149 ?_
    refine r_lload 152 hX dX0_reckonScore_150 rfl ?_
    refine r_lmul 153 hX dX0_reckonScore_152 ?_
    refine r_ladd 154 hX dX0_reckonScore_153 ?_
    refine r_ldc2 157 hX dX0_reckonScore_154 qX0_80 ?_
    refine r_ldiv 158 hX dX0_reckonScore_157 (by decide) ?_
    refine r_l2i 159 hX dX0_reckonScore_158 ?_
    rw [lE]
    refine r_iastK 160 hX dX0_reckonScore_159 (shR a) (bltR a) (vp_in_nI (show b * 12 + n < 372 by omega) (by decide)) (j := b * 12 + n) (nI_clamp (by omega)) ?_
    refine r_iconst 161 hX dX0_reckonScore_160 (v := 1) (by decide) ?_
    refine r_iload 163 hX dX0_reckonScore_161 rfl ?_
    refine r_isubK 164 hX dX0_reckonScore_163 (w := 1) (by decide) ?_
    refine r_istore 166 hX dX0_reckonScore_164 rfl ?_
    refine r_iinc 169 hX dX0_reckonScore_166 rfl (v := 1) (by decide) rfl ?_
    refine (show mx_WW G X 169 [_, _, _, _, _, _, _, _, _, _, _, _, _, _, _, _] _ _ from ?_)
    refine r_goto 43 hX dX0_reckonScore_169 ?_
    rw [g2]
    exact hE _ _ _ _ _ _ _
  · refine r_iload 61 hX dX0_reckonScore_59 rfl ?_
    refine r_iconst 62 hX dX0_reckonScore_61 (v := 1) (by decide) ?_
    refine r_iadd 63 hX dX0_reckonScore_62 ?_
    refine r_goto 67 hX dX0_reckonScore_63 ?_
    refine mx_top (y := nI ((n + 1) % 12)) (by first | (rw [ke c2]; rfl) | rw [kn c2, g2]) ?_
    refine r_istore 69 hX dX0_reckonScore_67 rfl ?_
    refine r_iload 71 hX dX0_reckonScore_69 rfl ?_
    refine r_if_ne 74 86 hX dX0_reckonScore_71 (fun c => absurd c (by decide)) (fun _ => ?_)
    refine r_aload 76 hX dX0_reckonScore_74 rfl ?_
    refine r_iload 78 hX dX0_reckonScore_76 rfl ?_
    refine r_iload 80 hX dX0_reckonScore_78 rfl ?_
    refine r_iadd 81 hX dX0_reckonScore_80 ?_
    rw [g3]
    refine r_ialdV 82 hX dX0_reckonScore_81 (shR (a + 1)) (bltR (a + 1)) (vp_in_nI (show b * 12 + n < 372 by omega) (by decide)) (nI_clamp (by omega)) (v := nI x) h2 ?_
    refine r_i2l 83 hX dX0_reckonScore_82 ?_
    refine r_goto 94 hX dX0_reckonScore_83 ?_
    refine r_lstore 96 hX dX0_reckonScore_94 rfl ?_
    refine r_iload 98 hX dX0_reckonScore_96 rfl ?_
    refine r_if_ne 101 112 hX dX0_reckonScore_98 (fun c => absurd c (by decide)) (fun _ => ?_)
    refine r_aload_n 102 hX dX0_reckonScore_101 rfl ?_
    refine r_iload 104 hX dX0_reckonScore_102 rfl ?_
    refine r_iload 106 hX dX0_reckonScore_104 rfl ?_
    refine r_iadd 107 hX dX0_reckonScore_106 ?_
    rw [g6]
    refine r_ialdV 108 hX dX0_reckonScore_107 (shR a) (bltR a) (vp_in_nI (show b * 12 + (12 + (n + 1) % 12) < 372 by omega) (by decide)) (nI_clamp (by omega)) (v := nI y) h3 ?_
    refine r_i2l 109 hX dX0_reckonScore_108 ?_
    refine r_goto 121 hX dX0_reckonScore_109 ?_
    refine r_lstore 123 hX dX0_reckonScore_121 rfl ?_
    refine (show mx_WW G X 123 [_, _, _, _, _, _, _, _, _, _, _, _, _, _, _, _] _ _ from ?_)
    refine r_aload_n 124 hX dX0_reckonScore_123 rfl ?_
    refine r_getR 127 hX dX0_reckonScore_124 fX0_18 rfl rfl rfl ?_
    refine r_iload 129 hX dX0_reckonScore_127 rfl ?_
    refine r_ialdV 130 hX dX0_reckonScore_129 rfl rfl (vp_in_nI hn (by decide)) (nI_clamp (by omega)) (v := nI c) h1 ?_
    refine r_i2l 131 hX dX0_reckonScore_130 ?_
    refine r_lstore 133 hX dX0_reckonScore_131 rfl ?_
    refine r_aload_n 134 hX dX0_reckonScore_133 rfl ?_
    refine r_iload 136 hX dX0_reckonScore_134 rfl ?_
    refine r_iload 138 hX dX0_reckonScore_136 rfl ?_
    refine r_iadd 139 hX dX0_reckonScore_138 ?_
    rw [g3]
    refine r_lload 141 hX dX0_reckonScore_139 rfl ?_
    refine r_lload 143 hX dX0_reckonScore_141 rfl ?_
    refine r_lmul 144 hX dX0_reckonScore_143 ?_
    refine r_ldc2 147 hX dX0_reckonScore_144 qX0_80 ?_
    refine r_lload 149 hX dX0_reckonScore_147 rfl ?_
    refine r_lsub 150 hX dX0_reckonScore_149 ?_
    refine r_lload 152 hX dX0_reckonScore_150 rfl ?_
    refine r_lmul 153 hX dX0_reckonScore_152 ?_
    refine r_ladd 154 hX dX0_reckonScore_153 ?_
    refine r_ldc2 157 hX dX0_reckonScore_154 qX0_80 ?_
    refine r_ldiv 158 hX dX0_reckonScore_157 (by decide) ?_
    refine r_l2i 159 hX dX0_reckonScore_158 ?_
    rw [lE]
    refine r_iastK 160 hX dX0_reckonScore_159 (shR a) (bltR a) (vp_in_nI (show b * 12 + n < 372 by omega) (by decide)) (j := b * 12 + n) (nI_clamp (by omega)) ?_
    refine r_iconst 161 hX dX0_reckonScore_160 (v := 1) (by decide) ?_
    refine r_iload 163 hX dX0_reckonScore_161 rfl ?_
    refine r_isubK 164 hX dX0_reckonScore_163 (w := 1) (by decide) ?_
    refine r_istore 166 hX dX0_reckonScore_164 rfl ?_
    refine r_iinc 169 hX dX0_reckonScore_166 rfl (v := 1) (by decide) rfl ?_
    refine (show mx_WW G X 169 [_, _, _, _, _, _, _, _, _, _, _, _, _, _, _, _] _ _ from ?_)
    refine r_goto 43 hX dX0_reckonScore_169 ?_
    rw [g2]
    exact hE _ _ _ _ _ _ _
theorem rkI_1 {G : mx_G} {X : mx_X} {N : mx_Mem} {a b n c x y : Nat} {v9 v10 v11 v12 v13 v14 v15 : Value} (hX : mx_OK G X RX0 cX0_reckonScore 16) (hn : n < 12) (hb : b + 1 ≤ 30) (hc : c ≤ 1000) (hx : x ≤ 1000000000) (hy : y ≤ 1000000000) (h1 : N.1 42 n = nI c) (h2 : N.1 (44 + a % 2) (b * 12 + (12 + n)) = nI x) (h3 : N.1 (44 + (a + 1) % 2) (b * 12 + (n + 1) % 12) = nI y)
    (hE : ∀ w9 w10 w11 w12 w13 w14 w15 : Value, mx_WW G X 43 [.ref 39, .int (nI a), .int (nI b), .ref (44 + a % 2), .ref (44 + (a + 1) % 2), .int (nI (b * 12)), .int (nI (b * 12 + 12)), .int 0, .int (nI (n + 1)), w9, w10, w11, w12, w13, w14, w15] [] (mI N (44 + a % 2) (b * 12 + n) (nI (avg c x y)))) : mx_WW G X 43 [.ref 39, .int (nI a), .int (nI b), .ref (44 + a % 2), .ref (44 + (a + 1) % 2), .int (nI (b * 12)), .int (nI (b * 12 + 12)), .int 1, .int (nI n), v9, v10, v11, v12, v13, v14, v15] [] N := by
  have g1 : ¬ 12 ≤ nI n := nI_ge (b := 12) hn (by decide)
  have g2 : nI n + 1 = nI (n + 1) := nI_1 n
  have g3 : nI (b * 12) + nI n = nI (b * 12 + n) := nI_add _ _
  have g4 : nI (b * 12 + 12) + nI n = nI (b * 12 + (12 + n)) := by rw [nI_add, Nat.add_assoc]
  have g5 : nI (b * 12) + nI ((n + 1) % 12) = nI (b * 12 + (n + 1) % 12) := nI_add _ _
  have g6 : nI (b * 12 + 12) + nI ((n + 1) % 12) = nI (b * 12 + (12 + (n + 1) % 12)) := by rw [nI_add, Nat.add_assoc]
  have ke : 12 ≤ nI (n + 1) → n = 11 := fun c => Classical.byContradiction fun e => absurd c (nI_ge (b := 12) (show n + 1 < 12 by omega) (by decide))
  have kn : ¬ 12 ≤ nI (n + 1) → (n + 1) % 12 = n + 1 := fun c => by
    have : n ≠ 11 := fun e => by subst e; exact c (by decide)
    omega
  have lE := avg_m hc hx hy
  refine r_iload 45 hX dX0_reckonScore_43 rfl ?_
  refine r_bipush 47 hX dX0_reckonScore_45 (v := 12) (by decide) ?_
  refine r_icmp_ge 50 172 hX dX0_reckonScore_47 (fun c1 => absurd c1 g1) (fun c1 => ?_)
  refine r_iload 52 hX dX0_reckonScore_50 rfl ?_
  refine r_iconst 53 hX dX0_reckonScore_52 (v := 1) (by decide) ?_
  refine r_iadd 54 hX dX0_reckonScore_53 ?_
  refine r_bipush 56 hX dX0_reckonScore_54 (v := 12) (by decide) ?_
  rw [g2]
  refine r_icmp_ge 59 66 hX dX0_reckonScore_56 (fun c2 => ?_) (fun c2 => ?_)
  · refine r_iconst 67 hX dX0_reckonScore_66 (v := 0) (by decide) ?_
    refine mx_top (y := nI ((n + 1) % 12)) (by first | (rw [ke c2]; rfl) | rw [kn c2, g2]) ?_
    refine r_istore 69 hX dX0_reckonScore_67 rfl ?_
    refine r_iload 71 hX dX0_reckonScore_69 rfl ?_
    refine r_if_ne 74 86 hX dX0_reckonScore_71 (fun _ => ?_) (fun c => absurd c (by decide))
    refine r_aload_n 87 hX dX0_reckonScore_86 rfl ?_
    refine r_iload 89 hX dX0_reckonScore_87 rfl ?_
    refine r_iload 91 hX dX0_reckonScore_89 rfl ?_
    refine r_iadd 92 hX dX0_reckonScore_91 ?_
    rw [g4]
    refine r_ialdV 93 hX dX0_reckonScore_92 (shR a) (bltR a) (vp_in_nI (show b * 12 + (12 + n) < 372 by omega) (by decide)) (nI_clamp (by omega)) (v := nI x) h2 ?_
    refine r_i2l 94 hX dX0_reckonScore_93 ?_
    refine r_lstore 96 hX dX0_reckonScore_94 rfl ?_
    refine r_iload 98 hX dX0_reckonScore_96 rfl ?_
    refine r_if_ne 101 112 hX dX0_reckonScore_98 (fun _ => ?_) (fun c => absurd c (by decide))
    refine r_aload 114 hX dX0_reckonScore_112 rfl ?_
    refine r_iload 116 hX dX0_reckonScore_114 rfl ?_
    refine r_iload 118 hX dX0_reckonScore_116 rfl ?_
    refine r_iadd 119 hX dX0_reckonScore_118 ?_
    rw [g5]
    refine r_ialdV 120 hX dX0_reckonScore_119 (shR (a + 1)) (bltR (a + 1)) (vp_in_nI (show b * 12 + (n + 1) % 12 < 372 by omega) (by decide)) (nI_clamp (by omega)) (v := nI y) h3 ?_
    refine r_i2l 121 hX dX0_reckonScore_120 ?_
    refine r_lstore 123 hX dX0_reckonScore_121 rfl ?_
    refine (show mx_WW G X 123 [_, _, _, _, _, _, _, _, _, _, _, _, _, _, _, _] _ _ from ?_)
    refine r_aload_n 124 hX dX0_reckonScore_123 rfl ?_
    refine r_getR 127 hX dX0_reckonScore_124 fX0_18 rfl rfl rfl ?_
    refine r_iload 129 hX dX0_reckonScore_127 rfl ?_
    refine r_ialdV 130 hX dX0_reckonScore_129 rfl rfl (vp_in_nI hn (by decide)) (nI_clamp (by omega)) (v := nI c) h1 ?_
    refine r_i2l 131 hX dX0_reckonScore_130 ?_
    refine r_lstore 133 hX dX0_reckonScore_131 rfl ?_
    refine r_aload_n 134 hX dX0_reckonScore_133 rfl ?_
    refine r_iload 136 hX dX0_reckonScore_134 rfl ?_
    refine r_iload 138 hX dX0_reckonScore_136 rfl ?_
    refine r_iadd 139 hX dX0_reckonScore_138 ?_
    rw [g3]
    refine r_lload 141 hX dX0_reckonScore_139 rfl ?_
    refine r_lload 143 hX dX0_reckonScore_141 rfl ?_
    refine r_lmul 144 hX dX0_reckonScore_143 ?_
    refine r_ldc2 147 hX dX0_reckonScore_144 qX0_80 ?_
    refine r_lload 149 hX dX0_reckonScore_147 rfl ?_
    refine r_lsub 150 hX dX0_reckonScore_149 ?_
    refine r_lload 152 hX dX0_reckonScore_150 rfl ?_
    refine r_lmul 153 hX dX0_reckonScore_152 ?_
    refine r_ladd 154 hX dX0_reckonScore_153 ?_
    refine r_ldc2 157 hX dX0_reckonScore_154 qX0_80 ?_
    refine r_ldiv 158 hX dX0_reckonScore_157 (by decide) ?_
    refine r_l2i 159 hX dX0_reckonScore_158 ?_
    rw [lE]
    refine r_iastK 160 hX dX0_reckonScore_159 (shR a) (bltR a) (vp_in_nI (show b * 12 + n < 372 by omega) (by decide)) (j := b * 12 + n) (nI_clamp (by omega)) ?_
    refine r_iconst 161 hX dX0_reckonScore_160 (v := 1) (by decide) ?_
    refine r_iload 163 hX dX0_reckonScore_161 rfl ?_
    refine r_isubK 164 hX dX0_reckonScore_163 (w := 0) (by decide) ?_
    refine r_istore 166 hX dX0_reckonScore_164 rfl ?_
    refine r_iinc 169 hX dX0_reckonScore_166 rfl (v := 1) (by decide) rfl ?_
    refine (show mx_WW G X 169 [_, _, _, _, _, _, _, _, _, _, _, _, _, _, _, _] _ _ from ?_)
    refine r_goto 43 hX dX0_reckonScore_169 ?_
    rw [g2]
    exact hE _ _ _ _ _ _ _
  · refine r_iload 61 hX dX0_reckonScore_59 rfl ?_
    refine r_iconst 62 hX dX0_reckonScore_61 (v := 1) (by decide) ?_
    refine r_iadd 63 hX dX0_reckonScore_62 ?_
    refine r_goto 67 hX dX0_reckonScore_63 ?_
    refine mx_top (y := nI ((n + 1) % 12)) (by first | (rw [ke c2]; rfl) | rw [kn c2, g2]) ?_
    refine r_istore 69 hX dX0_reckonScore_67 rfl ?_
    refine r_iload 71 hX dX0_reckonScore_69 rfl ?_
    refine r_if_ne 74 86 hX dX0_reckonScore_71 (fun _ => ?_) (fun c => absurd c (by decide))
    refine r_aload_n 87 hX dX0_reckonScore_86 rfl ?_
    refine r_iload 89 hX dX0_reckonScore_87 rfl ?_
    refine r_iload 91 hX dX0_reckonScore_89 rfl ?_
    refine r_iadd 92 hX dX0_reckonScore_91 ?_
    rw [g4]
    refine r_ialdV 93 hX dX0_reckonScore_92 (shR a) (bltR a) (vp_in_nI (show b * 12 + (12 + n) < 372 by omega) (by decide)) (nI_clamp (by omega)) (v := nI x) h2 ?_
    refine r_i2l 94 hX dX0_reckonScore_93 ?_
    refine r_lstore 96 hX dX0_reckonScore_94 rfl ?_
    refine r_iload 98 hX dX0_reckonScore_96 rfl ?_
    refine r_if_ne 101 112 hX dX0_reckonScore_98 (fun _ => ?_) (fun c => absurd c (by decide))
    refine r_aload 114 hX dX0_reckonScore_112 rfl ?_
    refine r_iload 116 hX dX0_reckonScore_114 rfl ?_
    refine r_iload 118 hX dX0_reckonScore_116 rfl ?_
    refine r_iadd 119 hX dX0_reckonScore_118 ?_
    rw [g5]
    refine r_ialdV 120 hX dX0_reckonScore_119 (shR (a + 1)) (bltR (a + 1)) (vp_in_nI (show b * 12 + (n + 1) % 12 < 372 by omega) (by decide)) (nI_clamp (by omega)) (v := nI y) h3 ?_
    refine r_i2l 121 hX dX0_reckonScore_120 ?_
    refine r_lstore 123 hX dX0_reckonScore_121 rfl ?_
    refine (show mx_WW G X 123 [_, _, _, _, _, _, _, _, _, _, _, _, _, _, _, _] _ _ from ?_)
    refine r_aload_n 124 hX dX0_reckonScore_123 rfl ?_
    refine r_getR 127 hX dX0_reckonScore_124 fX0_18 rfl rfl rfl ?_
    refine r_iload 129 hX dX0_reckonScore_127 rfl ?_
    refine r_ialdV 130 hX dX0_reckonScore_129 rfl rfl (vp_in_nI hn (by decide)) (nI_clamp (by omega)) (v := nI c) h1 ?_
    refine r_i2l 131 hX dX0_reckonScore_130 ?_
    refine r_lstore 133 hX dX0_reckonScore_131 rfl ?_
    refine r_aload_n 134 hX dX0_reckonScore_133 rfl ?_
    refine r_iload 136 hX dX0_reckonScore_134 rfl ?_
    refine r_iload 138 hX dX0_reckonScore_136 rfl ?_
    refine r_iadd 139 hX dX0_reckonScore_138 ?_
    rw [g3]
    refine r_lload 141 hX dX0_reckonScore_139 rfl ?_
    refine r_lload 143 hX dX0_reckonScore_141 rfl ?_
    refine r_lmul 144 hX dX0_reckonScore_143 ?_
    refine r_ldc2 147 hX dX0_reckonScore_144 qX0_80 ?_
    refine r_lload 149 hX dX0_reckonScore_147 rfl ?_
    refine r_lsub 150 hX dX0_reckonScore_149 ?_
    refine r_lload 152 hX dX0_reckonScore_150 rfl ?_
    refine r_lmul 153 hX dX0_reckonScore_152 ?_
    refine r_ladd 154 hX dX0_reckonScore_153 ?_
    refine r_ldc2 157 hX dX0_reckonScore_154 qX0_80 ?_
    refine r_ldiv 158 hX dX0_reckonScore_157 (by decide) ?_
    refine r_l2i 159 hX dX0_reckonScore_158 ?_
    rw [lE]
    refine r_iastK 160 hX dX0_reckonScore_159 (shR a) (bltR a) (vp_in_nI (show b * 12 + n < 372 by omega) (by decide)) (j := b * 12 + n) (nI_clamp (by omega)) ?_
    refine r_iconst 161 hX dX0_reckonScore_160 (v := 1) (by decide) ?_
    refine r_iload 163 hX dX0_reckonScore_161 rfl ?_
    refine r_isubK 164 hX dX0_reckonScore_163 (w := 0) (by decide) ?_
    refine r_istore 166 hX dX0_reckonScore_164 rfl ?_
    refine r_iinc 169 hX dX0_reckonScore_166 rfl (v := 1) (by decide) rfl ?_
    refine (show mx_WW G X 169 [_, _, _, _, _, _, _, _, _, _, _, _, _, _, _, _] _ _ from ?_)
    refine r_goto 43 hX dX0_reckonScore_169 ?_
    rw [g2]
    exact hE _ _ _ _ _ _ _
set_option maxRecDepth 100000 in
set_option maxHeartbeats 4000000 in
theorem tX0_reckonScore_0 {l : Launch} {G : mx_G} {a b : Nat} (c x y v : Nat → Nat) {M : mx_Mem} (ha : a < 100) (hb : b + 1 ≤ 30) (hf : M.1 39 4 = 0) (hc : ∀ n, c n ≤ 1000) (hx : ∀ n, n < 12 → x n ≤ 1000000000) (hy : ∀ n, n < 12 → y n ≤ 1000000000) (h1 : ∀ n, n < 12 → M.1 42 n = nI (c n)) (h2 : ∀ n, n < 12 → M.1 (44 + (a + 1) % 2) (b * 12 + n) = nI (x n)) (h3 : ∀ n, n < 12 → M.1 (44 + a % 2) (b * 12 + (12 + n)) = nI (y n)) (hv : ∀ n, n < 12 → v n = if (0 + n) % 2 = 0 then avg (c n) (x n) (y ((n + 1) % 12)) else avg (c n) (y n) (x ((n + 1) % 12))) : mx_Met l G yX0_reckonScore cX0_reckonScore 16 (none) 0 0 [.ref 39, .int (nI a), .int (nI b)] M (mx_F none (fwM M (44 + a % 2) (b * 12) (fun n => nI (v n)) 12)) := by
  refine mx_enter (own := RX0) (L := [.ref 39, .int (nI a), .int (nI b), .null, .null, .null, .null, .null, .null, .null, .null, .null, .null, .null, .null, .null]) (by decide +kernel) rfl rfl rfl ?_
  intro X hlX hX hR hT
  have g6 : nI b * 12 = nI (b * 12) := by rw [show (12 : Int32) = nI 12 from rfl, pk_mul]
  have g7 : nI (b * 12) + 12 = nI (b * 12 + 12) := nI_add _ 12
  refine r_aload_n 1 hX dX0_reckonScore_0 rfl ?_
  refine r_getR 4 hX dX0_reckonScore_1 fX0_23 rfl rfl rfl ?_
  refine r_iload_n 5 hX dX0_reckonScore_4 rfl ?_
  refine r_iconst 6 hX dX0_reckonScore_5 (v := 1) (by decide) ?_
  refine r_iand 7 hX dX0_reckonScore_6 ?_
  rw [and1 a (by omega)]
  refine r_aaldK 8 hX dX0_reckonScore_7 rfl rfl (vp_in_nI (show a % 2 < 2 by omega) (by decide)) (rwR a) ?_
  refine r_astore_n 9 hX dX0_reckonScore_8 rfl ?_
  refine r_aload_n 10 hX dX0_reckonScore_9 rfl ?_
  refine r_getR 13 hX dX0_reckonScore_10 fX0_23 rfl rfl rfl ?_
  refine r_iload_n 14 hX dX0_reckonScore_13 rfl ?_
  refine r_iconst 15 hX dX0_reckonScore_14 (v := 1) (by decide) ?_
  refine r_iadd 16 hX dX0_reckonScore_15 ?_
  refine r_iconst 17 hX dX0_reckonScore_16 (v := 1) (by decide) ?_
  refine r_iand 18 hX dX0_reckonScore_17 ?_
  rw [nI_1, and1 (a + 1) (by omega)]
  refine r_aaldK 19 hX dX0_reckonScore_18 rfl rfl (vp_in_nI (show (a + 1) % 2 < 2 by omega) (by decide)) (rwR (a + 1)) ?_
  refine r_astore 21 hX dX0_reckonScore_19 rfl ?_
  refine r_iload_n 22 hX dX0_reckonScore_21 rfl ?_
  refine r_bipush 24 hX dX0_reckonScore_22 (v := 12) (by decide) ?_
  refine r_imul 25 hX dX0_reckonScore_24 ?_
  rw [g6]
  refine r_istore 27 hX dX0_reckonScore_25 rfl ?_
  refine (show mx_WW G X 27 [_, _, _, _, _, _, _, _, _, _, _, _, _, _, _, _] _ _ from ?_)
  refine r_iload 29 hX dX0_reckonScore_27 rfl ?_
  refine r_bipush 31 hX dX0_reckonScore_29 (v := 12) (by decide) ?_
  refine r_iadd 32 hX dX0_reckonScore_31 ?_
  rw [g7]
  refine r_istore 34 hX dX0_reckonScore_32 rfl ?_
  refine r_aload_n 35 hX dX0_reckonScore_34 rfl ?_
  refine r_getI 38 hX dX0_reckonScore_35 fX0_26 rfl rfl rfl ?_
  rw [hf]
  refine r_istore 40 hX dX0_reckonScore_38 rfl ?_
  refine r_iconst 41 hX dX0_reckonScore_40 (v := 0) (by decide) ?_
  refine r_istore 43 hX dX0_reckonScore_41 rfl ?_
  skip
  have key := mx_back (P := fun i => ∀ w9 w10 w11 w12 w13 w14 w15 : Value, mx_WW G X 43 [.ref 39, .int (nI a), .int (nI b), .ref (44 + a % 2), .ref (44 + (a + 1) % 2), .int (nI (b * 12)), .int (nI (b * 12 + 12)), .int (nI ((0 + i) % 2)), .int (nI i), w9, w10, w11, w12, w13, w14, w15] [] (fwM M (44 + a % 2) (b * 12) (fun n => nI (v n)) i)) 12 (fun i hi ih => ?_) ?_
  · exact key _ _ _ _ _ _ _
  · intro w9 w10 w11 w12 w13 w14 w15
    have q1 : (fwM M (44 + a % 2) (b * 12) (fun n => nI (v n)) i).1 42 i = nI (c i) := by rw [fwM_ne _ _ (by omega)]; exact h1 i hi
    rcases Nat.mod_two_eq_zero_or_one (0 + i) with e | e
    · rw [e]
      refine rkI_0 hX hi hb (hc i) (hx i hi) (hy ((i + 1) % 12) (by omega)) q1 ?_ ?_ ?_
      · rw [fwM_ne _ _ (rw_ne a)]; exact h2 i hi
      · rw [fwM_out _ _ _ (by omega)]; exact h3 _ (by omega)
      · have e2 : (0 + (i + 1)) % 2 = 1 := by omega
        have e3 := hv i hi
        rw [if_pos e] at e3
        rw [← e3]
        rw [e2] at ih
        exact ih
    · rw [e]
      refine rkI_1 hX hi hb (hc i) (hy i hi) (hx ((i + 1) % 12) (by omega)) q1 ?_ ?_ ?_
      · rw [fwM_out _ _ _ (by omega)]; exact h3 i hi
      · rw [fwM_ne _ _ (rw_ne a)]; exact h2 _ (by omega)
      · have e2 : (0 + (i + 1)) % 2 = 0 := by omega
        have e3 := hv i hi
        rw [if_neg (by omega)] at e3
        rw [← e3]
        rw [e2] at ih
        exact ih
  · intro w9 w10 w11 w12 w13 w14 w15
    show mx_WW G X 43 [.ref 39, .int (nI a), .int (nI b), .ref (44 + a % 2), .ref (44 + (a + 1) % 2), .int (nI (b * 12)), .int (nI (b * 12 + 12)), .int (nI ((0 + 12) % 2)), .int 12, w9, w10, w11, w12, w13, w14, w15] [] _
    refine r_iload 45 hX dX0_reckonScore_43 rfl ?_
    refine r_bipush 47 hX dX0_reckonScore_45 (v := 12) (by decide) ?_
    refine r_icmp_ge 50 172 hX dX0_reckonScore_47 (fun _ => ?_) (fun c => absurd c (by decide))
    refine r_vret hX hT dX0_reckonScore_172 ?_
    exact ⟨rfl, rfl⟩
set_option maxRecDepth 100000 in
set_option maxHeartbeats 4000000 in
theorem tX0_reckonScore_1 {l : Launch} {G : mx_G} {a b : Nat} (c x y v : Nat → Nat) {M : mx_Mem} (ha : a < 100) (hb : b + 1 ≤ 30) (hf : M.1 39 4 = 1) (hc : ∀ n, c n ≤ 1000) (hx : ∀ n, n < 12 → x n ≤ 1000000000) (hy : ∀ n, n < 12 → y n ≤ 1000000000) (h1 : ∀ n, n < 12 → M.1 42 n = nI (c n)) (h2 : ∀ n, n < 12 → M.1 (44 + (a + 1) % 2) (b * 12 + n) = nI (x n)) (h3 : ∀ n, n < 12 → M.1 (44 + a % 2) (b * 12 + (12 + n)) = nI (y n)) (hv : ∀ n, n < 12 → v n = if (1 + n) % 2 = 0 then avg (c n) (x n) (y ((n + 1) % 12)) else avg (c n) (y n) (x ((n + 1) % 12))) : mx_Met l G yX0_reckonScore cX0_reckonScore 16 (none) 0 0 [.ref 39, .int (nI a), .int (nI b)] M (mx_F none (fwM M (44 + a % 2) (b * 12) (fun n => nI (v n)) 12)) := by
  refine mx_enter (own := RX0) (L := [.ref 39, .int (nI a), .int (nI b), .null, .null, .null, .null, .null, .null, .null, .null, .null, .null, .null, .null, .null]) (by decide +kernel) rfl rfl rfl ?_
  intro X hlX hX hR hT
  have g6 : nI b * 12 = nI (b * 12) := by rw [show (12 : Int32) = nI 12 from rfl, pk_mul]
  have g7 : nI (b * 12) + 12 = nI (b * 12 + 12) := nI_add _ 12
  refine r_aload_n 1 hX dX0_reckonScore_0 rfl ?_
  refine r_getR 4 hX dX0_reckonScore_1 fX0_23 rfl rfl rfl ?_
  refine r_iload_n 5 hX dX0_reckonScore_4 rfl ?_
  refine r_iconst 6 hX dX0_reckonScore_5 (v := 1) (by decide) ?_
  refine r_iand 7 hX dX0_reckonScore_6 ?_
  rw [and1 a (by omega)]
  refine r_aaldK 8 hX dX0_reckonScore_7 rfl rfl (vp_in_nI (show a % 2 < 2 by omega) (by decide)) (rwR a) ?_
  refine r_astore_n 9 hX dX0_reckonScore_8 rfl ?_
  refine r_aload_n 10 hX dX0_reckonScore_9 rfl ?_
  refine r_getR 13 hX dX0_reckonScore_10 fX0_23 rfl rfl rfl ?_
  refine r_iload_n 14 hX dX0_reckonScore_13 rfl ?_
  refine r_iconst 15 hX dX0_reckonScore_14 (v := 1) (by decide) ?_
  refine r_iadd 16 hX dX0_reckonScore_15 ?_
  refine r_iconst 17 hX dX0_reckonScore_16 (v := 1) (by decide) ?_
  refine r_iand 18 hX dX0_reckonScore_17 ?_
  rw [nI_1, and1 (a + 1) (by omega)]
  refine r_aaldK 19 hX dX0_reckonScore_18 rfl rfl (vp_in_nI (show (a + 1) % 2 < 2 by omega) (by decide)) (rwR (a + 1)) ?_
  refine r_astore 21 hX dX0_reckonScore_19 rfl ?_
  refine r_iload_n 22 hX dX0_reckonScore_21 rfl ?_
  refine r_bipush 24 hX dX0_reckonScore_22 (v := 12) (by decide) ?_
  refine r_imul 25 hX dX0_reckonScore_24 ?_
  rw [g6]
  refine r_istore 27 hX dX0_reckonScore_25 rfl ?_
  refine (show mx_WW G X 27 [_, _, _, _, _, _, _, _, _, _, _, _, _, _, _, _] _ _ from ?_)
  refine r_iload 29 hX dX0_reckonScore_27 rfl ?_
  refine r_bipush 31 hX dX0_reckonScore_29 (v := 12) (by decide) ?_
  refine r_iadd 32 hX dX0_reckonScore_31 ?_
  rw [g7]
  refine r_istore 34 hX dX0_reckonScore_32 rfl ?_
  refine r_aload_n 35 hX dX0_reckonScore_34 rfl ?_
  refine r_getI 38 hX dX0_reckonScore_35 fX0_26 rfl rfl rfl ?_
  rw [hf]
  refine r_istore 40 hX dX0_reckonScore_38 rfl ?_
  refine r_iconst 41 hX dX0_reckonScore_40 (v := 0) (by decide) ?_
  refine r_istore 43 hX dX0_reckonScore_41 rfl ?_
  skip
  have key := mx_back (P := fun i => ∀ w9 w10 w11 w12 w13 w14 w15 : Value, mx_WW G X 43 [.ref 39, .int (nI a), .int (nI b), .ref (44 + a % 2), .ref (44 + (a + 1) % 2), .int (nI (b * 12)), .int (nI (b * 12 + 12)), .int (nI ((1 + i) % 2)), .int (nI i), w9, w10, w11, w12, w13, w14, w15] [] (fwM M (44 + a % 2) (b * 12) (fun n => nI (v n)) i)) 12 (fun i hi ih => ?_) ?_
  · exact key _ _ _ _ _ _ _
  · intro w9 w10 w11 w12 w13 w14 w15
    have q1 : (fwM M (44 + a % 2) (b * 12) (fun n => nI (v n)) i).1 42 i = nI (c i) := by rw [fwM_ne _ _ (by omega)]; exact h1 i hi
    rcases Nat.mod_two_eq_zero_or_one (1 + i) with e | e
    · rw [e]
      refine rkI_0 hX hi hb (hc i) (hx i hi) (hy ((i + 1) % 12) (by omega)) q1 ?_ ?_ ?_
      · rw [fwM_ne _ _ (rw_ne a)]; exact h2 i hi
      · rw [fwM_out _ _ _ (by omega)]; exact h3 _ (by omega)
      · have e2 : (1 + (i + 1)) % 2 = 1 := by omega
        have e3 := hv i hi
        rw [if_pos e] at e3
        rw [← e3]
        rw [e2] at ih
        exact ih
    · rw [e]
      refine rkI_1 hX hi hb (hc i) (hy i hi) (hx ((i + 1) % 12) (by omega)) q1 ?_ ?_ ?_
      · rw [fwM_out _ _ _ (by omega)]; exact h3 i hi
      · rw [fwM_ne _ _ (rw_ne a)]; exact h2 _ (by omega)
      · have e2 : (1 + (i + 1)) % 2 = 0 := by omega
        have e3 := hv i hi
        rw [if_neg (by omega)] at e3
        rw [← e3]
        rw [e2] at ih
        exact ih
  · intro w9 w10 w11 w12 w13 w14 w15
    show mx_WW G X 43 [.ref 39, .int (nI a), .int (nI b), .ref (44 + a % 2), .ref (44 + (a + 1) % 2), .int (nI (b * 12)), .int (nI (b * 12 + 12)), .int (nI ((1 + 12) % 2)), .int 12, w9, w10, w11, w12, w13, w14, w15] [] _
    refine r_iload 45 hX dX0_reckonScore_43 rfl ?_
    refine r_bipush 47 hX dX0_reckonScore_45 (v := 12) (by decide) ?_
    refine r_icmp_ge 50 172 hX dX0_reckonScore_47 (fun _ => ?_) (fun c => absurd c (by decide))
    refine r_vret hX hT dX0_reckonScore_172 ?_
    exact ⟨rfl, rfl⟩

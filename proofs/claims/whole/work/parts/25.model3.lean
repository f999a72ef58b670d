/-! the model: points, answers -/
def ptA_0 (M : mx_Mem) : mx_Mem := mI (mI (mI (mI M 52 3 (M.1 52 3 + 1)) 52 13 0) 52 63 0) 52 6 (M.1 52 6 + 1)
def ptS_0 (N : mx_Mem) (s : Int32) : mx_Mem :=
  let N1 := mI N 52 11 (N.1 52 11 + 1)
  mI N1 52 (s.toNatClampNeg + 44) (N1.1 52 (s.toNatClampNeg + 44) + 1)
def ptB_0 (M : mx_Mem) : mx_Mem := if M.1 52 2 = 0 then ptS_0 (ptA_0 M) (M.1 52 14) else mtn_0 (mI (mI (mI (ptA_0 M) 52 61 0) 52 11 0) 52 2 0)
abbrev ptW_0 (N : mx_Mem) (g : Int32) : Prop := (g ≤ N.1 52 6 ∧ 2 ≤ N.1 52 6 - N.1 52 56) ∨ N.1 49 1 ≤ N.1 52 6
def ptN_0 (N : mx_Mem) : mx_Mem := mI (mI (mI (mI N 52 1 0) 52 2 (-1)) 52 5 0) 52 7 (N.1 52 7 + 1)
def ptR_0 (N : mx_Mem) (g : Int32) : Int32 := if ptW_0 N g then (if N.1 49 3 ≤ N.1 52 7 + 1 then 2 else 1) else 0
def ptM_0 (N : mx_Mem) (g : Int32) : mx_Mem := if ptW_0 N g then (if N.1 49 3 ≤ N.1 52 7 + 1 then mI (ptN_0 N) 52 4 0 else ptN_0 N) else N
theorem ptE_0 {l : Launch} {G : mx_G} {X : mx_X} {N : mx_Mem} {g : Int32} {v3 : Value} {Post : Option Value → mx_Mem → Prop} (hlX : mx_l X = l) (hX : mx_OK G X RX8 cX8_point 4) (hR : mx_RM X 3 62) (hT : mx_RT G X (some FieldType.int) Post) (hP : Post (some (.int (ptR_0 N g))) (ptM_0 N g)) : mx_WW G X 128 [.ref 46, .int 0, .int g, v3] [] N := by
  refine r_aload_n 129 hX dX8_point_128 rfl ?_
  refine r_aload_n 130 hX dX8_point_129 rfl ?_
  refine r_iload_n 131 hX dX8_point_130 rfl ?_
  refine r_iconst 132 hX dX8_point_131 (v := 0) (by decide) ?_
  refine r_cV2F 135 hX hR (tX8_get (t := 0) (k := 0) (n := 6) rfl (by decide)) dX8_point_132 kX8_get lX8_95 rfl rfl rfl rfl rfl rfl ?_
  refine r_aload_n 136 hX dX8_point_135 rfl ?_
  refine r_iconst 137 hX dX8_point_136 (v := 1) (by decide) ?_
  refine r_iload_n 138 hX dX8_point_137 rfl ?_
  refine r_isubK 139 hX dX8_point_138 (w := 1) (by decide) ?_
  refine r_iconst 140 hX dX8_point_139 (v := 0) (by decide) ?_
  refine r_cV2F 143 hX hR (tX8_get (t := 1) (k := 0) (n := 56) rfl (by decide)) dX8_point_140 kX8_get lX8_95 rfl rfl rfl rfl rfl rfl ?_
  refine r_iload_n 144 hX dX8_point_143 rfl ?_
  refine r_cV3F 147 hX hR tX8_wins dX8_point_144 kX8_wins lX8_110 rfl rfl rfl rfl rfl rfl ?_
  refine r_Bne 150 152 hX dX8_point_147 (fun c1 => ?_) (fun c1 => ?_)
  · refine r_aload_n 153 hX dX8_point_152 rfl ?_
    refine r_getR 156 hX dX8_point_153 fX8_26 rfl rfl rfl ?_
    refine r_iconst 157 hX dX8_point_156 (v := 1) (by decide) ?_
    refine r_iconst 158 hX dX8_point_157 (v := 0) (by decide) ?_
    refine r_iastK 159 hX dX8_point_158 rfl rfl (vpK rfl) (j := 1) (by decide) ?_
    refine r_aload_n 160 hX dX8_point_159 rfl ?_
    refine r_getR 163 hX dX8_point_160 fX8_26 rfl rfl rfl ?_
    refine r_iconst 164 hX dX8_point_163 (v := 2) (by decide) ?_
    refine r_iconst 165 hX dX8_point_164 (v := -1) (by decide) ?_
    refine r_iastK 166 hX dX8_point_165 rfl rfl (vpK rfl) (j := 2) (by decide) ?_
    refine r_aload_n 167 hX dX8_point_166 rfl ?_
    refine r_getR 170 hX dX8_point_167 fX8_26 rfl rfl rfl ?_
    refine r_iconst 171 hX dX8_point_170 (v := 5) (by decide) ?_
    refine r_iload_n 172 hX dX8_point_171 rfl ?_
    refine r_iastK 173 hX dX8_point_172 rfl rfl (vpK rfl) (j := 5) (by decide) ?_
    refine r_aload_n 174 hX dX8_point_173 rfl ?_
    refine r_iload_n 175 hX dX8_point_174 rfl ?_
    refine r_iconst 176 hX dX8_point_175 (v := 1) (by decide) ?_
    refine r_aload_n 177 hX dX8_point_176 rfl ?_
    refine r_iload_n 178 hX dX8_point_177 rfl ?_
    refine r_iconst 179 hX dX8_point_178 (v := 1) (by decide) ?_
    refine r_cV2F 182 hX hR (tX8_get (t := 0) (k := 1) (n := 7) rfl (by decide)) dX8_point_179 kX8_get lX8_95 rfl rfl rfl rfl rfl rfl ?_
    refine r_iconst 183 hX dX8_point_182 (v := 1) (by decide) ?_
    refine r_iadd 184 hX dX8_point_183 ?_
    refine r_cV3U 187 hX hR (tX8_put (t := 0) (k := 1) (n := 7) rfl (by decide)) dX8_point_184 kX8_put lX8_56 rfl rfl rfl rfl rfl rfl ?_
    refine r_aload_n 188 hX dX8_point_187 rfl ?_
    refine r_iload_n 189 hX dX8_point_188 rfl ?_
    refine r_iconst 190 hX dX8_point_189 (v := 1) (by decide) ?_
    refine r_cV2F 193 hX hR (tX8_get (t := 0) (k := 1) (n := 7) rfl (by decide)) dX8_point_190 kX8_get lX8_95 rfl rfl rfl rfl rfl rfl ?_
    refine r_aload_n 194 hX dX8_point_193 rfl ?_
    refine r_getR 197 hX dX8_point_194 fX8_16 rfl rfl rfl ?_
    refine r_iconst 198 hX dX8_point_197 (v := 3) (by decide) ?_
    refine r_ialdK 199 hX dX8_point_198 rfl rfl (vpK rfl) (j := 3) (by decide) ?_
    refine r_icmp_ge 202 204 hX dX8_point_199 (fun c2 => ?_) (fun c2 => ?_)
    · refine r_aload_n 205 hX dX8_point_204 rfl ?_
      refine r_getR 208 hX dX8_point_205 fX8_26 rfl rfl rfl ?_
      refine r_iconst 209 hX dX8_point_208 (v := 4) (by decide) ?_
      refine r_iload_n 210 hX dX8_point_209 rfl ?_
      refine r_iastK 211 hX dX8_point_210 rfl rfl (vpK rfl) (j := 4) (by decide) ?_
      refine r_iconst 212 hX dX8_point_211 (v := 2) (by decide) ?_
      refine r_iret hX hT dX8_point_212 ?_
      have c2' : N.1 49 3 ≤ N.1 52 7 + 1 := c2
      unfold ptR_0 ptM_0 at hP
      rw [if_pos c1, if_pos c1, if_pos c2', if_pos c2'] at hP
      exact hP
    · refine r_iconst 203 hX dX8_point_202 (v := 1) (by decide) ?_
      refine r_iret hX hT dX8_point_203 ?_
      have c2' : ¬ N.1 49 3 ≤ N.1 52 7 + 1 := c2
      unfold ptR_0 ptM_0 at hP
      rw [if_pos c1, if_pos c1, if_neg c2', if_neg c2'] at hP
      exact hP
  · refine r_iconst 151 hX dX8_point_150 (v := 0) (by decide) ?_
    refine r_iret hX hT dX8_point_151 ?_
    unfold ptR_0 ptM_0 at hP
    rw [if_neg c1, if_neg c1] at hP
    exact hP
set_option maxRecDepth 100000 in
set_option maxHeartbeats 4000000 in
theorem tX8_point_0 {l : Launch} {G : mx_G} {M : mx_Mem} (hp : isP (M.1 52 14)) : mx_Met l G yX8_point cX8_point 4 ((some FieldType.int)) 3 62 [.ref 46, .int 0] M (mx_F (some (.int (ptR_0 (ptB_0 M) (tgM M)))) (ptM_0 (ptB_0 M) (tgM M))) := by
  refine mx_enter (own := RX8) (L := [.ref 46, .int 0, .null, .null]) (by decide +kernel) rfl rfl rfl ?_
  intro X hlX hX hR hT
  refine r_aload_n 1 hX dX8_point_0 rfl ?_
  refine r_cV0F 4 hX hR tX8_goal dX8_point_1 kX8_goal lX8_102 rfl rfl rfl rfl rfl rfl ?_
  refine r_istore_n 5 hX dX8_point_4 rfl ?_
  refine r_aload_n 6 hX dX8_point_5 rfl ?_
  refine r_getR 9 hX dX8_point_6 fX8_26 rfl rfl rfl ?_
  refine r_iconst 10 hX dX8_point_9 (v := 3) (by decide) ?_
  refine r_dup2 11 hX dX8_point_10 rfl rfl ?_
  refine r_ialdK 12 hX dX8_point_11 rfl rfl (vpK rfl) (j := 3) (by decide) ?_
  refine r_iconst 13 hX dX8_point_12 (v := 1) (by decide) ?_
  refine r_iadd 14 hX dX8_point_13 ?_
  refine r_iastK 15 hX dX8_point_14 rfl rfl (vpK rfl) (j := 3) (by decide) ?_
  refine r_aload_n 16 hX dX8_point_15 rfl ?_
  refine r_iconst 17 hX dX8_point_16 (v := 0) (by decide) ?_
  refine r_bipush 19 hX dX8_point_17 (v := 7) (by decide) ?_
  refine r_iconst 20 hX dX8_point_19 (v := 0) (by decide) ?_
  refine r_cV3U 23 hX hR (tX8_put (t := 0) (k := 7) (n := 13) rfl (by decide)) dX8_point_20 kX8_put lX8_56 rfl rfl rfl rfl rfl rfl ?_
  refine r_aload_n 24 hX dX8_point_23 rfl ?_
  refine r_iconst 25 hX dX8_point_24 (v := 1) (by decide) ?_
  refine r_bipush 27 hX dX8_point_25 (v := 7) (by decide) ?_
  refine r_iconst 28 hX dX8_point_27 (v := 0) (by decide) ?_
  refine r_cV3U 31 hX hR (tX8_put (t := 1) (k := 7) (n := 63) rfl (by decide)) dX8_point_28 kX8_put lX8_56 rfl rfl rfl rfl rfl rfl ?_
  refine r_aload_n 32 hX dX8_point_31 rfl ?_
  refine r_iload_n 33 hX dX8_point_32 rfl ?_
  refine r_iconst 34 hX dX8_point_33 (v := 0) (by decide) ?_
  refine r_aload_n 35 hX dX8_point_34 rfl ?_
  refine r_iload_n 36 hX dX8_point_35 rfl ?_
  refine r_iconst 37 hX dX8_point_36 (v := 0) (by decide) ?_
  refine r_cV2F 40 hX hR (tX8_get (t := 0) (k := 0) (n := 6) rfl (by decide)) dX8_point_37 kX8_get lX8_95 rfl rfl rfl rfl rfl rfl ?_
  refine r_iconst 41 hX dX8_point_40 (v := 1) (by decide) ?_
  refine r_iadd 42 hX dX8_point_41 ?_
  refine r_cV3U 45 hX hR (tX8_put (t := 0) (k := 0) (n := 6) rfl (by decide)) dX8_point_42 kX8_put lX8_56 rfl rfl rfl rfl rfl rfl ?_
  refine r_aload_n 46 hX dX8_point_45 rfl ?_
  refine r_getR 49 hX dX8_point_46 fX8_26 rfl rfl rfl ?_
  refine r_iconst 50 hX dX8_point_49 (v := 2) (by decide) ?_
  refine r_ialdK 51 hX dX8_point_50 rfl rfl (vpK rfl) (j := 2) (by decide) ?_
  refine r_iload_n 52 hX dX8_point_51 rfl ?_
  refine r_icmp_ne 55 100 hX dX8_point_52 (fun c1 => ?_) (fun c1 => ?_)
  · refine r_aload_n 101 hX dX8_point_100 rfl ?_
    refine r_iconst 102 hX dX8_point_101 (v := 1) (by decide) ?_
    refine r_iload_n 103 hX dX8_point_102 rfl ?_
    refine r_isubK 104 hX dX8_point_103 (w := 1) (by decide) ?_
    refine r_iconst 105 hX dX8_point_104 (v := 5) (by decide) ?_
    refine r_iconst 106 hX dX8_point_105 (v := 0) (by decide) ?_
    refine r_cV3U 109 hX hR (tX8_put (t := 1) (k := 5) (n := 61) rfl (by decide)) dX8_point_106 kX8_put lX8_56 rfl rfl rfl rfl rfl rfl ?_
    refine r_aload_n 110 hX dX8_point_109 rfl ?_
    refine r_iload_n 111 hX dX8_point_110 rfl ?_
    refine r_iconst 112 hX dX8_point_111 (v := 5) (by decide) ?_
    refine r_iconst 113 hX dX8_point_112 (v := 0) (by decide) ?_
    refine r_cV3U 116 hX hR (tX8_put (t := 0) (k := 5) (n := 11) rfl (by decide)) dX8_point_113 kX8_put lX8_56 rfl rfl rfl rfl rfl rfl ?_
    refine r_aload_n 117 hX dX8_point_116 rfl ?_
    refine r_getR 120 hX dX8_point_117 fX8_26 rfl rfl rfl ?_
    refine r_iconst 121 hX dX8_point_120 (v := 2) (by decide) ?_
    refine r_iload_n 122 hX dX8_point_121 rfl ?_
    refine r_iastK 123 hX dX8_point_122 rfl rfl (vpK rfl) (j := 2) (by decide) ?_
    refine r_aload_n 124 hX dX8_point_123 rfl ?_
    refine r_iload_n 125 hX dX8_point_124 rfl ?_
    refine r_cV1U 128 hX hR tX8_turn_0 dX8_point_125 kX8_turn lX8_106 rfl rfl rfl rfl rfl rfl ?_
    refine ptE_0 hlX hX hR hT ?_
    unfold ptB_0
    first | (rw [if_neg (show ¬ M.1 52 2 = 0 from c1)]; exact ⟨rfl, rfl⟩) | (rw [if_pos (show M.1 52 2 = 0 from c1)]; exact ⟨rfl, rfl⟩)
  · refine r_aload_n 56 hX dX8_point_55 rfl ?_
    refine r_iload_n 57 hX dX8_point_56 rfl ?_
    refine r_iconst 58 hX dX8_point_57 (v := 5) (by decide) ?_
    refine r_aload_n 59 hX dX8_point_58 rfl ?_
    refine r_iload_n 60 hX dX8_point_59 rfl ?_
    refine r_iconst 61 hX dX8_point_60 (v := 5) (by decide) ?_
    refine r_cV2F 64 hX hR (tX8_get (t := 0) (k := 5) (n := 11) rfl (by decide)) dX8_point_61 kX8_get lX8_95 rfl rfl rfl rfl rfl rfl ?_
    refine r_iconst 65 hX dX8_point_64 (v := 1) (by decide) ?_
    refine r_iadd 66 hX dX8_point_65 ?_
    refine r_cV3U 69 hX hR (tX8_put (t := 0) (k := 5) (n := 11) rfl (by decide)) dX8_point_66 kX8_put lX8_56 rfl rfl rfl rfl rfl rfl ?_
    refine r_aload_n 70 hX dX8_point_69 rfl ?_
    refine r_iload_n 71 hX dX8_point_70 rfl ?_
    refine r_bipush 73 hX dX8_point_71 (v := 8) (by decide) ?_
    refine r_cV2F 76 hX hR (tX8_get (t := 0) (k := 8) (n := 14) rfl (by decide)) dX8_point_73 kX8_get lX8_95 rfl rfl rfl rfl rfl rfl ?_
    refine r_istore_n 77 hX dX8_point_76 rfl ?_
    refine r_aload_n 78 hX dX8_point_77 rfl ?_
    refine r_iload_n 79 hX dX8_point_78 rfl ?_
    refine r_bipush 81 hX dX8_point_79 (v := 38) (by decide) ?_
    refine r_iload_n 82 hX dX8_point_81 rfl ?_
    refine r_iadd 83 hX dX8_point_82 ?_
    refine r_aload_n 84 hX dX8_point_83 rfl ?_
    refine r_iload_n 85 hX dX8_point_84 rfl ?_
    refine r_bipush 87 hX dX8_point_85 (v := 38) (by decide) ?_
    refine r_iload_n 88 hX dX8_point_87 rfl ?_
    refine r_iadd 89 hX dX8_point_88 ?_
    refine r_cV2F 92 hX hR (tX8_getV 0 38 44 12 rfl (by decide) (vpP hp)) dX8_point_89 kX8_get lX8_95 rfl rfl rfl rfl rfl rfl ?_
    refine r_iconst 93 hX dX8_point_92 (v := 1) (by decide) ?_
    refine r_iadd 94 hX dX8_point_93 ?_
    refine r_cV3U 97 hX hR (tX8_putV 0 38 44 12 rfl (by decide) (vpP hp)) dX8_point_94 kX8_put lX8_56 rfl rfl rfl rfl rfl rfl ?_
    refine r_goto 128 hX dX8_point_97 ?_
    refine ptE_0 hlX hX hR hT ?_
    unfold ptB_0
    first | (rw [if_neg (show ¬ M.1 52 2 = 0 from c1)]; exact ⟨rfl, rfl⟩) | (rw [if_pos (show M.1 52 2 = 0 from c1)]; exact ⟨rfl, rfl⟩)
set_option maxRecDepth 100000 in
set_option maxHeartbeats 4000000 in
theorem tX8_rally_0 {l : Launch} {G : mx_G} {M : mx_Mem} (hp : M.1 52 1 = 1 → isP (M.1 52 14)) : mx_Met l G yX8_rally cX8_rally 2 ((some FieldType.int)) 4 85 [.ref 46, .int 0] M (mx_F (some (.int (if M.1 52 1 = 1 then ptR_0 (ptB_0 (th0 M)) (tgM (th0 M)) else -1))) (if M.1 52 1 = 1 then ptM_0 (ptB_0 (th0 M)) (tgM (th0 M)) else th0 M)) := by
  refine mx_enter (own := RX8) (L := [.ref 46, .int 0]) (by decide +kernel) rfl rfl rfl ?_
  intro X hlX hX hR hT
  refine r_aload_n 1 hX dX8_rally_0 rfl ?_
  refine r_iconst 2 hX dX8_rally_1 (v := 0) (by decide) ?_
  refine r_putI 5 hX dX8_rally_2 fX8_63 fp8_13 rfl rfl rfl ?_
  refine r_iload_n 6 hX dX8_rally_5 rfl ?_
  refine r_cS1F 9 hX hR tX8_isTeam_0 dX8_rally_6 kX8_isTeam lX8_71 rfl rfl rfl ?_
  refine r_if_eq 12 27 hX dX8_rally_9 (fun c => absurd c (by decide)) (fun _ => ?_)
  refine r_aload_n 13 hX dX8_rally_12 rfl ?_
  refine r_cV0F 16 hX hR tX8_isOn dX8_rally_13 kX8_isOn lX8_82 rfl rfl rfl rfl rfl rfl ?_
  refine r_Beq 19 27 hX dX8_rally_16 (fun c1 => ?_) (fun c1 => ?_)
  · refine r_iconst 28 hX dX8_rally_27 (v := -1) (by decide) ?_
    refine r_iret hX hT dX8_rally_28 ?_
    first | (rw [if_neg (show ¬ M.1 52 1 = 1 from c1), if_neg (show ¬ M.1 52 1 = 1 from c1)]; exact ⟨rfl, rfl⟩) | (rw [if_pos (show M.1 52 1 = 1 from c1), if_pos (show M.1 52 1 = 1 from c1)]; exact ⟨rfl, rfl⟩)
  · refine r_aload_n 20 hX dX8_rally_19 rfl ?_
    refine r_iload_n 21 hX dX8_rally_20 rfl ?_
    refine r_cV1F 24 hX hR (tX8_point_0 (hp c1)) dX8_rally_21 kX8_point lX8_113 rfl rfl rfl rfl rfl rfl ?_
    refine r_goto 28 hX dX8_rally_24 ?_
    refine r_iret hX hT dX8_rally_28 ?_
    first | (rw [if_neg (show ¬ M.1 52 1 = 1 from c1), if_neg (show ¬ M.1 52 1 = 1 from c1)]; exact ⟨rfl, rfl⟩) | (rw [if_pos (show M.1 52 1 = 1 from c1), if_pos (show M.1 52 1 = 1 from c1)]; exact ⟨rfl, rfl⟩)
def ptA_1 (M : mx_Mem) : mx_Mem := mI (mI (mI (mI M 52 3 (M.1 52 3 + 1)) 52 13 0) 52 63 0) 52 56 (M.1 52 56 + 1)
def ptS_1 (N : mx_Mem) (s : Int32) : mx_Mem :=
  let N1 := mI N 52 61 (N.1 52 61 + 1)
  mI N1 52 (s.toNatClampNeg + 94) (N1.1 52 (s.toNatClampNeg + 94) + 1)
def ptB_1 (M : mx_Mem) : mx_Mem := if M.1 52 2 = 1 then ptS_1 (ptA_1 M) (M.1 52 64) else mtn_1 (mI (mI (mI (ptA_1 M) 52 11 0) 52 61 0) 52 2 1)
abbrev ptW_1 (N : mx_Mem) (g : Int32) : Prop := (g ≤ N.1 52 56 ∧ 2 ≤ N.1 52 56 - N.1 52 6) ∨ N.1 49 1 ≤ N.1 52 56
def ptN_1 (N : mx_Mem) : mx_Mem := mI (mI (mI (mI N 52 1 0) 52 2 (-1)) 52 5 1) 52 57 (N.1 52 57 + 1)
def ptR_1 (N : mx_Mem) (g : Int32) : Int32 := if ptW_1 N g then (if N.1 49 3 ≤ N.1 52 57 + 1 then 2 else 1) else 0
def ptM_1 (N : mx_Mem) (g : Int32) : mx_Mem := if ptW_1 N g then (if N.1 49 3 ≤ N.1 52 57 + 1 then mI (ptN_1 N) 52 4 1 else ptN_1 N) else N
theorem ptE_1 {l : Launch} {G : mx_G} {X : mx_X} {N : mx_Mem} {g : Int32} {v3 : Value} {Post : Option Value → mx_Mem → Prop} (hlX : mx_l X = l) (hX : mx_OK G X RX8 cX8_point 4) (hR : mx_RM X 3 62) (hT : mx_RT G X (some FieldType.int) Post) (hP : Post (some (.int (ptR_1 N g))) (ptM_1 N g)) : mx_WW G X 128 [.ref 46, .int 1, .int g, v3] [] N := by
  refine r_aload_n 129 hX dX8_point_128 rfl ?_
  refine r_aload_n 130 hX dX8_point_129 rfl ?_
  refine r_iload_n 131 hX dX8_point_130 rfl ?_
  refine r_iconst 132 hX dX8_point_131 (v := 0) (by decide) ?_
  refine r_cV2F 135 hX hR (tX8_get (t := 1) (k := 0) (n := 56) rfl (by decide)) dX8_point_132 kX8_get lX8_95 rfl rfl rfl rfl rfl rfl ?_
  refine r_aload_n 136 hX dX8_point_135 rfl ?_
  refine r_iconst 137 hX dX8_point_136 (v := 1) (by decide) ?_
  refine r_iload_n 138 hX dX8_point_137 rfl ?_
  refine r_isubK 139 hX dX8_point_138 (w := 0) (by decide) ?_
  refine r_iconst 140 hX dX8_point_139 (v := 0) (by decide) ?_
  refine r_cV2F 143 hX hR (tX8_get (t := 0) (k := 0) (n := 6) rfl (by decide)) dX8_point_140 kX8_get lX8_95 rfl rfl rfl rfl rfl rfl ?_
  refine r_iload_n 144 hX dX8_point_143 rfl ?_
  refine r_cV3F 147 hX hR tX8_wins dX8_point_144 kX8_wins lX8_110 rfl rfl rfl rfl rfl rfl ?_
  refine r_Bne 150 152 hX dX8_point_147 (fun c1 => ?_) (fun c1 => ?_)
  · refine r_aload_n 153 hX dX8_point_152 rfl ?_
    refine r_getR 156 hX dX8_point_153 fX8_26 rfl rfl rfl ?_
    refine r_iconst 157 hX dX8_point_156 (v := 1) (by decide) ?_
    refine r_iconst 158 hX dX8_point_157 (v := 0) (by decide) ?_
    refine r_iastK 159 hX dX8_point_158 rfl rfl (vpK rfl) (j := 1) (by decide) ?_
    refine r_aload_n 160 hX dX8_point_159 rfl ?_
    refine r_getR 163 hX dX8_point_160 fX8_26 rfl rfl rfl ?_
    refine r_iconst 164 hX dX8_point_163 (v := 2) (by decide) ?_
    refine r_iconst 165 hX dX8_point_164 (v := -1) (by decide) ?_
    refine r_iastK 166 hX dX8_point_165 rfl rfl (vpK rfl) (j := 2) (by decide) ?_
    refine r_aload_n 167 hX dX8_point_166 rfl ?_
    refine r_getR 170 hX dX8_point_167 fX8_26 rfl rfl rfl ?_
    refine r_iconst 171 hX dX8_point_170 (v := 5) (by decide) ?_
    refine r_iload_n 172 hX dX8_point_171 rfl ?_
    refine r_iastK 173 hX dX8_point_172 rfl rfl (vpK rfl) (j := 5) (by decide) ?_
    refine r_aload_n 174 hX dX8_point_173 rfl ?_
    refine r_iload_n 175 hX dX8_point_174 rfl ?_
    refine r_iconst 176 hX dX8_point_175 (v := 1) (by decide) ?_
    refine r_aload_n 177 hX dX8_point_176 rfl ?_
    refine r_iload_n 178 hX dX8_point_177 rfl ?_
    refine r_iconst 179 hX dX8_point_178 (v := 1) (by decide) ?_
    refine r_cV2F 182 hX hR (tX8_get (t := 1) (k := 1) (n := 57) rfl (by decide)) dX8_point_179 kX8_get lX8_95 rfl rfl rfl rfl rfl rfl ?_
    refine r_iconst 183 hX dX8_point_182 (v := 1) (by decide) ?_
    refine r_iadd 184 hX dX8_point_183 ?_
    refine r_cV3U 187 hX hR (tX8_put (t := 1) (k := 1) (n := 57) rfl (by decide)) dX8_point_184 kX8_put lX8_56 rfl rfl rfl rfl rfl rfl ?_
    refine r_aload_n 188 hX dX8_point_187 rfl ?_
    refine r_iload_n 189 hX dX8_point_188 rfl ?_
    refine r_iconst 190 hX dX8_point_189 (v := 1) (by decide) ?_
    refine r_cV2F 193 hX hR (tX8_get (t := 1) (k := 1) (n := 57) rfl (by decide)) dX8_point_190 kX8_get lX8_95 rfl rfl rfl rfl rfl rfl ?_
    refine r_aload_n 194 hX dX8_point_193 rfl ?_
    refine r_getR 197 hX dX8_point_194 fX8_16 rfl rfl rfl ?_
    refine r_iconst 198 hX dX8_point_197 (v := 3) (by decide) ?_
    refine r_ialdK 199 hX dX8_point_198 rfl rfl (vpK rfl) (j := 3) (by decide) ?_
    refine r_icmp_ge 202 204 hX dX8_point_199 (fun c2 => ?_) (fun c2 => ?_)
    · refine r_aload_n 205 hX dX8_point_204 rfl ?_
      refine r_getR 208 hX dX8_point_205 fX8_26 rfl rfl rfl ?_
      refine r_iconst 209 hX dX8_point_208 (v := 4) (by decide) ?_
      refine r_iload_n 210 hX dX8_point_209 rfl ?_
      refine r_iastK 211 hX dX8_point_210 rfl rfl (vpK rfl) (j := 4) (by decide) ?_
      refine r_iconst 212 hX dX8_point_211 (v := 2) (by decide) ?_
      refine r_iret hX hT dX8_point_212 ?_
      have c2' : N.1 49 3 ≤ N.1 52 57 + 1 := c2
      unfold ptR_1 ptM_1 at hP
      rw [if_pos c1, if_pos c1, if_pos c2', if_pos c2'] at hP
      exact hP
    · refine r_iconst 203 hX dX8_point_202 (v := 1) (by decide) ?_
      refine r_iret hX hT dX8_point_203 ?_
      have c2' : ¬ N.1 49 3 ≤ N.1 52 57 + 1 := c2
      unfold ptR_1 ptM_1 at hP
      rw [if_pos c1, if_pos c1, if_neg c2', if_neg c2'] at hP
      exact hP
  · refine r_iconst 151 hX dX8_point_150 (v := 0) (by decide) ?_
    refine r_iret hX hT dX8_point_151 ?_
    unfold ptR_1 ptM_1 at hP
    rw [if_neg c1, if_neg c1] at hP
    exact hP
set_option maxRecDepth 100000 in
set_option maxHeartbeats 4000000 in
theorem tX8_point_1 {l : Launch} {G : mx_G} {M : mx_Mem} (hp : isP (M.1 52 64)) : mx_Met l G yX8_point cX8_point 4 ((some FieldType.int)) 3 62 [.ref 46, .int 1] M (mx_F (some (.int (ptR_1 (ptB_1 M) (tgM M)))) (ptM_1 (ptB_1 M) (tgM M))) := by
  refine mx_enter (own := RX8) (L := [.ref 46, .int 1, .null, .null]) (by decide +kernel) rfl rfl rfl ?_
  intro X hlX hX hR hT
  refine r_aload_n 1 hX dX8_point_0 rfl ?_
  refine r_cV0F 4 hX hR tX8_goal dX8_point_1 kX8_goal lX8_102 rfl rfl rfl rfl rfl rfl ?_
  refine r_istore_n 5 hX dX8_point_4 rfl ?_
  refine r_aload_n 6 hX dX8_point_5 rfl ?_
  refine r_getR 9 hX dX8_point_6 fX8_26 rfl rfl rfl ?_
  refine r_iconst 10 hX dX8_point_9 (v := 3) (by decide) ?_
  refine r_dup2 11 hX dX8_point_10 rfl rfl ?_
  refine r_ialdK 12 hX dX8_point_11 rfl rfl (vpK rfl) (j := 3) (by decide) ?_
  refine r_iconst 13 hX dX8_point_12 (v := 1) (by decide) ?_
  refine r_iadd 14 hX dX8_point_13 ?_
  refine r_iastK 15 hX dX8_point_14 rfl rfl (vpK rfl) (j := 3) (by decide) ?_
  refine r_aload_n 16 hX dX8_point_15 rfl ?_
  refine r_iconst 17 hX dX8_point_16 (v := 0) (by decide) ?_
  refine r_bipush 19 hX dX8_point_17 (v := 7) (by decide) ?_
  refine r_iconst 20 hX dX8_point_19 (v := 0) (by decide) ?_
  refine r_cV3U 23 hX hR (tX8_put (t := 0) (k := 7) (n := 13) rfl (by decide)) dX8_point_20 kX8_put lX8_56 rfl rfl rfl rfl rfl rfl ?_
  refine r_aload_n 24 hX dX8_point_23 rfl ?_
  refine r_iconst 25 hX dX8_point_24 (v := 1) (by decide) ?_
  refine r_bipush 27 hX dX8_point_25 (v := 7) (by decide) ?_
  refine r_iconst 28 hX dX8_point_27 (v := 0) (by decide) ?_
  refine r_cV3U 31 hX hR (tX8_put (t := 1) (k := 7) (n := 63) rfl (by decide)) dX8_point_28 kX8_put lX8_56 rfl rfl rfl rfl rfl rfl ?_
  refine r_aload_n 32 hX dX8_point_31 rfl ?_
  refine r_iload_n 33 hX dX8_point_32 rfl ?_
  refine r_iconst 34 hX dX8_point_33 (v := 0) (by decide) ?_
  refine r_aload_n 35 hX dX8_point_34 rfl ?_
  refine r_iload_n 36 hX dX8_point_35 rfl ?_
  refine r_iconst 37 hX dX8_point_36 (v := 0) (by decide) ?_
  refine r_cV2F 40 hX hR (tX8_get (t := 1) (k := 0) (n := 56) rfl (by decide)) dX8_point_37 kX8_get lX8_95 rfl rfl rfl rfl rfl rfl ?_
  refine r_iconst 41 hX dX8_point_40 (v := 1) (by decide) ?_
  refine r_iadd 42 hX dX8_point_41 ?_
  refine r_cV3U 45 hX hR (tX8_put (t := 1) (k := 0) (n := 56) rfl (by decide)) dX8_point_42 kX8_put lX8_56 rfl rfl rfl rfl rfl rfl ?_
  refine r_aload_n 46 hX dX8_point_45 rfl ?_
  refine r_getR 49 hX dX8_point_46 fX8_26 rfl rfl rfl ?_
  refine r_iconst 50 hX dX8_point_49 (v := 2) (by decide) ?_
  refine r_ialdK 51 hX dX8_point_50 rfl rfl (vpK rfl) (j := 2) (by decide) ?_
  refine r_iload_n 52 hX dX8_point_51 rfl ?_
  refine r_icmp_ne 55 100 hX dX8_point_52 (fun c1 => ?_) (fun c1 => ?_)
  · refine r_aload_n 101 hX dX8_point_100 rfl ?_
    refine r_iconst 102 hX dX8_point_101 (v := 1) (by decide) ?_
    refine r_iload_n 103 hX dX8_point_102 rfl ?_
    refine r_isubK 104 hX dX8_point_103 (w := 0) (by decide) ?_
    refine r_iconst 105 hX dX8_point_104 (v := 5) (by decide) ?_
    refine r_iconst 106 hX dX8_point_105 (v := 0) (by decide) ?_
    refine r_cV3U 109 hX hR (tX8_put (t := 0) (k := 5) (n := 11) rfl (by decide)) dX8_point_106 kX8_put lX8_56 rfl rfl rfl rfl rfl rfl ?_
    refine r_aload_n 110 hX dX8_point_109 rfl ?_
    refine r_iload_n 111 hX dX8_point_110 rfl ?_
    refine r_iconst 112 hX dX8_point_111 (v := 5) (by decide) ?_
    refine r_iconst 113 hX dX8_point_112 (v := 0) (by decide) ?_
    refine r_cV3U 116 hX hR (tX8_put (t := 1) (k := 5) (n := 61) rfl (by decide)) dX8_point_113 kX8_put lX8_56 rfl rfl rfl rfl rfl rfl ?_
    refine r_aload_n 117 hX dX8_point_116 rfl ?_
    refine r_getR 120 hX dX8_point_117 fX8_26 rfl rfl rfl ?_
    refine r_iconst 121 hX dX8_point_120 (v := 2) (by decide) ?_
    refine r_iload_n 122 hX dX8_point_121 rfl ?_
    refine r_iastK 123 hX dX8_point_122 rfl rfl (vpK rfl) (j := 2) (by decide) ?_
    refine r_aload_n 124 hX dX8_point_123 rfl ?_
    refine r_iload_n 125 hX dX8_point_124 rfl ?_
    refine r_cV1U 128 hX hR tX8_turn_1 dX8_point_125 kX8_turn lX8_106 rfl rfl rfl rfl rfl rfl ?_
    refine ptE_1 hlX hX hR hT ?_
    unfold ptB_1
    first | (rw [if_neg (show ¬ M.1 52 2 = 1 from c1)]; exact ⟨rfl, rfl⟩) | (rw [if_pos (show M.1 52 2 = 1 from c1)]; exact ⟨rfl, rfl⟩)
  · refine r_aload_n 56 hX dX8_point_55 rfl ?_
    refine r_iload_n 57 hX dX8_point_56 rfl ?_
    refine r_iconst 58 hX dX8_point_57 (v := 5) (by decide) ?_
    refine r_aload_n 59 hX dX8_point_58 rfl ?_
    refine r_iload_n 60 hX dX8_point_59 rfl ?_
    refine r_iconst 61 hX dX8_point_60 (v := 5) (by decide) ?_
    refine r_cV2F 64 hX hR (tX8_get (t := 1) (k := 5) (n := 61) rfl (by decide)) dX8_point_61 kX8_get lX8_95 rfl rfl rfl rfl rfl rfl ?_
    refine r_iconst 65 hX dX8_point_64 (v := 1) (by decide) ?_
    refine r_iadd 66 hX dX8_point_65 ?_
    refine r_cV3U 69 hX hR (tX8_put (t := 1) (k := 5) (n := 61) rfl (by decide)) dX8_point_66 kX8_put lX8_56 rfl rfl rfl rfl rfl rfl ?_
    refine r_aload_n 70 hX dX8_point_69 rfl ?_
    refine r_iload_n 71 hX dX8_point_70 rfl ?_
    refine r_bipush 73 hX dX8_point_71 (v := 8) (by decide) ?_
    refine r_cV2F 76 hX hR (tX8_get (t := 1) (k := 8) (n := 64) rfl (by decide)) dX8_point_73 kX8_get lX8_95 rfl rfl rfl rfl rfl rfl ?_
    refine r_istore_n 77 hX dX8_point_76 rfl ?_
    refine r_aload_n 78 hX dX8_point_77 rfl ?_
    refine r_iload_n 79 hX dX8_point_78 rfl ?_
    refine r_bipush 81 hX dX8_point_79 (v := 38) (by decide) ?_
    refine r_iload_n 82 hX dX8_point_81 rfl ?_
    refine r_iadd 83 hX dX8_point_82 ?_
    refine r_aload_n 84 hX dX8_point_83 rfl ?_
    refine r_iload_n 85 hX dX8_point_84 rfl ?_
    refine r_bipush 87 hX dX8_point_85 (v := 38) (by decide) ?_
    refine r_iload_n 88 hX dX8_point_87 rfl ?_
    refine r_iadd 89 hX dX8_point_88 ?_
    refine r_cV2F 92 hX hR (tX8_getV 1 38 94 12 rfl (by decide) (vpP hp)) dX8_point_89 kX8_get lX8_95 rfl rfl rfl rfl rfl rfl ?_
    refine r_iconst 93 hX dX8_point_92 (v := 1) (by decide) ?_
    refine r_iadd 94 hX dX8_point_93 ?_
    refine r_cV3U 97 hX hR (tX8_putV 1 38 94 12 rfl (by decide) (vpP hp)) dX8_point_94 kX8_put lX8_56 rfl rfl rfl rfl rfl rfl ?_
    refine r_goto 128 hX dX8_point_97 ?_
    refine ptE_1 hlX hX hR hT ?_
    unfold ptB_1
    first | (rw [if_neg (show ¬ M.1 52 2 = 1 from c1)]; exact ⟨rfl, rfl⟩) | (rw [if_pos (show M.1 52 2 = 1 from c1)]; exact ⟨rfl, rfl⟩)
set_option maxRecDepth 100000 in
set_option maxHeartbeats 4000000 in
theorem tX8_rally_1 {l : Launch} {G : mx_G} {M : mx_Mem} (hp : M.1 52 1 = 1 → isP (M.1 52 64)) : mx_Met l G yX8_rally cX8_rally 2 ((some FieldType.int)) 4 85 [.ref 46, .int 1] M (mx_F (some (.int (if M.1 52 1 = 1 then ptR_1 (ptB_1 (th0 M)) (tgM (th0 M)) else -1))) (if M.1 52 1 = 1 then ptM_1 (ptB_1 (th0 M)) (tgM (th0 M)) else th0 M)) := by
  refine mx_enter (own := RX8) (L := [.ref 46, .int 1]) (by decide +kernel) rfl rfl rfl ?_
  intro X hlX hX hR hT
  refine r_aload_n 1 hX dX8_rally_0 rfl ?_
  refine r_iconst 2 hX dX8_rally_1 (v := 0) (by decide) ?_
  refine r_putI 5 hX dX8_rally_2 fX8_63 fp8_13 rfl rfl rfl ?_
  refine r_iload_n 6 hX dX8_rally_5 rfl ?_
  refine r_cS1F 9 hX hR tX8_isTeam_1 dX8_rally_6 kX8_isTeam lX8_71 rfl rfl rfl ?_
  refine r_if_eq 12 27 hX dX8_rally_9 (fun c => absurd c (by decide)) (fun _ => ?_)
  refine r_aload_n 13 hX dX8_rally_12 rfl ?_
  refine r_cV0F 16 hX hR tX8_isOn dX8_rally_13 kX8_isOn lX8_82 rfl rfl rfl rfl rfl rfl ?_
  refine r_Beq 19 27 hX dX8_rally_16 (fun c1 => ?_) (fun c1 => ?_)
  · refine r_iconst 28 hX dX8_rally_27 (v := -1) (by decide) ?_
    refine r_iret hX hT dX8_rally_28 ?_
    first | (rw [if_neg (show ¬ M.1 52 1 = 1 from c1), if_neg (show ¬ M.1 52 1 = 1 from c1)]; exact ⟨rfl, rfl⟩) | (rw [if_pos (show M.1 52 1 = 1 from c1), if_pos (show M.1 52 1 = 1 from c1)]; exact ⟨rfl, rfl⟩)
  · refine r_aload_n 20 hX dX8_rally_19 rfl ?_
    refine r_iload_n 21 hX dX8_rally_20 rfl ?_
    refine r_cV1F 24 hX hR (tX8_point_1 (hp c1)) dX8_rally_21 kX8_point lX8_113 rfl rfl rfl rfl rfl rfl ?_
    refine r_goto 28 hX dX8_rally_24 ?_
    refine r_iret hX hT dX8_rally_28 ?_
    first | (rw [if_neg (show ¬ M.1 52 1 = 1 from c1), if_neg (show ¬ M.1 52 1 = 1 from c1)]; exact ⟨rfl, rfl⟩) | (rw [if_pos (show M.1 52 1 = 1 from c1), if_pos (show M.1 52 1 = 1 from c1)]; exact ⟨rfl, rfl⟩)
def mwg_0 (M : mx_Mem) (k : Int32) : mx_Mem := mI (th0 M) 52 6 (M.1 52 6 - k)
set_option maxRecDepth 100000 in
set_option maxHeartbeats 4000000 in
theorem tX8_wrong_0 {l : Launch} {G : mx_G} {k : Int32} {M : mx_Mem} (hs : M.1 52 2 = 0) (hp : isP (M.1 52 64)) : mx_Met l G yX8_wrong cX8_wrong 3 ((some FieldType.int)) 4 85 [.ref 46, .int k] M (mx_F (some (.int (if M.1 52 1 = 1 ∧ 0 ≤ k ∧ k ≤ M.1 52 11 then ptR_1 (ptB_1 (mwg_0 M k)) (tgM (mwg_0 M k)) else -1))) (if M.1 52 1 = 1 ∧ 0 ≤ k ∧ k ≤ M.1 52 11 then ptM_1 (ptB_1 (mwg_0 M k)) (tgM (mwg_0 M k)) else th0 M)) := by
  refine mx_enter (own := RX8) (L := [.ref 46, .int k, .null]) (by decide +kernel) rfl rfl rfl ?_
  intro X hlX hX hR hT
  refine r_aload_n 1 hX dX8_wrong_0 rfl ?_
  refine r_iconst 2 hX dX8_wrong_1 (v := 0) (by decide) ?_
  refine r_putI 5 hX dX8_wrong_2 fX8_63 fp8_13 rfl rfl rfl ?_
  refine r_aload_n 6 hX dX8_wrong_5 rfl ?_
  refine r_cV0F 9 hX hR tX8_isOn dX8_wrong_6 kX8_isOn lX8_82 rfl rfl rfl rfl rfl rfl ?_
  refine r_Bne 12 14 hX dX8_wrong_9 (fun c1 => ?_) (fun c1 => ?_)
  · refine r_aload_n 15 hX dX8_wrong_14 rfl ?_
    refine r_getR 18 hX dX8_wrong_15 fX8_26 rfl rfl rfl ?_
    refine r_iconst 19 hX dX8_wrong_18 (v := 2) (by decide) ?_
    refine r_ialdK 20 hX dX8_wrong_19 rfl rfl (vpK rfl) (j := 2) (by decide) ?_
    rw [show (th0 M).1 52 2 = 0 from hs]
    refine r_istore_n 21 hX dX8_wrong_20 rfl ?_
    refine r_iload_n 22 hX dX8_wrong_21 rfl ?_
    refine r_iconst 23 hX dX8_wrong_22 (v := 0) (by decide) ?_
    refine r_aload_n 24 hX dX8_wrong_23 rfl ?_
    refine r_iload_n 25 hX dX8_wrong_24 rfl ?_
    refine r_iconst 26 hX dX8_wrong_25 (v := 5) (by decide) ?_
    refine r_cV2F 29 hX hR (tX8_get (t := 0) (k := 5) (n := 11) rfl (by decide)) dX8_wrong_26 kX8_get lX8_95 rfl rfl rfl rfl rfl rfl ?_
    refine r_cS3F 32 hX hR tX8_in dX8_wrong_29 kX8_in lX8_67 rfl rfl rfl ?_
    refine r_Bne 35 37 hX dX8_wrong_32 (fun c2 => ?_) (fun c2 => ?_)
    · refine r_aload_n 38 hX dX8_wrong_37 rfl ?_
      refine r_iload_n 39 hX dX8_wrong_38 rfl ?_
      refine r_iconst 40 hX dX8_wrong_39 (v := 0) (by decide) ?_
      refine r_aload_n 41 hX dX8_wrong_40 rfl ?_
      refine r_iload_n 42 hX dX8_wrong_41 rfl ?_
      refine r_iconst 43 hX dX8_wrong_42 (v := 0) (by decide) ?_
      refine r_cV2F 46 hX hR (tX8_get (t := 0) (k := 0) (n := 6) rfl (by decide)) dX8_wrong_43 kX8_get lX8_95 rfl rfl rfl rfl rfl rfl ?_
      refine r_iload_n 47 hX dX8_wrong_46 rfl ?_
      refine r_isub 48 hX dX8_wrong_47 ?_
      refine r_cV3U 51 hX hR (tX8_put (t := 0) (k := 0) (n := 6) rfl (by decide)) dX8_wrong_48 kX8_put lX8_56 rfl rfl rfl rfl rfl rfl ?_
      refine r_aload_n 52 hX dX8_wrong_51 rfl ?_
      refine r_iconst 53 hX dX8_wrong_52 (v := 1) (by decide) ?_
      refine r_iload_n 54 hX dX8_wrong_53 rfl ?_
      refine r_isubK 55 hX dX8_wrong_54 (w := 1) (by decide) ?_
      refine r_cV1F 58 hX hR (tX8_point_1 hp) dX8_wrong_55 kX8_point lX8_113 rfl rfl rfl rfl rfl rfl ?_
      refine r_iret hX hT dX8_wrong_58 ?_
      have d1 : M.1 52 1 = 1 := c1
      have d2 : 0 ≤ k ∧ k ≤ M.1 52 11 := c2
      rw [if_pos ⟨d1, d2⟩, if_pos ⟨d1, d2⟩]
      exact ⟨rfl, rfl⟩
    · refine r_iconst 36 hX dX8_wrong_35 (v := -1) (by decide) ?_
      refine r_iret hX hT dX8_wrong_36 ?_
      have d1 : ¬ (0 ≤ k ∧ k ≤ M.1 52 11) := c2
      rw [if_neg (fun h => d1 h.2), if_neg (fun h => d1 h.2)]
      exact ⟨rfl, rfl⟩
  · refine r_iconst 13 hX dX8_wrong_12 (v := -1) (by decide) ?_
    refine r_iret hX hT dX8_wrong_13 ?_
    have d1 : ¬ M.1 52 1 = 1 := c1
    rw [if_neg (fun h => d1 h.1), if_neg (fun h => d1 h.1)]
    exact ⟨rfl, rfl⟩
set_option maxRecDepth 100000 in
set_option maxHeartbeats 4000000 in
theorem tX8_pause_0 {l : Launch} {G : mx_G} {M : mx_Mem} : mx_Met l G yX8_pause cX8_pause 2 ((some FieldType.int)) 2 44 [.ref 46, .int 0] M (mx_F (some (.int (if ¬ M.1 52 1 = 1 ∨ M.1 49 5 ≤ M.1 52 9 then -1 else M.1 52 9 + 1))) (if ¬ M.1 52 1 = 1 ∨ M.1 49 5 ≤ M.1 52 9 then th0 M else mI (th0 M) 52 9 (M.1 52 9 + 1))) := by
  refine mx_enter (own := RX8) (L := [.ref 46, .int 0]) (by decide +kernel) rfl rfl rfl ?_
  intro X hlX hX hR hT
  refine r_aload_n 1 hX dX8_pause_0 rfl ?_
  refine r_iconst 2 hX dX8_pause_1 (v := 0) (by decide) ?_
  refine r_putI 5 hX dX8_pause_2 fX8_63 fp8_13 rfl rfl rfl ?_
  refine r_iload_n 6 hX dX8_pause_5 rfl ?_
  refine r_cS1F 9 hX hR tX8_isTeam_0 dX8_pause_6 kX8_isTeam lX8_71 rfl rfl rfl ?_
  refine r_if_eq 12 20 hX dX8_pause_9 (fun c => absurd c (by decide)) (fun _ => ?_)
  refine r_aload_n 13 hX dX8_pause_12 rfl ?_
  refine r_iload_n 14 hX dX8_pause_13 rfl ?_
  refine r_cV1F 17 hX hR tX8_doPause_0 dX8_pause_14 kX8_doPause lX8_129 rfl rfl rfl rfl rfl rfl ?_
  refine r_goto 21 hX dX8_pause_17 ?_
  refine r_iret hX hT dX8_pause_21 ?_
  exact ⟨rfl, rfl⟩
set_option maxRecDepth 100000 in
set_option maxHeartbeats 4000000 in
theorem tX8_at_0 {l : Launch} {G : mx_G} {k : Nat} {M : mx_Mem} (hk : k < 6) : mx_Met l G yX8_at cX8_at 3 ((some FieldType.int)) 1 22 [.ref 46, .int 0, .int (nI k)] M (mx_F (some (.int (if M.1 52 0 = -1 then -1 else M.1 52 (k + 14)))) (th0 M)) := by
  refine mx_enter (own := RX8) (L := [.ref 46, .int 0, .int (nI k)]) (by decide +kernel) rfl rfl rfl ?_
  intro X hlX hX hR hT
  have hi : 0 ≤ nI k ∧ nI k ≤ 5 := ⟨nI_pos' (by omega), nI_le (b := 5) (by omega) (by omega)⟩
  have hv := vp_in_nI hk (by decide)
  refine r_aload_n 1 hX dX8_at_0 rfl ?_
  refine r_iconst 2 hX dX8_at_1 (v := 0) (by decide) ?_
  refine r_putI 5 hX dX8_at_2 fX8_63 fp8_13 rfl rfl rfl ?_
  refine r_iload_n 6 hX dX8_at_5 rfl ?_
  refine r_cS1F 9 hX hR tX8_isTeam_0 dX8_at_6 kX8_isTeam lX8_71 rfl rfl rfl ?_
  refine r_if_eq 12 43 hX dX8_at_9 (fun c => absurd c (by decide)) (fun _ => ?_)
  refine r_iload_n 13 hX dX8_at_12 rfl ?_
  refine r_iconst 14 hX dX8_at_13 (v := 0) (by decide) ?_
  refine r_iconst 15 hX dX8_at_14 (v := 5) (by decide) ?_
  refine r_cS3F 18 hX hR tX8_in dX8_at_15 kX8_in lX8_67 rfl rfl rfl ?_
  refine r_Beq 21 43 hX dX8_at_18 (fun c1 => absurd hi c1) (fun c1 => ?_)
  refine r_aload_n 22 hX dX8_at_21 rfl ?_
  refine r_getR 25 hX dX8_at_22 fX8_26 rfl rfl rfl ?_
  refine r_iconst 26 hX dX8_at_25 (v := 0) (by decide) ?_
  refine r_ialdK 27 hX dX8_at_26 rfl rfl (vpK rfl) (j := 0) (by decide) ?_
  refine r_iconst 28 hX dX8_at_27 (v := -1) (by decide) ?_
  refine r_icmp_eq 31 43 hX dX8_at_28 (fun c2 => ?_) (fun c2 => ?_)
  · refine r_iconst 44 hX dX8_at_43 (v := -1) (by decide) ?_
    refine r_iret hX hT dX8_at_44 ?_
    first | (rw [if_pos (show M.1 52 0 = -1 from c2)]; exact ⟨rfl, rfl⟩) | (rw [if_neg (show ¬ M.1 52 0 = -1 from c2), nI_clamp (by omega)]; exact ⟨rfl, rfl⟩)
  · refine r_aload_n 32 hX dX8_at_31 rfl ?_
    refine r_iload_n 33 hX dX8_at_32 rfl ?_
    refine r_bipush 35 hX dX8_at_33 (v := 8) (by decide) ?_
    refine r_iload_n 36 hX dX8_at_35 rfl ?_
    refine r_iadd 37 hX dX8_at_36 ?_
    refine r_cV2F 40 hX hR (tX8_getV 0 8 14 6 rfl (by decide) hv) dX8_at_37 kX8_get lX8_95 rfl rfl rfl rfl rfl rfl ?_
    refine r_goto 44 hX dX8_at_40 ?_
    refine r_iret hX hT dX8_at_44 ?_
    first | (rw [if_pos (show M.1 52 0 = -1 from c2)]; exact ⟨rfl, rfl⟩) | (rw [if_neg (show ¬ M.1 52 0 = -1 from c2), nI_clamp (by omega)]; exact ⟨rfl, rfl⟩)
set_option maxRecDepth 100000 in
set_option maxHeartbeats 4000000 in
theorem tX8_at_0_n {l : Launch} {G : mx_G} {p : Int32} {M : mx_Mem} (hp : ¬ (0 ≤ p ∧ p ≤ 5)) : mx_Met l G yX8_at cX8_at 3 ((some FieldType.int)) 1 22 [.ref 46, .int 0, .int p] M (mx_F (some (.int (-1))) (th0 M)) := by
  refine mx_enter (own := RX8) (L := [.ref 46, .int 0, .int p]) (by decide +kernel) rfl rfl rfl ?_
  intro X hlX hX hR hT
  refine r_aload_n 1 hX dX8_at_0 rfl ?_
  refine r_iconst 2 hX dX8_at_1 (v := 0) (by decide) ?_
  refine r_putI 5 hX dX8_at_2 fX8_63 fp8_13 rfl rfl rfl ?_
  refine r_iload_n 6 hX dX8_at_5 rfl ?_
  refine r_cS1F 9 hX hR tX8_isTeam_0 dX8_at_6 kX8_isTeam lX8_71 rfl rfl rfl ?_
  refine r_if_eq 12 43 hX dX8_at_9 (fun c => absurd c (by decide)) (fun _ => ?_)
  refine r_iload_n 13 hX dX8_at_12 rfl ?_
  refine r_iconst 14 hX dX8_at_13 (v := 0) (by decide) ?_
  refine r_iconst 15 hX dX8_at_14 (v := 5) (by decide) ?_
  refine r_cS3F 18 hX hR tX8_in dX8_at_15 kX8_in lX8_67 rfl rfl rfl ?_
  refine r_Beq 21 43 hX dX8_at_18 (fun c1 => ?_) (fun c1 => absurd c1 hp)
  refine r_iconst 44 hX dX8_at_43 (v := -1) (by decide) ?_
  refine r_iret hX hT dX8_at_44 ?_
  exact ⟨rfl, rfl⟩
set_option maxRecDepth 100000 in
set_option maxHeartbeats 4000000 in
theorem tX8_of_0 {l : Launch} {G : mx_G} {k : Nat} {M : mx_Mem} (hk : k < 7) : mx_Met l G yX8_of cX8_of 3 ((some FieldType.int)) 1 22 [.ref 46, .int 0, .int (nI k)] M (mx_F (some (.int (M.1 52 (6 + k)))) (th0 M)) := by
  refine mx_enter (own := RX8) (L := [.ref 46, .int 0, .int (nI k)]) (by decide +kernel) rfl rfl rfl ?_
  intro X hlX hX hR hT
  have hi : 0 ≤ nI k ∧ nI k ≤ 6 := ⟨nI_pos' (by omega), nI_le (b := 6) (by omega) (by omega)⟩
  refine r_aload_n 1 hX dX8_of_0 rfl ?_
  refine r_iconst 2 hX dX8_of_1 (v := 0) (by decide) ?_
  refine r_putI 5 hX dX8_of_2 fX8_63 fp8_13 rfl rfl rfl ?_
  refine r_iload_n 6 hX dX8_of_5 rfl ?_
  refine r_cS1F 9 hX hR tX8_isTeam_0 dX8_of_6 kX8_isTeam lX8_71 rfl rfl rfl ?_
  refine r_if_eq 12 31 hX dX8_of_9 (fun c => absurd c (by decide)) (fun _ => ?_)
  refine r_iload_n 13 hX dX8_of_12 rfl ?_
  refine r_iconst 14 hX dX8_of_13 (v := 0) (by decide) ?_
  refine r_bipush 16 hX dX8_of_14 (v := 6) (by decide) ?_
  refine r_cS3F 19 hX hR tX8_in dX8_of_16 kX8_in lX8_67 rfl rfl rfl ?_
  refine r_Beq 22 31 hX dX8_of_19 (fun c1 => absurd hi c1) (fun c1 => ?_)
  refine r_aload_n 23 hX dX8_of_22 rfl ?_
  refine r_iload_n 24 hX dX8_of_23 rfl ?_
  refine r_iload_n 25 hX dX8_of_24 rfl ?_
  refine r_cV2F 28 hX hR (tX8_get (t := 0) (k := k) (n := 6 + k) rfl (by omega)) dX8_of_25 kX8_get lX8_95 rfl rfl rfl rfl rfl rfl ?_
  refine r_goto 32 hX dX8_of_28 ?_
  refine r_iret hX hT dX8_of_32 ?_
  exact ⟨rfl, rfl⟩
set_option maxRecDepth 100000 in
set_option maxHeartbeats 4000000 in
theorem tX8_of_0_n {l : Launch} {G : mx_G} {p : Int32} {M : mx_Mem} (hp : ¬ (0 ≤ p ∧ p ≤ 6)) : mx_Met l G yX8_of cX8_of 3 ((some FieldType.int)) 1 22 [.ref 46, .int 0, .int p] M (mx_F (some (.int (-1))) (th0 M)) := by
  refine mx_enter (own := RX8) (L := [.ref 46, .int 0, .int p]) (by decide +kernel) rfl rfl rfl ?_
  intro X hlX hX hR hT
  refine r_aload_n 1 hX dX8_of_0 rfl ?_
  refine r_iconst 2 hX dX8_of_1 (v := 0) (by decide) ?_
  refine r_putI 5 hX dX8_of_2 fX8_63 fp8_13 rfl rfl rfl ?_
  refine r_iload_n 6 hX dX8_of_5 rfl ?_
  refine r_cS1F 9 hX hR tX8_isTeam_0 dX8_of_6 kX8_isTeam lX8_71 rfl rfl rfl ?_
  refine r_if_eq 12 31 hX dX8_of_9 (fun c => absurd c (by decide)) (fun _ => ?_)
  refine r_iload_n 13 hX dX8_of_12 rfl ?_
  refine r_iconst 14 hX dX8_of_13 (v := 0) (by decide) ?_
  refine r_bipush 16 hX dX8_of_14 (v := 6) (by decide) ?_
  refine r_cS3F 19 hX hR tX8_in dX8_of_16 kX8_in lX8_67 rfl rfl rfl ?_
  refine r_Beq 22 31 hX dX8_of_19 (fun c1 => ?_) (fun c1 => absurd c1 hp)
  refine r_iconst 32 hX dX8_of_31 (v := -1) (by decide) ?_
  refine r_iret hX hT dX8_of_32 ?_
  exact ⟨rfl, rfl⟩
set_option maxRecDepth 100000 in
set_option maxHeartbeats 4000000 in
theorem tX8_served_0 {l : Launch} {G : mx_G} {p : Int32} {M : mx_Mem} : mx_Met l G yX8_served cX8_served 3 ((some FieldType.int)) 2 42 [.ref 46, .int 0, .int p] M (mx_F (some (.int (if isP p then M.1 52 (p.toNatClampNeg + 44) else -1))) (th0 M)) := by
  refine mx_enter (own := RX8) (L := [.ref 46, .int 0, .int p]) (by decide +kernel) rfl rfl rfl ?_
  intro X hlX hX hR hT
  refine r_aload_n 1 hX dX8_served_0 rfl ?_
  refine r_iconst 2 hX dX8_served_1 (v := 0) (by decide) ?_
  refine r_putI 5 hX dX8_served_2 fX8_63 fp8_13 rfl rfl rfl ?_
  refine r_iload_n 6 hX dX8_served_5 rfl ?_
  refine r_cS1F 9 hX hR tX8_isTeam_0 dX8_served_6 kX8_isTeam lX8_71 rfl rfl rfl ?_
  refine r_if_eq 12 31 hX dX8_served_9 (fun c => absurd c (by decide)) (fun _ => ?_)
  refine r_iload_n 13 hX dX8_served_12 rfl ?_
  refine r_cS1F 16 hX hR tX8_isPlayer dX8_served_13 kX8_isPlayer lX8_75 rfl rfl rfl ?_
  refine r_Beq 19 31 hX dX8_served_16 (fun c1 => ?_) (fun c1 => ?_)
  · refine r_iconst 32 hX dX8_served_31 (v := -1) (by decide) ?_
    refine r_iret hX hT dX8_served_32 ?_
    first | (rw [if_pos c1]; exact ⟨rfl, rfl⟩) | (rw [if_neg c1]; exact ⟨rfl, rfl⟩)
  · refine r_aload_n 20 hX dX8_served_19 rfl ?_
    refine r_iload_n 21 hX dX8_served_20 rfl ?_
    refine r_bipush 23 hX dX8_served_21 (v := 38) (by decide) ?_
    refine r_iload_n 24 hX dX8_served_23 rfl ?_
    refine r_iadd 25 hX dX8_served_24 ?_
    refine r_cV2F 28 hX hR (tX8_getV 0 38 44 12 rfl (by decide) (vpP c1)) dX8_served_25 kX8_get lX8_95 rfl rfl rfl rfl rfl rfl ?_
    refine r_goto 32 hX dX8_served_28 ?_
    refine r_iret hX hT dX8_served_32 ?_
    first | (rw [if_pos c1]; exact ⟨rfl, rfl⟩) | (rw [if_neg c1]; exact ⟨rfl, rfl⟩)
def mft_0 (M : mx_Mem) (x y : Int32) : Prop := (0 ≤ x ∧ x ≤ 999) ∧ (0 ≤ y ∧ y ≤ 999) ∧ M.1 52 1 = 1
set_option maxRecDepth 100000 in
set_option maxHeartbeats 4000000 in
theorem tX8_feet_0 {l : Launch} {G : mx_G} {k : Nat} {x y : Int32} {M : mx_Mem} (hk : k < 6) : mx_Met l G yX8_feet cX8_feet 5 ((some FieldType.boolean)) 1 22 [.ref 46, .int 0, .int (nI k), .int x, .int y] M (fun r M' => (mft_0 M x y ∧ r = some (.int 1) ∧ M' = mI (mI (th0 M) 54 (0 + k) x) 55 (0 + k) y) ∨ (¬ mft_0 M x y ∧ r = some (.int 0) ∧ M' = th0 M)) := by
  refine mx_enter (own := RX8) (L := [.ref 46, .int 0, .int (nI k), .int x, .int y]) (by decide +kernel) rfl rfl rfl ?_
  intro X hlX hX hR hT
  have hi : 0 ≤ nI k ∧ nI k ≤ 5 := ⟨nI_pos' (by omega), nI_le (b := 5) (by omega) (by omega)⟩
  have hx : (0 : Int32) + nI k = nI (0 + k) := nI_add 0 k
  refine r_aload_n 1 hX dX8_feet_0 rfl ?_
  refine r_iconst 2 hX dX8_feet_1 (v := 0) (by decide) ?_
  refine r_putI 5 hX dX8_feet_2 fX8_63 fp8_13 rfl rfl rfl ?_
  refine r_iload_n 6 hX dX8_feet_5 rfl ?_
  refine r_cS1F 9 hX hR tX8_isTeam_0 dX8_feet_6 kX8_isTeam lX8_71 rfl rfl rfl ?_
  refine r_if_eq 12 51 hX dX8_feet_9 (fun c => absurd c (by decide)) (fun _ => ?_)
  refine r_iload_n 13 hX dX8_feet_12 rfl ?_
  refine r_iconst 14 hX dX8_feet_13 (v := 0) (by decide) ?_
  refine r_iconst 15 hX dX8_feet_14 (v := 5) (by decide) ?_
  refine r_cS3F 18 hX hR tX8_in dX8_feet_15 kX8_in lX8_67 rfl rfl rfl ?_
  refine r_Beq 21 51 hX dX8_feet_18 (fun c1 => absurd hi c1) (fun c1 => ?_)
  refine r_iload_n 22 hX dX8_feet_21 rfl ?_
  refine r_iconst 23 hX dX8_feet_22 (v := 0) (by decide) ?_
  refine r_sipush 26 hX dX8_feet_23 (v := 999) (by decide) ?_
  refine r_cS3F 29 hX hR tX8_in dX8_feet_26 kX8_in lX8_67 rfl rfl rfl ?_
  refine r_Beq 32 51 hX dX8_feet_29 (fun c2 => ?_) (fun c2 => ?_)
  · refine r_iconst 52 hX dX8_feet_51 (v := 0) (by decide) ?_
    refine r_zret hX hT dX8_feet_52 (by first | assumption | decide) ?_
    exact Or.inr ⟨fun h => by first | exact c2 h.1 | exact c3 h.2.1 | exact c4 h.2.2, rfl, rfl⟩
  · refine r_iload 34 hX dX8_feet_32 rfl ?_
    refine r_iconst 35 hX dX8_feet_34 (v := 0) (by decide) ?_
    refine r_sipush 38 hX dX8_feet_35 (v := 999) (by decide) ?_
    refine r_cS3F 41 hX hR tX8_in dX8_feet_38 kX8_in lX8_67 rfl rfl rfl ?_
    refine r_Beq 44 51 hX dX8_feet_41 (fun c3 => ?_) (fun c3 => ?_)
    · refine r_iconst 52 hX dX8_feet_51 (v := 0) (by decide) ?_
      refine r_zret hX hT dX8_feet_52 (by first | assumption | decide) ?_
      exact Or.inr ⟨fun h => by first | exact c2 h.1 | exact c3 h.2.1 | exact c4 h.2.2, rfl, rfl⟩
    · refine r_aload_n 45 hX dX8_feet_44 rfl ?_
      refine r_cV0F 48 hX hR tX8_isOn dX8_feet_45 kX8_isOn lX8_82 rfl rfl rfl rfl rfl rfl ?_
      refine r_Bne 51 53 hX dX8_feet_48 (fun c4 => ?_) (fun c4 => ?_)
      · refine r_aload_n 54 hX dX8_feet_53 rfl ?_
        refine r_getR 57 hX dX8_feet_54 fX8_32 rfl rfl rfl ?_
        refine r_bipush 59 hX dX8_feet_57 (v := 6) (by decide) ?_
        refine r_iload_n 60 hX dX8_feet_59 rfl ?_
        refine r_imulK 61 hX dX8_feet_60 (w := 0) (by decide) ?_
        refine r_iload_n 62 hX dX8_feet_61 rfl ?_
        refine r_iadd 63 hX dX8_feet_62 ?_
        rw [hx]
        refine r_iload_n 64 hX dX8_feet_63 rfl ?_
        refine r_iastK 65 hX dX8_feet_64 rfl rfl (vp_in_nI (show 0 + k < 12 by omega) (by decide)) (j := 0 + k) (nI_clamp (by omega)) ?_
        refine r_aload_n 66 hX dX8_feet_65 rfl ?_
        refine r_getR 69 hX dX8_feet_66 fX8_35 rfl rfl rfl ?_
        refine r_bipush 71 hX dX8_feet_69 (v := 6) (by decide) ?_
        refine r_iload_n 72 hX dX8_feet_71 rfl ?_
        refine r_imulK 73 hX dX8_feet_72 (w := 0) (by decide) ?_
        refine r_iload_n 74 hX dX8_feet_73 rfl ?_
        refine r_iadd 75 hX dX8_feet_74 ?_
        rw [hx]
        refine r_iload 77 hX dX8_feet_75 rfl ?_
        refine r_iastK 78 hX dX8_feet_77 rfl rfl (vp_in_nI (show 0 + k < 12 by omega) (by decide)) (j := 0 + k) (nI_clamp (by omega)) ?_
        refine r_iconst 79 hX dX8_feet_78 (v := 1) (by decide) ?_
        refine r_zret hX hT dX8_feet_79 (by first | assumption | decide) ?_
        exact Or.inl ⟨⟨c2, c3, c4⟩, rfl, rfl⟩
      · refine r_iconst 52 hX dX8_feet_51 (v := 0) (by decide) ?_
        refine r_zret hX hT dX8_feet_52 (by first | assumption | decide) ?_
        exact Or.inr ⟨fun h => by first | exact c2 h.1 | exact c3 h.2.1 | exact c4 h.2.2, rfl, rfl⟩
set_option maxRecDepth 100000 in
set_option maxHeartbeats 4000000 in
theorem tX8_feet_0_n {l : Launch} {G : mx_G} {p x y : Int32} {M : mx_Mem} (hp : ¬ (0 ≤ p ∧ p ≤ 5)) : mx_Met l G yX8_feet cX8_feet 5 ((some FieldType.boolean)) 1 22 [.ref 46, .int 0, .int p, .int x, .int y] M (mx_F (some (.int 0)) (th0 M)) := by
  refine mx_enter (own := RX8) (L := [.ref 46, .int 0, .int p, .int x, .int y]) (by decide +kernel) rfl rfl rfl ?_
  intro X hlX hX hR hT
  refine r_aload_n 1 hX dX8_feet_0 rfl ?_
  refine r_iconst 2 hX dX8_feet_1 (v := 0) (by decide) ?_
  refine r_putI 5 hX dX8_feet_2 fX8_63 fp8_13 rfl rfl rfl ?_
  refine r_iload_n 6 hX dX8_feet_5 rfl ?_
  refine r_cS1F 9 hX hR tX8_isTeam_0 dX8_feet_6 kX8_isTeam lX8_71 rfl rfl rfl ?_
  refine r_if_eq 12 51 hX dX8_feet_9 (fun c => absurd c (by decide)) (fun _ => ?_)
  refine r_iload_n 13 hX dX8_feet_12 rfl ?_
  refine r_iconst 14 hX dX8_feet_13 (v := 0) (by decide) ?_
  refine r_iconst 15 hX dX8_feet_14 (v := 5) (by decide) ?_
  refine r_cS3F 18 hX hR tX8_in dX8_feet_15 kX8_in lX8_67 rfl rfl rfl ?_
  refine r_Beq 21 51 hX dX8_feet_18 (fun c1 => ?_) (fun c1 => absurd c1 hp)
  refine r_iconst 52 hX dX8_feet_51 (v := 0) (by decide) ?_
  refine r_zret hX hT dX8_feet_52 (by first | assumption | decide) ?_
  exact ⟨rfl, rfl⟩
set_option maxRecDepth 100000 in
set_option maxHeartbeats 4000000 in
theorem tX8_overlap_0_s {l : Launch} {G : mx_G} {M : mx_Mem} (hs : M.1 52 2 = 0) : mx_Met l G yX8_overlap cX8_overlap 4 ((some FieldType.int)) 1 20 [.ref 46, .int 0] M (mx_F (some (.int (if M.1 52 1 = 1 then ovl true (fun k => M.1 54 (0 + k)) (fun k => M.1 55 (0 + k)) else -1))) (th0 M)) := by
  refine mx_enter (own := RX8) (L := [.ref 46, .int 0, .null, .null]) (by decide +kernel) rfl rfl rfl ?_
  intro X hlX hX hR hT
  have hs' : (th0 M).1 52 2 = 0 := hs
  refine r_aload_n 1 hX dX8_overlap_0 rfl ?_
  refine r_iconst 2 hX dX8_overlap_1 (v := 0) (by decide) ?_
  refine r_putI 5 hX dX8_overlap_2 fX8_63 fp8_13 rfl rfl rfl ?_
  refine r_iload_n 6 hX dX8_overlap_5 rfl ?_
  refine r_cS1F 9 hX hR tX8_isTeam_0 dX8_overlap_6 kX8_isTeam lX8_71 rfl rfl rfl ?_
  refine r_if_eq 12 19 hX dX8_overlap_9 (fun c => absurd c (by decide)) (fun _ => ?_)
  refine r_aload_n 13 hX dX8_overlap_12 rfl ?_
  refine r_cV0F 16 hX hR tX8_isOn dX8_overlap_13 kX8_isOn lX8_82 rfl rfl rfl rfl rfl rfl ?_
  refine r_Bne 19 21 hX dX8_overlap_16 (fun c1 => ?_) (fun c1 => ?_)
  · refine r_iconst 22 hX dX8_overlap_21 (v := 0) (by decide) ?_
    refine r_istore_n 23 hX dX8_overlap_22 rfl ?_
    refine r_iload_n 24 hX dX8_overlap_23 rfl ?_
    refine r_bipush 26 hX dX8_overlap_24 (v := 7) (by decide) ?_
    refine r_icmp_ge 29 102 hX dX8_overlap_26 (fun c => absurd c (by decide)) (fun _ => ?_)
    refine r_gets 32 hX dX8_overlap_29 sX8_138 ?_
    refine r_iload_n 33 hX dX8_overlap_32 rfl ?_
    refine r_taldK 34 hX dX8_overlap_33 (j := 11) rfl (vpK rfl) (v := 0) (by decide) ?_
    refine r_if_ne 37 50 hX dX8_overlap_34 (fun c => absurd c (by decide)) (fun _ => ?_)
    refine r_aload_n 38 hX dX8_overlap_37 rfl ?_
    refine r_getR 41 hX dX8_overlap_38 fX8_26 rfl rfl rfl ?_
    refine r_iconst 42 hX dX8_overlap_41 (v := 2) (by decide) ?_
    refine r_ialdK 43 hX dX8_overlap_42 rfl rfl (vpK rfl) (j := 2) (by decide) ?_
    refine r_iload_n 44 hX dX8_overlap_43 rfl ?_
    refine r_icmp_ne 47 50 hX dX8_overlap_44 (fun c2 => absurd hs c2) (fun c2 => ?_)
    refine r_goto 96 hX dX8_overlap_47 ?_
    refine r_iincK 99 hX dX8_overlap_96 rfl (w := 1) (by decide) rfl ?_
    refine r_goto 23 hX dX8_overlap_99 ?_
    refine r_iload_n 24 hX dX8_overlap_23 rfl ?_
    refine r_bipush 26 hX dX8_overlap_24 (v := 7) (by decide) ?_
    refine r_icmp_ge 29 102 hX dX8_overlap_26 (fun c => absurd c (by decide)) (fun _ => ?_)
    refine r_gets 32 hX dX8_overlap_29 sX8_138 ?_
    refine r_iload_n 33 hX dX8_overlap_32 rfl ?_
    refine r_taldK 34 hX dX8_overlap_33 (j := 11) rfl (vpK rfl) (v := 5) (by decide) ?_
    refine r_if_ne 37 50 hX dX8_overlap_34 (fun _ => ?_) (fun c => absurd c (by decide))
    refine r_iload_n 51 hX dX8_overlap_50 rfl ?_
    refine r_iconst 52 hX dX8_overlap_51 (v := 3) (by decide) ?_
    refine r_icmp_ge 55 62 hX dX8_overlap_52 (fun c => absurd c (by decide)) (fun _ => ?_)
    refine r_aload_n 56 hX dX8_overlap_55 rfl ?_
    refine r_getR 59 hX dX8_overlap_56 fX8_35 rfl rfl rfl ?_
    refine r_goto 66 hX dX8_overlap_59 ?_
    refine r_astore_n 67 hX dX8_overlap_66 rfl ?_
    refine (show mx_WW G X 67 [_, _, _, _] _ _ from ?_)
    refine r_aload_n 68 hX dX8_overlap_67 rfl ?_
    refine r_bipush 70 hX dX8_overlap_68 (v := 6) (by decide) ?_
    refine r_iload_n 71 hX dX8_overlap_70 rfl ?_
    refine r_imulK 72 hX dX8_overlap_71 (w := 0) (by decide) ?_
    refine r_gets 75 hX dX8_overlap_72 sX8_141 ?_
    refine r_iload_n 76 hX dX8_overlap_75 rfl ?_
    refine r_taldK 77 hX dX8_overlap_76 (j := 10) rfl (vpK rfl) (v := 2) (by decide) ?_
    refine r_iaddK 78 hX dX8_overlap_77 (w := 2) (by decide) ?_
    refine r_ialdK 79 hX dX8_overlap_78 rfl rfl (vpK rfl) (j := 2) (by decide) ?_
    refine r_aload_n 80 hX dX8_overlap_79 rfl ?_
    refine r_bipush 82 hX dX8_overlap_80 (v := 6) (by decide) ?_
    refine r_iload_n 83 hX dX8_overlap_82 rfl ?_
    refine r_imulK 84 hX dX8_overlap_83 (w := 0) (by decide) ?_
    refine r_gets 87 hX dX8_overlap_84 sX8_138 ?_
    refine r_iload_n 88 hX dX8_overlap_87 rfl ?_
    refine r_taldK 89 hX dX8_overlap_88 (j := 11) rfl (vpK rfl) (v := 5) (by decide) ?_
    refine r_iaddK 90 hX dX8_overlap_89 (w := 5) (by decide) ?_
    refine r_ialdK 91 hX dX8_overlap_90 rfl rfl (vpK rfl) (j := 5) (by decide) ?_
    refine r_Icmp_lt 94 96 hX dX8_overlap_91 (fun c3 => ?_) (fun c3 => ?_)
    · refine r_iincK 99 hX dX8_overlap_96 rfl (w := 2) (by decide) rfl ?_
      refine r_goto 23 hX dX8_overlap_99 ?_
      refine r_iload_n 24 hX dX8_overlap_23 rfl ?_
      refine r_bipush 26 hX dX8_overlap_24 (v := 7) (by decide) ?_
      refine r_icmp_ge 29 102 hX dX8_overlap_26 (fun c => absurd c (by decide)) (fun _ => ?_)
      refine r_gets 32 hX dX8_overlap_29 sX8_138 ?_
      refine r_iload_n 33 hX dX8_overlap_32 rfl ?_
      refine r_taldK 34 hX dX8_overlap_33 (j := 11) rfl (vpK rfl) (v := 4) (by decide) ?_
      refine r_if_ne 37 50 hX dX8_overlap_34 (fun _ => ?_) (fun c => absurd c (by decide))
      refine r_iload_n 51 hX dX8_overlap_50 rfl ?_
      refine r_iconst 52 hX dX8_overlap_51 (v := 3) (by decide) ?_
      refine r_icmp_ge 55 62 hX dX8_overlap_52 (fun c => absurd c (by decide)) (fun _ => ?_)
      refine r_aload_n 56 hX dX8_overlap_55 rfl ?_
      refine r_getR 59 hX dX8_overlap_56 fX8_35 rfl rfl rfl ?_
      refine r_goto 66 hX dX8_overlap_59 ?_
      refine r_astore_n 67 hX dX8_overlap_66 rfl ?_
      refine r_aload_n 68 hX dX8_overlap_67 rfl ?_
      refine r_bipush 70 hX dX8_overlap_68 (v := 6) (by decide) ?_
      refine r_iload_n 71 hX dX8_overlap_70 rfl ?_
      refine r_imulK 72 hX dX8_overlap_71 (w := 0) (by decide) ?_
      refine r_gets 75 hX dX8_overlap_72 sX8_141 ?_
      refine r_iload_n 76 hX dX8_overlap_75 rfl ?_
      refine r_taldK 77 hX dX8_overlap_76 (j := 10) rfl (vpK rfl) (v := 3) (by decide) ?_
      refine r_iaddK 78 hX dX8_overlap_77 (w := 3) (by decide) ?_
      refine r_ialdK 79 hX dX8_overlap_78 rfl rfl (vpK rfl) (j := 3) (by decide) ?_
      refine r_aload_n 80 hX dX8_overlap_79 rfl ?_
      refine r_bipush 82 hX dX8_overlap_80 (v := 6) (by decide) ?_
      refine r_iload_n 83 hX dX8_overlap_82 rfl ?_
      refine r_imulK 84 hX dX8_overlap_83 (w := 0) (by decide) ?_
      refine r_gets 87 hX dX8_overlap_84 sX8_138 ?_
      refine r_iload_n 88 hX dX8_overlap_87 rfl ?_
      refine r_taldK 89 hX dX8_overlap_88 (j := 11) rfl (vpK rfl) (v := 4) (by decide) ?_
      refine r_iaddK 90 hX dX8_overlap_89 (w := 4) (by decide) ?_
      refine r_ialdK 91 hX dX8_overlap_90 rfl rfl (vpK rfl) (j := 4) (by decide) ?_
      refine r_Icmp_lt 94 96 hX dX8_overlap_91 (fun c4 => ?_) (fun c4 => ?_)
      · refine r_iincK 99 hX dX8_overlap_96 rfl (w := 3) (by decide) rfl ?_
        refine (show mx_WW G X 99 [_, _, _, _] _ _ from ?_)
        refine r_goto 23 hX dX8_overlap_99 ?_
        refine r_iload_n 24 hX dX8_overlap_23 rfl ?_
        refine r_bipush 26 hX dX8_overlap_24 (v := 7) (by decide) ?_
        refine r_icmp_ge 29 102 hX dX8_overlap_26 (fun c => absurd c (by decide)) (fun _ => ?_)
        refine r_gets 32 hX dX8_overlap_29 sX8_138 ?_
        refine r_iload_n 33 hX dX8_overlap_32 rfl ?_
        refine r_taldK 34 hX dX8_overlap_33 (j := 11) rfl (vpK rfl) (v := 2) (by decide) ?_
        refine r_if_ne 37 50 hX dX8_overlap_34 (fun _ => ?_) (fun c => absurd c (by decide))
        refine r_iload_n 51 hX dX8_overlap_50 rfl ?_
        refine r_iconst 52 hX dX8_overlap_51 (v := 3) (by decide) ?_
        refine r_icmp_ge 55 62 hX dX8_overlap_52 (fun _ => ?_) (fun c => absurd c (by decide))
        refine r_aload_n 63 hX dX8_overlap_62 rfl ?_
        refine r_getR 66 hX dX8_overlap_63 fX8_32 rfl rfl rfl ?_
        refine r_astore_n 67 hX dX8_overlap_66 rfl ?_
        refine r_aload_n 68 hX dX8_overlap_67 rfl ?_
        refine r_bipush 70 hX dX8_overlap_68 (v := 6) (by decide) ?_
        refine r_iload_n 71 hX dX8_overlap_70 rfl ?_
        refine r_imulK 72 hX dX8_overlap_71 (w := 0) (by decide) ?_
        refine r_gets 75 hX dX8_overlap_72 sX8_141 ?_
        refine r_iload_n 76 hX dX8_overlap_75 rfl ?_
        refine r_taldK 77 hX dX8_overlap_76 (j := 10) rfl (vpK rfl) (v := 3) (by decide) ?_
        refine r_iaddK 78 hX dX8_overlap_77 (w := 3) (by decide) ?_
        refine r_ialdK 79 hX dX8_overlap_78 rfl rfl (vpK rfl) (j := 3) (by decide) ?_
        refine r_aload_n 80 hX dX8_overlap_79 rfl ?_
        refine r_bipush 82 hX dX8_overlap_80 (v := 6) (by decide) ?_
        refine r_iload_n 83 hX dX8_overlap_82 rfl ?_
        refine r_imulK 84 hX dX8_overlap_83 (w := 0) (by decide) ?_
        refine r_gets 87 hX dX8_overlap_84 sX8_138 ?_
        refine r_iload_n 88 hX dX8_overlap_87 rfl ?_
        refine r_taldK 89 hX dX8_overlap_88 (j := 11) rfl (vpK rfl) (v := 2) (by decide) ?_
        refine r_iaddK 90 hX dX8_overlap_89 (w := 2) (by decide) ?_
        refine r_ialdK 91 hX dX8_overlap_90 rfl rfl (vpK rfl) (j := 2) (by decide) ?_
        refine r_Icmp_lt 94 96 hX dX8_overlap_91 (fun c5 => ?_) (fun c5 => ?_)
        · refine r_iincK 99 hX dX8_overlap_96 rfl (w := 4) (by decide) rfl ?_
          refine r_goto 23 hX dX8_overlap_99 ?_
          refine r_iload_n 24 hX dX8_overlap_23 rfl ?_
          refine r_bipush 26 hX dX8_overlap_24 (v := 7) (by decide) ?_
          refine r_icmp_ge 29 102 hX dX8_overlap_26 (fun c => absurd c (by decide)) (fun _ => ?_)
          refine r_gets 32 hX dX8_overlap_29 sX8_138 ?_
          refine r_iload_n 33 hX dX8_overlap_32 rfl ?_
          refine r_taldK 34 hX dX8_overlap_33 (j := 11) rfl (vpK rfl) (v := 1) (by decide) ?_
          refine r_if_ne 37 50 hX dX8_overlap_34 (fun _ => ?_) (fun c => absurd c (by decide))
          refine r_iload_n 51 hX dX8_overlap_50 rfl ?_
          refine r_iconst 52 hX dX8_overlap_51 (v := 3) (by decide) ?_
          refine r_icmp_ge 55 62 hX dX8_overlap_52 (fun _ => ?_) (fun c => absurd c (by decide))
          refine r_aload_n 63 hX dX8_overlap_62 rfl ?_
          refine r_getR 66 hX dX8_overlap_63 fX8_32 rfl rfl rfl ?_
          refine r_astore_n 67 hX dX8_overlap_66 rfl ?_
          refine (show mx_WW G X 67 [_, _, _, _] _ _ from ?_)
          refine r_aload_n 68 hX dX8_overlap_67 rfl ?_
          refine r_bipush 70 hX dX8_overlap_68 (v := 6) (by decide) ?_
          refine r_iload_n 71 hX dX8_overlap_70 rfl ?_
          refine r_imulK 72 hX dX8_overlap_71 (w := 0) (by decide) ?_
          refine r_gets 75 hX dX8_overlap_72 sX8_141 ?_
          refine r_iload_n 76 hX dX8_overlap_75 rfl ?_
          refine r_taldK 77 hX dX8_overlap_76 (j := 10) rfl (vpK rfl) (v := 2) (by decide) ?_
          refine r_iaddK 78 hX dX8_overlap_77 (w := 2) (by decide) ?_
          refine r_ialdK 79 hX dX8_overlap_78 rfl rfl (vpK rfl) (j := 2) (by decide) ?_
          refine r_aload_n 80 hX dX8_overlap_79 rfl ?_
          refine r_bipush 82 hX dX8_overlap_80 (v := 6) (by decide) ?_
          refine r_iload_n 83 hX dX8_overlap_82 rfl ?_
          refine r_imulK 84 hX dX8_overlap_83 (w := 0) (by decide) ?_
          refine r_gets 87 hX dX8_overlap_84 sX8_138 ?_
          refine r_iload_n 88 hX dX8_overlap_87 rfl ?_
          refine r_taldK 89 hX dX8_overlap_88 (j := 11) rfl (vpK rfl) (v := 1) (by decide) ?_
          refine r_iaddK 90 hX dX8_overlap_89 (w := 1) (by decide) ?_
          refine r_ialdK 91 hX dX8_overlap_90 rfl rfl (vpK rfl) (j := 1) (by decide) ?_
          refine r_Icmp_lt 94 96 hX dX8_overlap_91 (fun c6 => ?_) (fun c6 => ?_)
          · refine r_iincK 99 hX dX8_overlap_96 rfl (w := 5) (by decide) rfl ?_
            refine r_goto 23 hX dX8_overlap_99 ?_
            refine r_iload_n 24 hX dX8_overlap_23 rfl ?_
            refine r_bipush 26 hX dX8_overlap_24 (v := 7) (by decide) ?_
            refine r_icmp_ge 29 102 hX dX8_overlap_26 (fun c => absurd c (by decide)) (fun _ => ?_)
            refine r_gets 32 hX dX8_overlap_29 sX8_138 ?_
            refine r_iload_n 33 hX dX8_overlap_32 rfl ?_
            refine r_taldK 34 hX dX8_overlap_33 (j := 11) rfl (vpK rfl) (v := 5) (by decide) ?_
            refine r_if_ne 37 50 hX dX8_overlap_34 (fun _ => ?_) (fun c => absurd c (by decide))
            refine r_iload_n 51 hX dX8_overlap_50 rfl ?_
            refine r_iconst 52 hX dX8_overlap_51 (v := 3) (by decide) ?_
            refine r_icmp_ge 55 62 hX dX8_overlap_52 (fun _ => ?_) (fun c => absurd c (by decide))
            refine r_aload_n 63 hX dX8_overlap_62 rfl ?_
            refine r_getR 66 hX dX8_overlap_63 fX8_32 rfl rfl rfl ?_
            refine r_astore_n 67 hX dX8_overlap_66 rfl ?_
            refine r_aload_n 68 hX dX8_overlap_67 rfl ?_
            refine r_bipush 70 hX dX8_overlap_68 (v := 6) (by decide) ?_
            refine r_iload_n 71 hX dX8_overlap_70 rfl ?_
            refine r_imulK 72 hX dX8_overlap_71 (w := 0) (by decide) ?_
            refine r_gets 75 hX dX8_overlap_72 sX8_141 ?_
            refine r_iload_n 76 hX dX8_overlap_75 rfl ?_
            refine r_taldK 77 hX dX8_overlap_76 (j := 10) rfl (vpK rfl) (v := 4) (by decide) ?_
            refine r_iaddK 78 hX dX8_overlap_77 (w := 4) (by decide) ?_
            refine r_ialdK 79 hX dX8_overlap_78 rfl rfl (vpK rfl) (j := 4) (by decide) ?_
            refine r_aload_n 80 hX dX8_overlap_79 rfl ?_
            refine r_bipush 82 hX dX8_overlap_80 (v := 6) (by decide) ?_
            refine r_iload_n 83 hX dX8_overlap_82 rfl ?_
            refine r_imulK 84 hX dX8_overlap_83 (w := 0) (by decide) ?_
            refine r_gets 87 hX dX8_overlap_84 sX8_138 ?_
            refine r_iload_n 88 hX dX8_overlap_87 rfl ?_
            refine r_taldK 89 hX dX8_overlap_88 (j := 11) rfl (vpK rfl) (v := 5) (by decide) ?_
            refine r_iaddK 90 hX dX8_overlap_89 (w := 5) (by decide) ?_
            refine r_ialdK 91 hX dX8_overlap_90 rfl rfl (vpK rfl) (j := 5) (by decide) ?_
            refine r_Icmp_lt 94 96 hX dX8_overlap_91 (fun c7 => ?_) (fun c7 => ?_)
            · refine r_iincK 99 hX dX8_overlap_96 rfl (w := 6) (by decide) rfl ?_
              refine (show mx_WW G X 99 [_, _, _, _] _ _ from ?_)
              refine r_goto 23 hX dX8_overlap_99 ?_
              refine r_iload_n 24 hX dX8_overlap_23 rfl ?_
              refine r_bipush 26 hX dX8_overlap_24 (v := 7) (by decide) ?_
              refine r_icmp_ge 29 102 hX dX8_overlap_26 (fun c => absurd c (by decide)) (fun _ => ?_)
              refine r_gets 32 hX dX8_overlap_29 sX8_138 ?_
              refine r_iload_n 33 hX dX8_overlap_32 rfl ?_
              refine r_taldK 34 hX dX8_overlap_33 (j := 11) rfl (vpK rfl) (v := 0) (by decide) ?_
              refine r_if_ne 37 50 hX dX8_overlap_34 (fun c => absurd c (by decide)) (fun _ => ?_)
              refine r_aload_n 38 hX dX8_overlap_37 rfl ?_
              refine r_getR 41 hX dX8_overlap_38 fX8_26 rfl rfl rfl ?_
              refine r_iconst 42 hX dX8_overlap_41 (v := 2) (by decide) ?_
              refine r_ialdK 43 hX dX8_overlap_42 rfl rfl (vpK rfl) (j := 2) (by decide) ?_
              refine r_iload_n 44 hX dX8_overlap_43 rfl ?_
              refine r_icmp_ne 47 50 hX dX8_overlap_44 (fun c8 => absurd hs c8) (fun c8 => ?_)
              refine r_goto 96 hX dX8_overlap_47 ?_
              refine r_iincK 99 hX dX8_overlap_96 rfl (w := 7) (by decide) rfl ?_
              refine r_goto 23 hX dX8_overlap_99 ?_
              refine r_iload_n 24 hX dX8_overlap_23 rfl ?_
              refine r_bipush 26 hX dX8_overlap_24 (v := 7) (by decide) ?_
              refine r_icmp_ge 29 102 hX dX8_overlap_26 (fun _ => ?_) (fun c => absurd c (by decide))
              refine r_bipush 104 hX dX8_overlap_102 (v := -2) (by decide) ?_
              refine r_iret hX hT dX8_overlap_104 ?_
              have d1 := c1
              simp only [mI_ne _ _ _ _ (show (52 : Nat) ≠ 46 by decide), mI_ne _ _ _ _ (show (54 : Nat) ≠ 46 by decide), mI_ne _ _ _ _ (show (55 : Nat) ≠ 46 by decide)] at *
              exact ⟨by simp [*, ovl, ovG], rfl⟩
            · refine r_iload_n 95 hX dX8_overlap_94 rfl ?_
              refine r_iret hX hT dX8_overlap_95 ?_
              have d1 := c1
              simp only [mI_ne _ _ _ _ (show (52 : Nat) ≠ 46 by decide), mI_ne _ _ _ _ (show (54 : Nat) ≠ 46 by decide), mI_ne _ _ _ _ (show (55 : Nat) ≠ 46 by decide)] at *
              exact ⟨by simp [*, ovl, ovG], rfl⟩
          · refine r_iload_n 95 hX dX8_overlap_94 rfl ?_
            refine r_iret hX hT dX8_overlap_95 ?_
            have d1 := c1
            simp only [mI_ne _ _ _ _ (show (52 : Nat) ≠ 46 by decide), mI_ne _ _ _ _ (show (54 : Nat) ≠ 46 by decide), mI_ne _ _ _ _ (show (55 : Nat) ≠ 46 by decide)] at *
            exact ⟨by simp [*, ovl, ovG], rfl⟩
        · refine r_iload_n 95 hX dX8_overlap_94 rfl ?_
          refine r_iret hX hT dX8_overlap_95 ?_
          have d1 := c1
          simp only [mI_ne _ _ _ _ (show (52 : Nat) ≠ 46 by decide), mI_ne _ _ _ _ (show (54 : Nat) ≠ 46 by decide), mI_ne _ _ _ _ (show (55 : Nat) ≠ 46 by decide)] at *
          exact ⟨by simp [*, ovl, ovG], rfl⟩
      · refine r_iload_n 95 hX dX8_overlap_94 rfl ?_
        refine r_iret hX hT dX8_overlap_95 ?_
        have d1 := c1
        simp only [mI_ne _ _ _ _ (show (52 : Nat) ≠ 46 by decide), mI_ne _ _ _ _ (show (54 : Nat) ≠ 46 by decide), mI_ne _ _ _ _ (show (55 : Nat) ≠ 46 by decide)] at *
        exact ⟨by simp [*, ovl, ovG], rfl⟩
    · refine r_iload_n 95 hX dX8_overlap_94 rfl ?_
      refine r_iret hX hT dX8_overlap_95 ?_
      have d1 := c1
      simp only [mI_ne _ _ _ _ (show (52 : Nat) ≠ 46 by decide), mI_ne _ _ _ _ (show (54 : Nat) ≠ 46 by decide), mI_ne _ _ _ _ (show (55 : Nat) ≠ 46 by decide)] at *
      exact ⟨by simp [*, ovl, ovG], rfl⟩
  · refine r_iconst 20 hX dX8_overlap_19 (v := -1) (by decide) ?_
    refine r_iret hX hT dX8_overlap_20 ?_
    have d1 := c1
    simp only [mI_ne _ _ _ _ (show (52 : Nat) ≠ 46 by decide), mI_ne _ _ _ _ (show (54 : Nat) ≠ 46 by decide), mI_ne _ _ _ _ (show (55 : Nat) ≠ 46 by decide)] at *
    exact ⟨by simp [*, ovl, ovG], rfl⟩
set_option maxRecDepth 100000 in
set_option maxHeartbeats 4000000 in
theorem tX8_overlap_0_r {l : Launch} {G : mx_G} {M : mx_Mem} (hs : ¬ M.1 52 2 = 0) : mx_Met l G yX8_overlap cX8_overlap 4 ((some FieldType.int)) 1 20 [.ref 46, .int 0] M (mx_F (some (.int (if M.1 52 1 = 1 then ovl false (fun k => M.1 54 (0 + k)) (fun k => M.1 55 (0 + k)) else -1))) (th0 M)) := by
  refine mx_enter (own := RX8) (L := [.ref 46, .int 0, .null, .null]) (by decide +kernel) rfl rfl rfl ?_
  intro X hlX hX hR hT
  refine r_aload_n 1 hX dX8_overlap_0 rfl ?_
  refine r_iconst 2 hX dX8_overlap_1 (v := 0) (by decide) ?_
  refine r_putI 5 hX dX8_overlap_2 fX8_63 fp8_13 rfl rfl rfl ?_
  refine r_iload_n 6 hX dX8_overlap_5 rfl ?_
  refine r_cS1F 9 hX hR tX8_isTeam_0 dX8_overlap_6 kX8_isTeam lX8_71 rfl rfl rfl ?_
  refine r_if_eq 12 19 hX dX8_overlap_9 (fun c => absurd c (by decide)) (fun _ => ?_)
  refine r_aload_n 13 hX dX8_overlap_12 rfl ?_
  refine r_cV0F 16 hX hR tX8_isOn dX8_overlap_13 kX8_isOn lX8_82 rfl rfl rfl rfl rfl rfl ?_
  refine r_Bne 19 21 hX dX8_overlap_16 (fun c1 => ?_) (fun c1 => ?_)
  · refine r_iconst 22 hX dX8_overlap_21 (v := 0) (by decide) ?_
    refine r_istore_n 23 hX dX8_overlap_22 rfl ?_
    refine r_iload_n 24 hX dX8_overlap_23 rfl ?_
    refine r_bipush 26 hX dX8_overlap_24 (v := 7) (by decide) ?_
    refine r_icmp_ge 29 102 hX dX8_overlap_26 (fun c => absurd c (by decide)) (fun _ => ?_)
    refine r_gets 32 hX dX8_overlap_29 sX8_138 ?_
    refine r_iload_n 33 hX dX8_overlap_32 rfl ?_
    refine r_taldK 34 hX dX8_overlap_33 (j := 11) rfl (vpK rfl) (v := 0) (by decide) ?_
    refine r_if_ne 37 50 hX dX8_overlap_34 (fun c => absurd c (by decide)) (fun _ => ?_)
    refine r_aload_n 38 hX dX8_overlap_37 rfl ?_
    refine r_getR 41 hX dX8_overlap_38 fX8_26 rfl rfl rfl ?_
    refine r_iconst 42 hX dX8_overlap_41 (v := 2) (by decide) ?_
    refine r_ialdK 43 hX dX8_overlap_42 rfl rfl (vpK rfl) (j := 2) (by decide) ?_
    refine r_iload_n 44 hX dX8_overlap_43 rfl ?_
    refine r_icmp_ne 47 50 hX dX8_overlap_44 (fun c2 => ?_) (fun c2 => absurd c2 hs)
    refine r_iload_n 51 hX dX8_overlap_50 rfl ?_
    refine r_iconst 52 hX dX8_overlap_51 (v := 3) (by decide) ?_
    refine r_icmp_ge 55 62 hX dX8_overlap_52 (fun c => absurd c (by decide)) (fun _ => ?_)
    refine r_aload_n 56 hX dX8_overlap_55 rfl ?_
    refine r_getR 59 hX dX8_overlap_56 fX8_35 rfl rfl rfl ?_
    refine r_goto 66 hX dX8_overlap_59 ?_
    refine r_astore_n 67 hX dX8_overlap_66 rfl ?_
    refine r_aload_n 68 hX dX8_overlap_67 rfl ?_
    refine r_bipush 70 hX dX8_overlap_68 (v := 6) (by decide) ?_
    refine r_iload_n 71 hX dX8_overlap_70 rfl ?_
    refine r_imulK 72 hX dX8_overlap_71 (w := 0) (by decide) ?_
    refine r_gets 75 hX dX8_overlap_72 sX8_141 ?_
    refine r_iload_n 76 hX dX8_overlap_75 rfl ?_
    refine r_taldK 77 hX dX8_overlap_76 (j := 10) rfl (vpK rfl) (v := 1) (by decide) ?_
    refine r_iaddK 78 hX dX8_overlap_77 (w := 1) (by decide) ?_
    refine r_ialdK 79 hX dX8_overlap_78 rfl rfl (vpK rfl) (j := 1) (by decide) ?_
    refine r_aload_n 80 hX dX8_overlap_79 rfl ?_
    refine r_bipush 82 hX dX8_overlap_80 (v := 6) (by decide) ?_
    refine r_iload_n 83 hX dX8_overlap_82 rfl ?_
    refine r_imulK 84 hX dX8_overlap_83 (w := 0) (by decide) ?_
    refine r_gets 87 hX dX8_overlap_84 sX8_138 ?_
    refine r_iload_n 88 hX dX8_overlap_87 rfl ?_
    refine r_taldK 89 hX dX8_overlap_88 (j := 11) rfl (vpK rfl) (v := 0) (by decide) ?_
    refine r_iaddK 90 hX dX8_overlap_89 (w := 0) (by decide) ?_
    refine r_ialdK 91 hX dX8_overlap_90 rfl rfl (vpK rfl) (j := 0) (by decide) ?_
    refine r_Icmp_lt 94 96 hX dX8_overlap_91 (fun c3 => ?_) (fun c3 => ?_)
    · refine r_iincK 99 hX dX8_overlap_96 rfl (w := 1) (by decide) rfl ?_
      refine (show mx_WW G X 99 [_, _, _, _] _ _ from ?_)
      refine r_goto 23 hX dX8_overlap_99 ?_
      refine r_iload_n 24 hX dX8_overlap_23 rfl ?_
      refine r_bipush 26 hX dX8_overlap_24 (v := 7) (by decide) ?_
      refine r_icmp_ge 29 102 hX dX8_overlap_26 (fun c => absurd c (by decide)) (fun _ => ?_)
      refine r_gets 32 hX dX8_overlap_29 sX8_138 ?_
      refine r_iload_n 33 hX dX8_overlap_32 rfl ?_
      refine r_taldK 34 hX dX8_overlap_33 (j := 11) rfl (vpK rfl) (v := 5) (by decide) ?_
      refine r_if_ne 37 50 hX dX8_overlap_34 (fun _ => ?_) (fun c => absurd c (by decide))
      refine r_iload_n 51 hX dX8_overlap_50 rfl ?_
      refine r_iconst 52 hX dX8_overlap_51 (v := 3) (by decide) ?_
      refine r_icmp_ge 55 62 hX dX8_overlap_52 (fun c => absurd c (by decide)) (fun _ => ?_)
      refine r_aload_n 56 hX dX8_overlap_55 rfl ?_
      refine r_getR 59 hX dX8_overlap_56 fX8_35 rfl rfl rfl ?_
      refine r_goto 66 hX dX8_overlap_59 ?_
      refine r_astore_n 67 hX dX8_overlap_66 rfl ?_
      refine r_aload_n 68 hX dX8_overlap_67 rfl ?_
      refine r_bipush 70 hX dX8_overlap_68 (v := 6) (by decide) ?_
      refine r_iload_n 71 hX dX8_overlap_70 rfl ?_
      refine r_imulK 72 hX dX8_overlap_71 (w := 0) (by decide) ?_
      refine r_gets 75 hX dX8_overlap_72 sX8_141 ?_
      refine r_iload_n 76 hX dX8_overlap_75 rfl ?_
      refine r_taldK 77 hX dX8_overlap_76 (j := 10) rfl (vpK rfl) (v := 2) (by decide) ?_
      refine r_iaddK 78 hX dX8_overlap_77 (w := 2) (by decide) ?_
      refine r_ialdK 79 hX dX8_overlap_78 rfl rfl (vpK rfl) (j := 2) (by decide) ?_
      refine r_aload_n 80 hX dX8_overlap_79 rfl ?_
      refine r_bipush 82 hX dX8_overlap_80 (v := 6) (by decide) ?_
      refine r_iload_n 83 hX dX8_overlap_82 rfl ?_
      refine r_imulK 84 hX dX8_overlap_83 (w := 0) (by decide) ?_
      refine r_gets 87 hX dX8_overlap_84 sX8_138 ?_
      refine r_iload_n 88 hX dX8_overlap_87 rfl ?_
      refine r_taldK 89 hX dX8_overlap_88 (j := 11) rfl (vpK rfl) (v := 5) (by decide) ?_
      refine r_iaddK 90 hX dX8_overlap_89 (w := 5) (by decide) ?_
      refine r_ialdK 91 hX dX8_overlap_90 rfl rfl (vpK rfl) (j := 5) (by decide) ?_
      refine r_Icmp_lt 94 96 hX dX8_overlap_91 (fun c4 => ?_) (fun c4 => ?_)
      · refine r_iincK 99 hX dX8_overlap_96 rfl (w := 2) (by decide) rfl ?_
        refine r_goto 23 hX dX8_overlap_99 ?_
        refine r_iload_n 24 hX dX8_overlap_23 rfl ?_
        refine r_bipush 26 hX dX8_overlap_24 (v := 7) (by decide) ?_
        refine r_icmp_ge 29 102 hX dX8_overlap_26 (fun c => absurd c (by decide)) (fun _ => ?_)
        refine r_gets 32 hX dX8_overlap_29 sX8_138 ?_
        refine r_iload_n 33 hX dX8_overlap_32 rfl ?_
        refine r_taldK 34 hX dX8_overlap_33 (j := 11) rfl (vpK rfl) (v := 4) (by decide) ?_
        refine r_if_ne 37 50 hX dX8_overlap_34 (fun _ => ?_) (fun c => absurd c (by decide))
        refine r_iload_n 51 hX dX8_overlap_50 rfl ?_
        refine r_iconst 52 hX dX8_overlap_51 (v := 3) (by decide) ?_
        refine r_icmp_ge 55 62 hX dX8_overlap_52 (fun c => absurd c (by decide)) (fun _ => ?_)
        refine r_aload_n 56 hX dX8_overlap_55 rfl ?_
        refine r_getR 59 hX dX8_overlap_56 fX8_35 rfl rfl rfl ?_
        refine r_goto 66 hX dX8_overlap_59 ?_
        refine r_astore_n 67 hX dX8_overlap_66 rfl ?_
        refine (show mx_WW G X 67 [_, _, _, _] _ _ from ?_)
        refine r_aload_n 68 hX dX8_overlap_67 rfl ?_
        refine r_bipush 70 hX dX8_overlap_68 (v := 6) (by decide) ?_
        refine r_iload_n 71 hX dX8_overlap_70 rfl ?_
        refine r_imulK 72 hX dX8_overlap_71 (w := 0) (by decide) ?_
        refine r_gets 75 hX dX8_overlap_72 sX8_141 ?_
        refine r_iload_n 76 hX dX8_overlap_75 rfl ?_
        refine r_taldK 77 hX dX8_overlap_76 (j := 10) rfl (vpK rfl) (v := 3) (by decide) ?_
        refine r_iaddK 78 hX dX8_overlap_77 (w := 3) (by decide) ?_
        refine r_ialdK 79 hX dX8_overlap_78 rfl rfl (vpK rfl) (j := 3) (by decide) ?_
        refine r_aload_n 80 hX dX8_overlap_79 rfl ?_
        refine r_bipush 82 hX dX8_overlap_80 (v := 6) (by decide) ?_
        refine r_iload_n 83 hX dX8_overlap_82 rfl ?_
        refine r_imulK 84 hX dX8_overlap_83 (w := 0) (by decide) ?_
        refine r_gets 87 hX dX8_overlap_84 sX8_138 ?_
        refine r_iload_n 88 hX dX8_overlap_87 rfl ?_
        refine r_taldK 89 hX dX8_overlap_88 (j := 11) rfl (vpK rfl) (v := 4) (by decide) ?_
        refine r_iaddK 90 hX dX8_overlap_89 (w := 4) (by decide) ?_
        refine r_ialdK 91 hX dX8_overlap_90 rfl rfl (vpK rfl) (j := 4) (by decide) ?_
        refine r_Icmp_lt 94 96 hX dX8_overlap_91 (fun c5 => ?_) (fun c5 => ?_)
        · refine r_iincK 99 hX dX8_overlap_96 rfl (w := 3) (by decide) rfl ?_
          refine r_goto 23 hX dX8_overlap_99 ?_
          refine r_iload_n 24 hX dX8_overlap_23 rfl ?_
          refine r_bipush 26 hX dX8_overlap_24 (v := 7) (by decide) ?_
          refine r_icmp_ge 29 102 hX dX8_overlap_26 (fun c => absurd c (by decide)) (fun _ => ?_)
          refine r_gets 32 hX dX8_overlap_29 sX8_138 ?_
          refine r_iload_n 33 hX dX8_overlap_32 rfl ?_
          refine r_taldK 34 hX dX8_overlap_33 (j := 11) rfl (vpK rfl) (v := 2) (by decide) ?_
          refine r_if_ne 37 50 hX dX8_overlap_34 (fun _ => ?_) (fun c => absurd c (by decide))
          refine r_iload_n 51 hX dX8_overlap_50 rfl ?_
          refine r_iconst 52 hX dX8_overlap_51 (v := 3) (by decide) ?_
          refine r_icmp_ge 55 62 hX dX8_overlap_52 (fun _ => ?_) (fun c => absurd c (by decide))
          refine r_aload_n 63 hX dX8_overlap_62 rfl ?_
          refine r_getR 66 hX dX8_overlap_63 fX8_32 rfl rfl rfl ?_
          refine r_astore_n 67 hX dX8_overlap_66 rfl ?_
          refine r_aload_n 68 hX dX8_overlap_67 rfl ?_
          refine r_bipush 70 hX dX8_overlap_68 (v := 6) (by decide) ?_
          refine r_iload_n 71 hX dX8_overlap_70 rfl ?_
          refine r_imulK 72 hX dX8_overlap_71 (w := 0) (by decide) ?_
          refine r_gets 75 hX dX8_overlap_72 sX8_141 ?_
          refine r_iload_n 76 hX dX8_overlap_75 rfl ?_
          refine r_taldK 77 hX dX8_overlap_76 (j := 10) rfl (vpK rfl) (v := 3) (by decide) ?_
          refine r_iaddK 78 hX dX8_overlap_77 (w := 3) (by decide) ?_
          refine r_ialdK 79 hX dX8_overlap_78 rfl rfl (vpK rfl) (j := 3) (by decide) ?_
          refine r_aload_n 80 hX dX8_overlap_79 rfl ?_
          refine r_bipush 82 hX dX8_overlap_80 (v := 6) (by decide) ?_
          refine r_iload_n 83 hX dX8_overlap_82 rfl ?_
          refine r_imulK 84 hX dX8_overlap_83 (w := 0) (by decide) ?_
          refine r_gets 87 hX dX8_overlap_84 sX8_138 ?_
          refine r_iload_n 88 hX dX8_overlap_87 rfl ?_
          refine r_taldK 89 hX dX8_overlap_88 (j := 11) rfl (vpK rfl) (v := 2) (by decide) ?_
          refine r_iaddK 90 hX dX8_overlap_89 (w := 2) (by decide) ?_
          refine r_ialdK 91 hX dX8_overlap_90 rfl rfl (vpK rfl) (j := 2) (by decide) ?_
          refine r_Icmp_lt 94 96 hX dX8_overlap_91 (fun c6 => ?_) (fun c6 => ?_)
          · refine r_iincK 99 hX dX8_overlap_96 rfl (w := 4) (by decide) rfl ?_
            refine (show mx_WW G X 99 [_, _, _, _] _ _ from ?_)
            refine r_goto 23 hX dX8_overlap_99 ?_
            refine r_iload_n 24 hX dX8_overlap_23 rfl ?_
            refine r_bipush 26 hX dX8_overlap_24 (v := 7) (by decide) ?_
            refine r_icmp_ge 29 102 hX dX8_overlap_26 (fun c => absurd c (by decide)) (fun _ => ?_)
            refine r_gets 32 hX dX8_overlap_29 sX8_138 ?_
            refine r_iload_n 33 hX dX8_overlap_32 rfl ?_
            refine r_taldK 34 hX dX8_overlap_33 (j := 11) rfl (vpK rfl) (v := 1) (by decide) ?_
            refine r_if_ne 37 50 hX dX8_overlap_34 (fun _ => ?_) (fun c => absurd c (by decide))
            refine r_iload_n 51 hX dX8_overlap_50 rfl ?_
            refine r_iconst 52 hX dX8_overlap_51 (v := 3) (by decide) ?_
            refine r_icmp_ge 55 62 hX dX8_overlap_52 (fun _ => ?_) (fun c => absurd c (by decide))
            refine r_aload_n 63 hX dX8_overlap_62 rfl ?_
            refine r_getR 66 hX dX8_overlap_63 fX8_32 rfl rfl rfl ?_
            refine r_astore_n 67 hX dX8_overlap_66 rfl ?_
            refine r_aload_n 68 hX dX8_overlap_67 rfl ?_
            refine r_bipush 70 hX dX8_overlap_68 (v := 6) (by decide) ?_
            refine r_iload_n 71 hX dX8_overlap_70 rfl ?_
            refine r_imulK 72 hX dX8_overlap_71 (w := 0) (by decide) ?_
            refine r_gets 75 hX dX8_overlap_72 sX8_141 ?_
            refine r_iload_n 76 hX dX8_overlap_75 rfl ?_
            refine r_taldK 77 hX dX8_overlap_76 (j := 10) rfl (vpK rfl) (v := 2) (by decide) ?_
            refine r_iaddK 78 hX dX8_overlap_77 (w := 2) (by decide) ?_
            refine r_ialdK 79 hX dX8_overlap_78 rfl rfl (vpK rfl) (j := 2) (by decide) ?_
            refine r_aload_n 80 hX dX8_overlap_79 rfl ?_
            refine r_bipush 82 hX dX8_overlap_80 (v := 6) (by decide) ?_
            refine r_iload_n 83 hX dX8_overlap_82 rfl ?_
            refine r_imulK 84 hX dX8_overlap_83 (w := 0) (by decide) ?_
            refine r_gets 87 hX dX8_overlap_84 sX8_138 ?_
            refine r_iload_n 88 hX dX8_overlap_87 rfl ?_
            refine r_taldK 89 hX dX8_overlap_88 (j := 11) rfl (vpK rfl) (v := 1) (by decide) ?_
            refine r_iaddK 90 hX dX8_overlap_89 (w := 1) (by decide) ?_
            refine r_ialdK 91 hX dX8_overlap_90 rfl rfl (vpK rfl) (j := 1) (by decide) ?_
            refine r_Icmp_lt 94 96 hX dX8_overlap_91 (fun c7 => ?_) (fun c7 => ?_)
            · refine r_iincK 99 hX dX8_overlap_96 rfl (w := 5) (by decide) rfl ?_
              refine r_goto 23 hX dX8_overlap_99 ?_
              refine r_iload_n 24 hX dX8_overlap_23 rfl ?_
              refine r_bipush 26 hX dX8_overlap_24 (v := 7) (by decide) ?_
              refine r_icmp_ge 29 102 hX dX8_overlap_26 (fun c => absurd c (by decide)) (fun _ => ?_)
              refine r_gets 32 hX dX8_overlap_29 sX8_138 ?_
              refine r_iload_n 33 hX dX8_overlap_32 rfl ?_
              refine r_taldK 34 hX dX8_overlap_33 (j := 11) rfl (vpK rfl) (v := 5) (by decide) ?_
              refine r_if_ne 37 50 hX dX8_overlap_34 (fun _ => ?_) (fun c => absurd c (by decide))
              refine r_iload_n 51 hX dX8_overlap_50 rfl ?_
              refine r_iconst 52 hX dX8_overlap_51 (v := 3) (by decide) ?_
              refine r_icmp_ge 55 62 hX dX8_overlap_52 (fun _ => ?_) (fun c => absurd c (by decide))
              refine r_aload_n 63 hX dX8_overlap_62 rfl ?_
              refine r_getR 66 hX dX8_overlap_63 fX8_32 rfl rfl rfl ?_
              refine r_astore_n 67 hX dX8_overlap_66 rfl ?_
              refine (show mx_WW G X 67 [_, _, _, _] _ _ from ?_)
              refine r_aload_n 68 hX dX8_overlap_67 rfl ?_
              refine r_bipush 70 hX dX8_overlap_68 (v := 6) (by decide) ?_
              refine r_iload_n 71 hX dX8_overlap_70 rfl ?_
              refine r_imulK 72 hX dX8_overlap_71 (w := 0) (by decide) ?_
              refine r_gets 75 hX dX8_overlap_72 sX8_141 ?_
              refine r_iload_n 76 hX dX8_overlap_75 rfl ?_
              refine r_taldK 77 hX dX8_overlap_76 (j := 10) rfl (vpK rfl) (v := 4) (by decide) ?_
              refine r_iaddK 78 hX dX8_overlap_77 (w := 4) (by decide) ?_
              refine r_ialdK 79 hX dX8_overlap_78 rfl rfl (vpK rfl) (j := 4) (by decide) ?_
              refine r_aload_n 80 hX dX8_overlap_79 rfl ?_
              refine r_bipush 82 hX dX8_overlap_80 (v := 6) (by decide) ?_
              refine r_iload_n 83 hX dX8_overlap_82 rfl ?_
              refine r_imulK 84 hX dX8_overlap_83 (w := 0) (by decide) ?_
              refine r_gets 87 hX dX8_overlap_84 sX8_138 ?_
              refine r_iload_n 88 hX dX8_overlap_87 rfl ?_
              refine r_taldK 89 hX dX8_overlap_88 (j := 11) rfl (vpK rfl) (v := 5) (by decide) ?_
              refine r_iaddK 90 hX dX8_overlap_89 (w := 5) (by decide) ?_
              refine r_ialdK 91 hX dX8_overlap_90 rfl rfl (vpK rfl) (j := 5) (by decide) ?_
              refine r_Icmp_lt 94 96 hX dX8_overlap_91 (fun c8 => ?_) (fun c8 => ?_)
              · refine r_iincK 99 hX dX8_overlap_96 rfl (w := 6) (by decide) rfl ?_
                refine r_goto 23 hX dX8_overlap_99 ?_
                refine r_iload_n 24 hX dX8_overlap_23 rfl ?_
                refine r_bipush 26 hX dX8_overlap_24 (v := 7) (by decide) ?_
                refine r_icmp_ge 29 102 hX dX8_overlap_26 (fun c => absurd c (by decide)) (fun _ => ?_)
                refine r_gets 32 hX dX8_overlap_29 sX8_138 ?_
                refine r_iload_n 33 hX dX8_overlap_32 rfl ?_
                refine r_taldK 34 hX dX8_overlap_33 (j := 11) rfl (vpK rfl) (v := 0) (by decide) ?_
                refine r_if_ne 37 50 hX dX8_overlap_34 (fun c => absurd c (by decide)) (fun _ => ?_)
                refine r_aload_n 38 hX dX8_overlap_37 rfl ?_
                refine r_getR 41 hX dX8_overlap_38 fX8_26 rfl rfl rfl ?_
                refine r_iconst 42 hX dX8_overlap_41 (v := 2) (by decide) ?_
                refine r_ialdK 43 hX dX8_overlap_42 rfl rfl (vpK rfl) (j := 2) (by decide) ?_
                refine r_iload_n 44 hX dX8_overlap_43 rfl ?_
                refine r_icmp_ne 47 50 hX dX8_overlap_44 (fun c9 => ?_) (fun c9 => absurd c9 hs)
                refine r_iload_n 51 hX dX8_overlap_50 rfl ?_
                refine r_iconst 52 hX dX8_overlap_51 (v := 3) (by decide) ?_
                refine r_icmp_ge 55 62 hX dX8_overlap_52 (fun _ => ?_) (fun c => absurd c (by decide))
                refine r_aload_n 63 hX dX8_overlap_62 rfl ?_
                refine r_getR 66 hX dX8_overlap_63 fX8_32 rfl rfl rfl ?_
                refine r_astore_n 67 hX dX8_overlap_66 rfl ?_
                refine r_aload_n 68 hX dX8_overlap_67 rfl ?_
                refine r_bipush 70 hX dX8_overlap_68 (v := 6) (by decide) ?_
                refine r_iload_n 71 hX dX8_overlap_70 rfl ?_
                refine r_imulK 72 hX dX8_overlap_71 (w := 0) (by decide) ?_
                refine r_gets 75 hX dX8_overlap_72 sX8_141 ?_
                refine r_iload_n 76 hX dX8_overlap_75 rfl ?_
                refine r_taldK 77 hX dX8_overlap_76 (j := 10) rfl (vpK rfl) (v := 5) (by decide) ?_
                refine r_iaddK 78 hX dX8_overlap_77 (w := 5) (by decide) ?_
                refine r_ialdK 79 hX dX8_overlap_78 rfl rfl (vpK rfl) (j := 5) (by decide) ?_
                refine r_aload_n 80 hX dX8_overlap_79 rfl ?_
                refine r_bipush 82 hX dX8_overlap_80 (v := 6) (by decide) ?_
                refine r_iload_n 83 hX dX8_overlap_82 rfl ?_
                refine r_imulK 84 hX dX8_overlap_83 (w := 0) (by decide) ?_
                refine r_gets 87 hX dX8_overlap_84 sX8_138 ?_
                refine r_iload_n 88 hX dX8_overlap_87 rfl ?_
                refine r_taldK 89 hX dX8_overlap_88 (j := 11) rfl (vpK rfl) (v := 0) (by decide) ?_
                refine r_iaddK 90 hX dX8_overlap_89 (w := 0) (by decide) ?_
                refine r_ialdK 91 hX dX8_overlap_90 rfl rfl (vpK rfl) (j := 0) (by decide) ?_
                refine r_Icmp_lt 94 96 hX dX8_overlap_91 (fun c10 => ?_) (fun c10 => ?_)
                · refine r_iincK 99 hX dX8_overlap_96 rfl (w := 7) (by decide) rfl ?_
                  refine (show mx_WW G X 99 [_, _, _, _] _ _ from ?_)
                  refine r_goto 23 hX dX8_overlap_99 ?_
                  refine r_iload_n 24 hX dX8_overlap_23 rfl ?_
                  refine r_bipush 26 hX dX8_overlap_24 (v := 7) (by decide) ?_
                  refine r_icmp_ge 29 102 hX dX8_overlap_26 (fun _ => ?_) (fun c => absurd c (by decide))
                  refine r_bipush 104 hX dX8_overlap_102 (v := -2) (by decide) ?_
                  refine r_iret hX hT dX8_overlap_104 ?_
                  have d1 := c1
                  simp only [mI_ne _ _ _ _ (show (52 : Nat) ≠ 46 by decide), mI_ne _ _ _ _ (show (54 : Nat) ≠ 46 by decide), mI_ne _ _ _ _ (show (55 : Nat) ≠ 46 by decide)] at *
                  exact ⟨by simp [*, ovl, ovG], rfl⟩
                · refine r_iload_n 95 hX dX8_overlap_94 rfl ?_
                  refine r_iret hX hT dX8_overlap_95 ?_
                  have d1 := c1
                  simp only [mI_ne _ _ _ _ (show (52 : Nat) ≠ 46 by decide), mI_ne _ _ _ _ (show (54 : Nat) ≠ 46 by decide), mI_ne _ _ _ _ (show (55 : Nat) ≠ 46 by decide)] at *
                  exact ⟨by simp [*, ovl, ovG], rfl⟩
              · refine r_iload_n 95 hX dX8_overlap_94 rfl ?_
                refine r_iret hX hT dX8_overlap_95 ?_
                have d1 := c1
                simp only [mI_ne _ _ _ _ (show (52 : Nat) ≠ 46 by decide), mI_ne _ _ _ _ (show (54 : Nat) ≠ 46 by decide), mI_ne _ _ _ _ (show (55 : Nat) ≠ 46 by decide)] at *
                exact ⟨by simp [*, ovl, ovG], rfl⟩
            · refine r_iload_n 95 hX dX8_overlap_94 rfl ?_
              refine r_iret hX hT dX8_overlap_95 ?_
              have d1 := c1
              simp only [mI_ne _ _ _ _ (show (52 : Nat) ≠ 46 by decide), mI_ne _ _ _ _ (show (54 : Nat) ≠ 46 by decide), mI_ne _ _ _ _ (show (55 : Nat) ≠ 46 by decide)] at *
              exact ⟨by simp [*, ovl, ovG], rfl⟩
          · refine r_iload_n 95 hX dX8_overlap_94 rfl ?_
            refine r_iret hX hT dX8_overlap_95 ?_
            have d1 := c1
            simp only [mI_ne _ _ _ _ (show (52 : Nat) ≠ 46 by decide), mI_ne _ _ _ _ (show (54 : Nat) ≠ 46 by decide), mI_ne _ _ _ _ (show (55 : Nat) ≠ 46 by decide)] at *
            exact ⟨by simp [*, ovl, ovG], rfl⟩
        · refine r_iload_n 95 hX dX8_overlap_94 rfl ?_
          refine r_iret hX hT dX8_overlap_95 ?_
          have d1 := c1
          simp only [mI_ne _ _ _ _ (show (52 : Nat) ≠ 46 by decide), mI_ne _ _ _ _ (show (54 : Nat) ≠ 46 by decide), mI_ne _ _ _ _ (show (55 : Nat) ≠ 46 by decide)] at *
          exact ⟨by simp [*, ovl, ovG], rfl⟩
      · refine r_iload_n 95 hX dX8_overlap_94 rfl ?_
        refine r_iret hX hT dX8_overlap_95 ?_
        have d1 := c1
        simp only [mI_ne _ _ _ _ (show (52 : Nat) ≠ 46 by decide), mI_ne _ _ _ _ (show (54 : Nat) ≠ 46 by decide), mI_ne _ _ _ _ (show (55 : Nat) ≠ 46 by decide)] at *
        exact ⟨by simp [*, ovl, ovG], rfl⟩
    · refine r_iload_n 95 hX dX8_overlap_94 rfl ?_
      refine r_iret hX hT dX8_overlap_95 ?_
      have d1 := c1
      simp only [mI_ne _ _ _ _ (show (52 : Nat) ≠ 46 by decide), mI_ne _ _ _ _ (show (54 : Nat) ≠ 46 by decide), mI_ne _ _ _ _ (show (55 : Nat) ≠ 46 by decide)] at *
      exact ⟨by simp [*, ovl, ovG], rfl⟩
  · refine r_iconst 20 hX dX8_overlap_19 (v := -1) (by decide) ?_
    refine r_iret hX hT dX8_overlap_20 ?_
    have d1 := c1
    simp only [mI_ne _ _ _ _ (show (52 : Nat) ≠ 46 by decide), mI_ne _ _ _ _ (show (54 : Nat) ≠ 46 by decide), mI_ne _ _ _ _ (show (55 : Nat) ≠ 46 by decide)] at *
    exact ⟨by simp [*, ovl, ovG], rfl⟩
def mwg_1 (M : mx_Mem) (k : Int32) : mx_Mem := mI (th0 M) 52 56 (M.1 52 56 - k)
set_option maxRecDepth 100000 in
set_option maxHeartbeats 4000000 in
theorem tX8_wrong_1 {l : Launch} {G : mx_G} {k : Int32} {M : mx_Mem} (hs : M.1 52 2 = 1) (hp : isP (M.1 52 14)) : mx_Met l G yX8_wrong cX8_wrong 3 ((some FieldType.int)) 4 85 [.ref 46, .int k] M (mx_F (some (.int (if M.1 52 1 = 1 ∧ 0 ≤ k ∧ k ≤ M.1 52 61 then ptR_0 (ptB_0 (mwg_1 M k)) (tgM (mwg_1 M k)) else -1))) (if M.1 52 1 = 1 ∧ 0 ≤ k ∧ k ≤ M.1 52 61 then ptM_0 (ptB_0 (mwg_1 M k)) (tgM (mwg_1 M k)) else th0 M)) := by
  refine mx_enter (own := RX8) (L := [.ref 46, .int k, .null]) (by decide +kernel) rfl rfl rfl ?_
  intro X hlX hX hR hT
  refine r_aload_n 1 hX dX8_wrong_0 rfl ?_
  refine r_iconst 2 hX dX8_wrong_1 (v := 0) (by decide) ?_
  refine r_putI 5 hX dX8_wrong_2 fX8_63 fp8_13 rfl rfl rfl ?_
  refine r_aload_n 6 hX dX8_wrong_5 rfl ?_
  refine r_cV0F 9 hX hR tX8_isOn dX8_wrong_6 kX8_isOn lX8_82 rfl rfl rfl rfl rfl rfl ?_
  refine r_Bne 12 14 hX dX8_wrong_9 (fun c1 => ?_) (fun c1 => ?_)
  · refine r_aload_n 15 hX dX8_wrong_14 rfl ?_
    refine r_getR 18 hX dX8_wrong_15 fX8_26 rfl rfl rfl ?_
    refine r_iconst 19 hX dX8_wrong_18 (v := 2) (by decide) ?_
    refine r_ialdK 20 hX dX8_wrong_19 rfl rfl (vpK rfl) (j := 2) (by decide) ?_
    rw [show (th0 M).1 52 2 = 1 from hs]
    refine r_istore_n 21 hX dX8_wrong_20 rfl ?_
    refine r_iload_n 22 hX dX8_wrong_21 rfl ?_
    refine r_iconst 23 hX dX8_wrong_22 (v := 0) (by decide) ?_
    refine r_aload_n 24 hX dX8_wrong_23 rfl ?_
    refine r_iload_n 25 hX dX8_wrong_24 rfl ?_
    refine r_iconst 26 hX dX8_wrong_25 (v := 5) (by decide) ?_
    refine r_cV2F 29 hX hR (tX8_get (t := 1) (k := 5) (n := 61) rfl (by decide)) dX8_wrong_26 kX8_get lX8_95 rfl rfl rfl rfl rfl rfl ?_
    refine r_cS3F 32 hX hR tX8_in dX8_wrong_29 kX8_in lX8_67 rfl rfl rfl ?_
    refine r_Bne 35 37 hX dX8_wrong_32 (fun c2 => ?_) (fun c2 => ?_)
    · refine r_aload_n 38 hX dX8_wrong_37 rfl ?_
      refine r_iload_n 39 hX dX8_wrong_38 rfl ?_
      refine r_iconst 40 hX dX8_wrong_39 (v := 0) (by decide) ?_
      refine r_aload_n 41 hX dX8_wrong_40 rfl ?_
      refine r_iload_n 42 hX dX8_wrong_41 rfl ?_
      refine r_iconst 43 hX dX8_wrong_42 (v := 0) (by decide) ?_
      refine r_cV2F 46 hX hR (tX8_get (t := 1) (k := 0) (n := 56) rfl (by decide)) dX8_wrong_43 kX8_get lX8_95 rfl rfl rfl rfl rfl rfl ?_
      refine r_iload_n 47 hX dX8_wrong_46 rfl ?_
      refine r_isub 48 hX dX8_wrong_47 ?_
      refine r_cV3U 51 hX hR (tX8_put (t := 1) (k := 0) (n := 56) rfl (by decide)) dX8_wrong_48 kX8_put lX8_56 rfl rfl rfl rfl rfl rfl ?_
      refine r_aload_n 52 hX dX8_wrong_51 rfl ?_
      refine r_iconst 53 hX dX8_wrong_52 (v := 1) (by decide) ?_
      refine r_iload_n 54 hX dX8_wrong_53 rfl ?_
      refine r_isubK 55 hX dX8_wrong_54 (w := 0) (by decide) ?_
      refine r_cV1F 58 hX hR (tX8_point_0 hp) dX8_wrong_55 kX8_point lX8_113 rfl rfl rfl rfl rfl rfl ?_
      refine r_iret hX hT dX8_wrong_58 ?_
      have d1 : M.1 52 1 = 1 := c1
      have d2 : 0 ≤ k ∧ k ≤ M.1 52 61 := c2
      rw [if_pos ⟨d1, d2⟩, if_pos ⟨d1, d2⟩]
      exact ⟨rfl, rfl⟩
    · refine r_iconst 36 hX dX8_wrong_35 (v := -1) (by decide) ?_
      refine r_iret hX hT dX8_wrong_36 ?_
      have d1 : ¬ (0 ≤ k ∧ k ≤ M.1 52 61) := c2
      rw [if_neg (fun h => d1 h.2), if_neg (fun h => d1 h.2)]
      exact ⟨rfl, rfl⟩
  · refine r_iconst 13 hX dX8_wrong_12 (v := -1) (by decide) ?_
    refine r_iret hX hT dX8_wrong_13 ?_
    have d1 : ¬ M.1 52 1 = 1 := c1
    rw [if_neg (fun h => d1 h.1), if_neg (fun h => d1 h.1)]
    exact ⟨rfl, rfl⟩
set_option maxRecDepth 100000 in
set_option maxHeartbeats 4000000 in
theorem tX8_pause_1 {l : Launch} {G : mx_G} {M : mx_Mem} : mx_Met l G yX8_pause cX8_pause 2 ((some FieldType.int)) 2 44 [.ref 46, .int 1] M (mx_F (some (.int (if ¬ M.1 52 1 = 1 ∨ M.1 49 5 ≤ M.1 52 59 then -1 else M.1 52 59 + 1))) (if ¬ M.1 52 1 = 1 ∨ M.1 49 5 ≤ M.1 52 59 then th0 M else mI (th0 M) 52 59 (M.1 52 59 + 1))) := by
  refine mx_enter (own := RX8) (L := [.ref 46, .int 1]) (by decide +kernel) rfl rfl rfl ?_
  intro X hlX hX hR hT
  refine r_aload_n 1 hX dX8_pause_0 rfl ?_
  refine r_iconst 2 hX dX8_pause_1 (v := 0) (by decide) ?_
  refine r_putI 5 hX dX8_pause_2 fX8_63 fp8_13 rfl rfl rfl ?_
  refine r_iload_n 6 hX dX8_pause_5 rfl ?_
  refine r_cS1F 9 hX hR tX8_isTeam_1 dX8_pause_6 kX8_isTeam lX8_71 rfl rfl rfl ?_
  refine r_if_eq 12 20 hX dX8_pause_9 (fun c => absurd c (by decide)) (fun _ => ?_)
  refine r_aload_n 13 hX dX8_pause_12 rfl ?_
  refine r_iload_n 14 hX dX8_pause_13 rfl ?_
  refine r_cV1F 17 hX hR tX8_doPause_1 dX8_pause_14 kX8_doPause lX8_129 rfl rfl rfl rfl rfl rfl ?_
  refine r_goto 21 hX dX8_pause_17 ?_
  refine r_iret hX hT dX8_pause_21 ?_
  exact ⟨rfl, rfl⟩
set_option maxRecDepth 100000 in
set_option maxHeartbeats 4000000 in
theorem tX8_at_1 {l : Launch} {G : mx_G} {k : Nat} {M : mx_Mem} (hk : k < 6) : mx_Met l G yX8_at cX8_at 3 ((some FieldType.int)) 1 22 [.ref 46, .int 1, .int (nI k)] M (mx_F (some (.int (if M.1 52 0 = -1 then -1 else M.1 52 (k + 64)))) (th0 M)) := by
  refine mx_enter (own := RX8) (L := [.ref 46, .int 1, .int (nI k)]) (by decide +kernel) rfl rfl rfl ?_
  intro X hlX hX hR hT
  have hi : 0 ≤ nI k ∧ nI k ≤ 5 := ⟨nI_pos' (by omega), nI_le (b := 5) (by omega) (by omega)⟩
  have hv := vp_in_nI hk (by decide)
  refine r_aload_n 1 hX dX8_at_0 rfl ?_
  refine r_iconst 2 hX dX8_at_1 (v := 0) (by decide) ?_
  refine r_putI 5 hX dX8_at_2 fX8_63 fp8_13 rfl rfl rfl ?_
  refine r_iload_n 6 hX dX8_at_5 rfl ?_
  refine r_cS1F 9 hX hR tX8_isTeam_1 dX8_at_6 kX8_isTeam lX8_71 rfl rfl rfl ?_
  refine r_if_eq 12 43 hX dX8_at_9 (fun c => absurd c (by decide)) (fun _ => ?_)
  refine r_iload_n 13 hX dX8_at_12 rfl ?_
  refine r_iconst 14 hX dX8_at_13 (v := 0) (by decide) ?_
  refine r_iconst 15 hX dX8_at_14 (v := 5) (by decide) ?_
  refine r_cS3F 18 hX hR tX8_in dX8_at_15 kX8_in lX8_67 rfl rfl rfl ?_
  refine r_Beq 21 43 hX dX8_at_18 (fun c1 => absurd hi c1) (fun c1 => ?_)
  refine r_aload_n 22 hX dX8_at_21 rfl ?_
  refine r_getR 25 hX dX8_at_22 fX8_26 rfl rfl rfl ?_
  refine r_iconst 26 hX dX8_at_25 (v := 0) (by decide) ?_
  refine r_ialdK 27 hX dX8_at_26 rfl rfl (vpK rfl) (j := 0) (by decide) ?_
  refine r_iconst 28 hX dX8_at_27 (v := -1) (by decide) ?_
  refine r_icmp_eq 31 43 hX dX8_at_28 (fun c2 => ?_) (fun c2 => ?_)
  · refine r_iconst 44 hX dX8_at_43 (v := -1) (by decide) ?_
    refine r_iret hX hT dX8_at_44 ?_
    first | (rw [if_pos (show M.1 52 0 = -1 from c2)]; exact ⟨rfl, rfl⟩) | (rw [if_neg (show ¬ M.1 52 0 = -1 from c2), nI_clamp (by omega)]; exact ⟨rfl, rfl⟩)
  · refine r_aload_n 32 hX dX8_at_31 rfl ?_
    refine r_iload_n 33 hX dX8_at_32 rfl ?_
    refine r_bipush 35 hX dX8_at_33 (v := 8) (by decide) ?_
    refine r_iload_n 36 hX dX8_at_35 rfl ?_
    refine r_iadd 37 hX dX8_at_36 ?_
    refine r_cV2F 40 hX hR (tX8_getV 1 8 64 6 rfl (by decide) hv) dX8_at_37 kX8_get lX8_95 rfl rfl rfl rfl rfl rfl ?_
    refine r_goto 44 hX dX8_at_40 ?_
    refine r_iret hX hT dX8_at_44 ?_
    first | (rw [if_pos (show M.1 52 0 = -1 from c2)]; exact ⟨rfl, rfl⟩) | (rw [if_neg (show ¬ M.1 52 0 = -1 from c2), nI_clamp (by omega)]; exact ⟨rfl, rfl⟩)
set_option maxRecDepth 100000 in
set_option maxHeartbeats 4000000 in
theorem tX8_at_1_n {l : Launch} {G : mx_G} {p : Int32} {M : mx_Mem} (hp : ¬ (0 ≤ p ∧ p ≤ 5)) : mx_Met l G yX8_at cX8_at 3 ((some FieldType.int)) 1 22 [.ref 46, .int 1, .int p] M (mx_F (some (.int (-1))) (th0 M)) := by
  refine mx_enter (own := RX8) (L := [.ref 46, .int 1, .int p]) (by decide +kernel) rfl rfl rfl ?_
  intro X hlX hX hR hT
  refine r_aload_n 1 hX dX8_at_0 rfl ?_
  refine r_iconst 2 hX dX8_at_1 (v := 0) (by decide) ?_
  refine r_putI 5 hX dX8_at_2 fX8_63 fp8_13 rfl rfl rfl ?_
  refine r_iload_n 6 hX dX8_at_5 rfl ?_
  refine r_cS1F 9 hX hR tX8_isTeam_1 dX8_at_6 kX8_isTeam lX8_71 rfl rfl rfl ?_
  refine r_if_eq 12 43 hX dX8_at_9 (fun c => absurd c (by decide)) (fun _ => ?_)
  refine r_iload_n 13 hX dX8_at_12 rfl ?_
  refine r_iconst 14 hX dX8_at_13 (v := 0) (by decide) ?_
  refine r_iconst 15 hX dX8_at_14 (v := 5) (by decide) ?_
  refine r_cS3F 18 hX hR tX8_in dX8_at_15 kX8_in lX8_67 rfl rfl rfl ?_
  refine r_Beq 21 43 hX dX8_at_18 (fun c1 => ?_) (fun c1 => absurd c1 hp)
  refine r_iconst 44 hX dX8_at_43 (v := -1) (by decide) ?_
  refine r_iret hX hT dX8_at_44 ?_
  exact ⟨rfl, rfl⟩
set_option maxRecDepth 100000 in
set_option maxHeartbeats 4000000 in
theorem tX8_of_1 {l : Launch} {G : mx_G} {k : Nat} {M : mx_Mem} (hk : k < 7) : mx_Met l G yX8_of cX8_of 3 ((some FieldType.int)) 1 22 [.ref 46, .int 1, .int (nI k)] M (mx_F (some (.int (M.1 52 (56 + k)))) (th0 M)) := by
  refine mx_enter (own := RX8) (L := [.ref 46, .int 1, .int (nI k)]) (by decide +kernel) rfl rfl rfl ?_
  intro X hlX hX hR hT
  have hi : 0 ≤ nI k ∧ nI k ≤ 6 := ⟨nI_pos' (by omega), nI_le (b := 6) (by omega) (by omega)⟩
  refine r_aload_n 1 hX dX8_of_0 rfl ?_
  refine r_iconst 2 hX dX8_of_1 (v := 0) (by decide) ?_
  refine r_putI 5 hX dX8_of_2 fX8_63 fp8_13 rfl rfl rfl ?_
  refine r_iload_n 6 hX dX8_of_5 rfl ?_
  refine r_cS1F 9 hX hR tX8_isTeam_1 dX8_of_6 kX8_isTeam lX8_71 rfl rfl rfl ?_
  refine r_if_eq 12 31 hX dX8_of_9 (fun c => absurd c (by decide)) (fun _ => ?_)
  refine r_iload_n 13 hX dX8_of_12 rfl ?_
  refine r_iconst 14 hX dX8_of_13 (v := 0) (by decide) ?_
  refine r_bipush 16 hX dX8_of_14 (v := 6) (by decide) ?_
  refine r_cS3F 19 hX hR tX8_in dX8_of_16 kX8_in lX8_67 rfl rfl rfl ?_
  refine r_Beq 22 31 hX dX8_of_19 (fun c1 => absurd hi c1) (fun c1 => ?_)
  refine r_aload_n 23 hX dX8_of_22 rfl ?_
  refine r_iload_n 24 hX dX8_of_23 rfl ?_
  refine r_iload_n 25 hX dX8_of_24 rfl ?_
  refine r_cV2F 28 hX hR (tX8_get (t := 1) (k := k) (n := 56 + k) rfl (by omega)) dX8_of_25 kX8_get lX8_95 rfl rfl rfl rfl rfl rfl ?_
  refine r_goto 32 hX dX8_of_28 ?_
  refine r_iret hX hT dX8_of_32 ?_
  exact ⟨rfl, rfl⟩
set_option maxRecDepth 100000 in
set_option maxHeartbeats 4000000 in
theorem tX8_of_1_n {l : Launch} {G : mx_G} {p : Int32} {M : mx_Mem} (hp : ¬ (0 ≤ p ∧ p ≤ 6)) : mx_Met l G yX8_of cX8_of 3 ((some FieldType.int)) 1 22 [.ref 46, .int 1, .int p] M (mx_F (some (.int (-1))) (th0 M)) := by
  refine mx_enter (own := RX8) (L := [.ref 46, .int 1, .int p]) (by decide +kernel) rfl rfl rfl ?_
  intro X hlX hX hR hT
  refine r_aload_n 1 hX dX8_of_0 rfl ?_
  refine r_iconst 2 hX dX8_of_1 (v := 0) (by decide) ?_
  refine r_putI 5 hX dX8_of_2 fX8_63 fp8_13 rfl rfl rfl ?_
  refine r_iload_n 6 hX dX8_of_5 rfl ?_
  refine r_cS1F 9 hX hR tX8_isTeam_1 dX8_of_6 kX8_isTeam lX8_71 rfl rfl rfl ?_
  refine r_if_eq 12 31 hX dX8_of_9 (fun c => absurd c (by decide)) (fun _ => ?_)
  refine r_iload_n 13 hX dX8_of_12 rfl ?_
  refine r_iconst 14 hX dX8_of_13 (v := 0) (by decide) ?_
  refine r_bipush 16 hX dX8_of_14 (v := 6) (by decide) ?_
  refine r_cS3F 19 hX hR tX8_in dX8_of_16 kX8_in lX8_67 rfl rfl rfl ?_
  refine r_Beq 22 31 hX dX8_of_19 (fun c1 => ?_) (fun c1 => absurd c1 hp)
  refine r_iconst 32 hX dX8_of_31 (v := -1) (by decide) ?_
  refine r_iret hX hT dX8_of_32 ?_
  exact ⟨rfl, rfl⟩
set_option maxRecDepth 100000 in
set_option maxHeartbeats 4000000 in
theorem tX8_served_1 {l : Launch} {G : mx_G} {p : Int32} {M : mx_Mem} : mx_Met l G yX8_served cX8_served 3 ((some FieldType.int)) 2 42 [.ref 46, .int 1, .int p] M (mx_F (some (.int (if isP p then M.1 52 (p.toNatClampNeg + 94) else -1))) (th0 M)) := by
  refine mx_enter (own := RX8) (L := [.ref 46, .int 1, .int p]) (by decide +kernel) rfl rfl rfl ?_
  intro X hlX hX hR hT
  refine r_aload_n 1 hX dX8_served_0 rfl ?_
  refine r_iconst 2 hX dX8_served_1 (v := 0) (by decide) ?_
  refine r_putI 5 hX dX8_served_2 fX8_63 fp8_13 rfl rfl rfl ?_
  refine r_iload_n 6 hX dX8_served_5 rfl ?_
  refine r_cS1F 9 hX hR tX8_isTeam_1 dX8_served_6 kX8_isTeam lX8_71 rfl rfl rfl ?_
  refine r_if_eq 12 31 hX dX8_served_9 (fun c => absurd c (by decide)) (fun _ => ?_)
  refine r_iload_n 13 hX dX8_served_12 rfl ?_
  refine r_cS1F 16 hX hR tX8_isPlayer dX8_served_13 kX8_isPlayer lX8_75 rfl rfl rfl ?_
  refine r_Beq 19 31 hX dX8_served_16 (fun c1 => ?_) (fun c1 => ?_)
  · refine r_iconst 32 hX dX8_served_31 (v := -1) (by decide) ?_
    refine r_iret hX hT dX8_served_32 ?_
    first | (rw [if_pos c1]; exact ⟨rfl, rfl⟩) | (rw [if_neg c1]; exact ⟨rfl, rfl⟩)
  · refine r_aload_n 20 hX dX8_served_19 rfl ?_
    refine r_iload_n 21 hX dX8_served_20 rfl ?_
    refine r_bipush 23 hX dX8_served_21 (v := 38) (by decide) ?_
    refine r_iload_n 24 hX dX8_served_23 rfl ?_
    refine r_iadd 25 hX dX8_served_24 ?_
    refine r_cV2F 28 hX hR (tX8_getV 1 38 94 12 rfl (by decide) (vpP c1)) dX8_served_25 kX8_get lX8_95 rfl rfl rfl rfl rfl rfl ?_
    refine r_goto 32 hX dX8_served_28 ?_
    refine r_iret hX hT dX8_served_32 ?_
    first | (rw [if_pos c1]; exact ⟨rfl, rfl⟩) | (rw [if_neg c1]; exact ⟨rfl, rfl⟩)
def mft_1 (M : mx_Mem) (x y : Int32) : Prop := (0 ≤ x ∧ x ≤ 999) ∧ (0 ≤ y ∧ y ≤ 999) ∧ M.1 52 1 = 1
set_option maxRecDepth 100000 in
set_option maxHeartbeats 4000000 in
theorem tX8_feet_1 {l : Launch} {G : mx_G} {k : Nat} {x y : Int32} {M : mx_Mem} (hk : k < 6) : mx_Met l G yX8_feet cX8_feet 5 ((some FieldType.boolean)) 1 22 [.ref 46, .int 1, .int (nI k), .int x, .int y] M (fun r M' => (mft_1 M x y ∧ r = some (.int 1) ∧ M' = mI (mI (th0 M) 54 (6 + k) x) 55 (6 + k) y) ∨ (¬ mft_1 M x y ∧ r = some (.int 0) ∧ M' = th0 M)) := by
  refine mx_enter (own := RX8) (L := [.ref 46, .int 1, .int (nI k), .int x, .int y]) (by decide +kernel) rfl rfl rfl ?_
  intro X hlX hX hR hT
  have hi : 0 ≤ nI k ∧ nI k ≤ 5 := ⟨nI_pos' (by omega), nI_le (b := 5) (by omega) (by omega)⟩
  have hx : (6 : Int32) + nI k = nI (6 + k) := nI_add 6 k
  refine r_aload_n 1 hX dX8_feet_0 rfl ?_
  refine r_iconst 2 hX dX8_feet_1 (v := 0) (by decide) ?_
  refine r_putI 5 hX dX8_feet_2 fX8_63 fp8_13 rfl rfl rfl ?_
  refine r_iload_n 6 hX dX8_feet_5 rfl ?_
  refine r_cS1F 9 hX hR tX8_isTeam_1 dX8_feet_6 kX8_isTeam lX8_71 rfl rfl rfl ?_
  refine r_if_eq 12 51 hX dX8_feet_9 (fun c => absurd c (by decide)) (fun _ => ?_)
  refine r_iload_n 13 hX dX8_feet_12 rfl ?_
  refine r_iconst 14 hX dX8_feet_13 (v := 0) (by decide) ?_
  refine r_iconst 15 hX dX8_feet_14 (v := 5) (by decide) ?_
  refine r_cS3F 18 hX hR tX8_in dX8_feet_15 kX8_in lX8_67 rfl rfl rfl ?_
  refine r_Beq 21 51 hX dX8_feet_18 (fun c1 => absurd hi c1) (fun c1 => ?_)
  refine r_iload_n 22 hX dX8_feet_21 rfl ?_
  refine r_iconst 23 hX dX8_feet_22 (v := 0) (by decide) ?_
  refine r_sipush 26 hX dX8_feet_23 (v := 999) (by decide) ?_
  refine r_cS3F 29 hX hR tX8_in dX8_feet_26 kX8_in lX8_67 rfl rfl rfl ?_
  refine r_Beq 32 51 hX dX8_feet_29 (fun c2 => ?_) (fun c2 => ?_)
  · refine r_iconst 52 hX dX8_feet_51 (v := 0) (by decide) ?_
    refine r_zret hX hT dX8_feet_52 (by first | assumption | decide) ?_
    exact Or.inr ⟨fun h => by first | exact c2 h.1 | exact c3 h.2.1 | exact c4 h.2.2, rfl, rfl⟩
  · refine r_iload 34 hX dX8_feet_32 rfl ?_
    refine r_iconst 35 hX dX8_feet_34 (v := 0) (by decide) ?_
    refine r_sipush 38 hX dX8_feet_35 (v := 999) (by decide) ?_
    refine r_cS3F 41 hX hR tX8_in dX8_feet_38 kX8_in lX8_67 rfl rfl rfl ?_
    refine r_Beq 44 51 hX dX8_feet_41 (fun c3 => ?_) (fun c3 => ?_)
    · refine r_iconst 52 hX dX8_feet_51 (v := 0) (by decide) ?_
      refine r_zret hX hT dX8_feet_52 (by first | assumption | decide) ?_
      exact Or.inr ⟨fun h => by first | exact c2 h.1 | exact c3 h.2.1 | exact c4 h.2.2, rfl, rfl⟩
    · refine r_aload_n 45 hX dX8_feet_44 rfl ?_
      refine r_cV0F 48 hX hR tX8_isOn dX8_feet_45 kX8_isOn lX8_82 rfl rfl rfl rfl rfl rfl ?_
      refine r_Bne 51 53 hX dX8_feet_48 (fun c4 => ?_) (fun c4 => ?_)
      · refine r_aload_n 54 hX dX8_feet_53 rfl ?_
        refine r_getR 57 hX dX8_feet_54 fX8_32 rfl rfl rfl ?_
        refine r_bipush 59 hX dX8_feet_57 (v := 6) (by decide) ?_
        refine r_iload_n 60 hX dX8_feet_59 rfl ?_
        refine r_imulK 61 hX dX8_feet_60 (w := 6) (by decide) ?_
        refine r_iload_n 62 hX dX8_feet_61 rfl ?_
        refine r_iadd 63 hX dX8_feet_62 ?_
        rw [hx]
        refine r_iload_n 64 hX dX8_feet_63 rfl ?_
        refine r_iastK 65 hX dX8_feet_64 rfl rfl (vp_in_nI (show 6 + k < 12 by omega) (by decide)) (j := 6 + k) (nI_clamp (by omega)) ?_
        refine r_aload_n 66 hX dX8_feet_65 rfl ?_
        refine r_getR 69 hX dX8_feet_66 fX8_35 rfl rfl rfl ?_
        refine r_bipush 71 hX dX8_feet_69 (v := 6) (by decide) ?_
        refine r_iload_n 72 hX dX8_feet_71 rfl ?_
        refine r_imulK 73 hX dX8_feet_72 (w := 6) (by decide) ?_
        refine r_iload_n 74 hX dX8_feet_73 rfl ?_
        refine r_iadd 75 hX dX8_feet_74 ?_
        rw [hx]
        refine r_iload 77 hX dX8_feet_75 rfl ?_
        refine r_iastK 78 hX dX8_feet_77 rfl rfl (vp_in_nI (show 6 + k < 12 by omega) (by decide)) (j := 6 + k) (nI_clamp (by omega)) ?_
        refine r_iconst 79 hX dX8_feet_78 (v := 1) (by decide) ?_
        refine r_zret hX hT dX8_feet_79 (by first | assumption | decide) ?_
        exact Or.inl ⟨⟨c2, c3, c4⟩, rfl, rfl⟩
      · refine r_iconst 52 hX dX8_feet_51 (v := 0) (by decide) ?_
        refine r_zret hX hT dX8_feet_52 (by first | assumption | decide) ?_
        exact Or.inr ⟨fun h => by first | exact c2 h.1 | exact c3 h.2.1 | exact c4 h.2.2, rfl, rfl⟩
set_option maxRecDepth 100000 in
set_option maxHeartbeats 4000000 in
theorem tX8_feet_1_n {l : Launch} {G : mx_G} {p x y : Int32} {M : mx_Mem} (hp : ¬ (0 ≤ p ∧ p ≤ 5)) : mx_Met l G yX8_feet cX8_feet 5 ((some FieldType.boolean)) 1 22 [.ref 46, .int 1, .int p, .int x, .int y] M (mx_F (some (.int 0)) (th0 M)) := by
  refine mx_enter (own := RX8) (L := [.ref 46, .int 1, .int p, .int x, .int y]) (by decide +kernel) rfl rfl rfl ?_
  intro X hlX hX hR hT
  refine r_aload_n 1 hX dX8_feet_0 rfl ?_
  refine r_iconst 2 hX dX8_feet_1 (v := 0) (by decide) ?_
  refine r_putI 5 hX dX8_feet_2 fX8_63 fp8_13 rfl rfl rfl ?_
  refine r_iload_n 6 hX dX8_feet_5 rfl ?_
  refine r_cS1F 9 hX hR tX8_isTeam_1 dX8_feet_6 kX8_isTeam lX8_71 rfl rfl rfl ?_
  refine r_if_eq 12 51 hX dX8_feet_9 (fun c => absurd c (by decide)) (fun _ => ?_)
  refine r_iload_n 13 hX dX8_feet_12 rfl ?_
  refine r_iconst 14 hX dX8_feet_13 (v := 0) (by decide) ?_
  refine r_iconst 15 hX dX8_feet_14 (v := 5) (by decide) ?_
  refine r_cS3F 18 hX hR tX8_in dX8_feet_15 kX8_in lX8_67 rfl rfl rfl ?_
  refine r_Beq 21 51 hX dX8_feet_18 (fun c1 => ?_) (fun c1 => absurd c1 hp)
  refine r_iconst 52 hX dX8_feet_51 (v := 0) (by decide) ?_
  refine r_zret hX hT dX8_feet_52 (by first | assumption | decide) ?_
  exact ⟨rfl, rfl⟩
set_option maxRecDepth 100000 in
set_option maxHeartbeats 4000000 in
theorem tX8_overlap_1_s {l : Launch} {G : mx_G} {M : mx_Mem} (hs : M.1 52 2 = 1) : mx_Met l G yX8_overlap cX8_overlap 4 ((some FieldType.int)) 1 20 [.ref 46, .int 1] M (mx_F (some (.int (if M.1 52 1 = 1 then ovl true (fun k => M.1 54 (6 + k)) (fun k => M.1 55 (6 + k)) else -1))) (th0 M)) := by
  refine mx_enter (own := RX8) (L := [.ref 46, .int 1, .null, .null]) (by decide +kernel) rfl rfl rfl ?_
  intro X hlX hX hR hT
  have hs' : (th0 M).1 52 2 = 1 := hs
  refine r_aload_n 1 hX dX8_overlap_0 rfl ?_
  refine r_iconst 2 hX dX8_overlap_1 (v := 0) (by decide) ?_
  refine r_putI 5 hX dX8_overlap_2 fX8_63 fp8_13 rfl rfl rfl ?_
  refine r_iload_n 6 hX dX8_overlap_5 rfl ?_
  refine r_cS1F 9 hX hR tX8_isTeam_1 dX8_overlap_6 kX8_isTeam lX8_71 rfl rfl rfl ?_
  refine r_if_eq 12 19 hX dX8_overlap_9 (fun c => absurd c (by decide)) (fun _ => ?_)
  refine r_aload_n 13 hX dX8_overlap_12 rfl ?_
  refine r_cV0F 16 hX hR tX8_isOn dX8_overlap_13 kX8_isOn lX8_82 rfl rfl rfl rfl rfl rfl ?_
  refine r_Bne 19 21 hX dX8_overlap_16 (fun c1 => ?_) (fun c1 => ?_)
  · refine r_iconst 22 hX dX8_overlap_21 (v := 0) (by decide) ?_
    refine r_istore_n 23 hX dX8_overlap_22 rfl ?_
    refine r_iload_n 24 hX dX8_overlap_23 rfl ?_
    refine r_bipush 26 hX dX8_overlap_24 (v := 7) (by decide) ?_
    refine r_icmp_ge 29 102 hX dX8_overlap_26 (fun c => absurd c (by decide)) (fun _ => ?_)
    refine r_gets 32 hX dX8_overlap_29 sX8_138 ?_
    refine r_iload_n 33 hX dX8_overlap_32 rfl ?_
    refine r_taldK 34 hX dX8_overlap_33 (j := 11) rfl (vpK rfl) (v := 0) (by decide) ?_
    refine r_if_ne 37 50 hX dX8_overlap_34 (fun c => absurd c (by decide)) (fun _ => ?_)
    refine r_aload_n 38 hX dX8_overlap_37 rfl ?_
    refine r_getR 41 hX dX8_overlap_38 fX8_26 rfl rfl rfl ?_
    refine r_iconst 42 hX dX8_overlap_41 (v := 2) (by decide) ?_
    refine r_ialdK 43 hX dX8_overlap_42 rfl rfl (vpK rfl) (j := 2) (by decide) ?_
    refine r_iload_n 44 hX dX8_overlap_43 rfl ?_
    refine r_icmp_ne 47 50 hX dX8_overlap_44 (fun c2 => absurd hs c2) (fun c2 => ?_)
    refine r_goto 96 hX dX8_overlap_47 ?_
    refine r_iincK 99 hX dX8_overlap_96 rfl (w := 1) (by decide) rfl ?_
    refine r_goto 23 hX dX8_overlap_99 ?_
    refine r_iload_n 24 hX dX8_overlap_23 rfl ?_
    refine r_bipush 26 hX dX8_overlap_24 (v := 7) (by decide) ?_
    refine r_icmp_ge 29 102 hX dX8_overlap_26 (fun c => absurd c (by decide)) (fun _ => ?_)
    refine r_gets 32 hX dX8_overlap_29 sX8_138 ?_
    refine r_iload_n 33 hX dX8_overlap_32 rfl ?_
    refine r_taldK 34 hX dX8_overlap_33 (j := 11) rfl (vpK rfl) (v := 5) (by decide) ?_
    refine r_if_ne 37 50 hX dX8_overlap_34 (fun _ => ?_) (fun c => absurd c (by decide))
    refine r_iload_n 51 hX dX8_overlap_50 rfl ?_
    refine r_iconst 52 hX dX8_overlap_51 (v := 3) (by decide) ?_
    refine r_icmp_ge 55 62 hX dX8_overlap_52 (fun c => absurd c (by decide)) (fun _ => ?_)
    refine r_aload_n 56 hX dX8_overlap_55 rfl ?_
    refine r_getR 59 hX dX8_overlap_56 fX8_35 rfl rfl rfl ?_
    refine r_goto 66 hX dX8_overlap_59 ?_
    refine r_astore_n 67 hX dX8_overlap_66 rfl ?_
    refine (show mx_WW G X 67 [_, _, _, _] _ _ from ?_)
    refine r_aload_n 68 hX dX8_overlap_67 rfl ?_
    refine r_bipush 70 hX dX8_overlap_68 (v := 6) (by decide) ?_
    refine r_iload_n 71 hX dX8_overlap_70 rfl ?_
    refine r_imulK 72 hX dX8_overlap_71 (w := 6) (by decide) ?_
    refine r_gets 75 hX dX8_overlap_72 sX8_141 ?_
    refine r_iload_n 76 hX dX8_overlap_75 rfl ?_
    refine r_taldK 77 hX dX8_overlap_76 (j := 10) rfl (vpK rfl) (v := 2) (by decide) ?_
    refine r_iaddK 78 hX dX8_overlap_77 (w := 8) (by decide) ?_
    refine r_ialdK 79 hX dX8_overlap_78 rfl rfl (vpK rfl) (j := 8) (by decide) ?_
    refine r_aload_n 80 hX dX8_overlap_79 rfl ?_
    refine r_bipush 82 hX dX8_overlap_80 (v := 6) (by decide) ?_
    refine r_iload_n 83 hX dX8_overlap_82 rfl ?_
    refine r_imulK 84 hX dX8_overlap_83 (w := 6) (by decide) ?_
    refine r_gets 87 hX dX8_overlap_84 sX8_138 ?_
    refine r_iload_n 88 hX dX8_overlap_87 rfl ?_
    refine r_taldK 89 hX dX8_overlap_88 (j := 11) rfl (vpK rfl) (v := 5) (by decide) ?_
    refine r_iaddK 90 hX dX8_overlap_89 (w := 11) (by decide) ?_
    refine r_ialdK 91 hX dX8_overlap_90 rfl rfl (vpK rfl) (j := 11) (by decide) ?_
    refine r_Icmp_lt 94 96 hX dX8_overlap_91 (fun c3 => ?_) (fun c3 => ?_)
    · refine r_iincK 99 hX dX8_overlap_96 rfl (w := 2) (by decide) rfl ?_
      refine r_goto 23 hX dX8_overlap_99 ?_
      refine r_iload_n 24 hX dX8_overlap_23 rfl ?_
      refine r_bipush 26 hX dX8_overlap_24 (v := 7) (by decide) ?_
      refine r_icmp_ge 29 102 hX dX8_overlap_26 (fun c => absurd c (by decide)) (fun _ => ?_)
      refine r_gets 32 hX dX8_overlap_29 sX8_138 ?_
      refine r_iload_n 33 hX dX8_overlap_32 rfl ?_
      refine r_taldK 34 hX dX8_overlap_33 (j := 11) rfl (vpK rfl) (v := 4) (by decide) ?_
      refine r_if_ne 37 50 hX dX8_overlap_34 (fun _ => ?_) (fun c => absurd c (by decide))
      refine r_iload_n 51 hX dX8_overlap_50 rfl ?_
      refine r_iconst 52 hX dX8_overlap_51 (v := 3) (by decide) ?_
      refine r_icmp_ge 55 62 hX dX8_overlap_52 (fun c => absurd c (by decide)) (fun _ => ?_)
      refine r_aload_n 56 hX dX8_overlap_55 rfl ?_
      refine r_getR 59 hX dX8_overlap_56 fX8_35 rfl rfl rfl ?_
      refine r_goto 66 hX dX8_overlap_59 ?_
      refine r_astore_n 67 hX dX8_overlap_66 rfl ?_
      refine r_aload_n 68 hX dX8_overlap_67 rfl ?_
      refine r_bipush 70 hX dX8_overlap_68 (v := 6) (by decide) ?_
      refine r_iload_n 71 hX dX8_overlap_70 rfl ?_
      refine r_imulK 72 hX dX8_overlap_71 (w := 6) (by decide) ?_
      refine r_gets 75 hX dX8_overlap_72 sX8_141 ?_
      refine r_iload_n 76 hX dX8_overlap_75 rfl ?_
      refine r_taldK 77 hX dX8_overlap_76 (j := 10) rfl (vpK rfl) (v := 3) (by decide) ?_
      refine r_iaddK 78 hX dX8_overlap_77 (w := 9) (by decide) ?_
      refine r_ialdK 79 hX dX8_overlap_78 rfl rfl (vpK rfl) (j := 9) (by decide) ?_
      refine r_aload_n 80 hX dX8_overlap_79 rfl ?_
      refine r_bipush 82 hX dX8_overlap_80 (v := 6) (by decide) ?_
      refine r_iload_n 83 hX dX8_overlap_82 rfl ?_
      refine r_imulK 84 hX dX8_overlap_83 (w := 6) (by decide) ?_
      refine r_gets 87 hX dX8_overlap_84 sX8_138 ?_
      refine r_iload_n 88 hX dX8_overlap_87 rfl ?_
      refine r_taldK 89 hX dX8_overlap_88 (j := 11) rfl (vpK rfl) (v := 4) (by decide) ?_
      refine r_iaddK 90 hX dX8_overlap_89 (w := 10) (by decide) ?_
      refine r_ialdK 91 hX dX8_overlap_90 rfl rfl (vpK rfl) (j := 10) (by decide) ?_
      refine r_Icmp_lt 94 96 hX dX8_overlap_91 (fun c4 => ?_) (fun c4 => ?_)
      · refine r_iincK 99 hX dX8_overlap_96 rfl (w := 3) (by decide) rfl ?_
        refine (show mx_WW G X 99 [_, _, _, _] _ _ from ?_)
        refine r_goto 23 hX dX8_overlap_99 ?_
        refine r_iload_n 24 hX dX8_overlap_23 rfl ?_
        refine r_bipush 26 hX dX8_overlap_24 (v := 7) (by decide) ?_
        refine r_icmp_ge 29 102 hX dX8_overlap_26 (fun c => absurd c (by decide)) (fun _ => ?_)
        refine r_gets 32 hX dX8_overlap_29 sX8_138 ?_
        refine r_iload_n 33 hX dX8_overlap_32 rfl ?_
        refine r_taldK 34 hX dX8_overlap_33 (j := 11) rfl (vpK rfl) (v := 2) (by decide) ?_
        refine r_if_ne 37 50 hX dX8_overlap_34 (fun _ => ?_) (fun c => absurd c (by decide))
        refine r_iload_n 51 hX dX8_overlap_50 rfl ?_
        refine r_iconst 52 hX dX8_overlap_51 (v := 3) (by decide) ?_
        refine r_icmp_ge 55 62 hX dX8_overlap_52 (fun _ => ?_) (fun c => absurd c (by decide))
        refine r_aload_n 63 hX dX8_overlap_62 rfl ?_
        refine r_getR 66 hX dX8_overlap_63 fX8_32 rfl rfl rfl ?_
        refine r_astore_n 67 hX dX8_overlap_66 rfl ?_
        refine r_aload_n 68 hX dX8_overlap_67 rfl ?_
        refine r_bipush 70 hX dX8_overlap_68 (v := 6) (by decide) ?_
        refine r_iload_n 71 hX dX8_overlap_70 rfl ?_
        refine r_imulK 72 hX dX8_overlap_71 (w := 6) (by decide) ?_
        refine r_gets 75 hX dX8_overlap_72 sX8_141 ?_
        refine r_iload_n 76 hX dX8_overlap_75 rfl ?_
        refine r_taldK 77 hX dX8_overlap_76 (j := 10) rfl (vpK rfl) (v := 3) (by decide) ?_
        refine r_iaddK 78 hX dX8_overlap_77 (w := 9) (by decide) ?_
        refine r_ialdK 79 hX dX8_overlap_78 rfl rfl (vpK rfl) (j := 9) (by decide) ?_
        refine r_aload_n 80 hX dX8_overlap_79 rfl ?_
        refine r_bipush 82 hX dX8_overlap_80 (v := 6) (by decide) ?_
        refine r_iload_n 83 hX dX8_overlap_82 rfl ?_
        refine r_imulK 84 hX dX8_overlap_83 (w := 6) (by decide) ?_
        refine r_gets 87 hX dX8_overlap_84 sX8_138 ?_
        refine r_iload_n 88 hX dX8_overlap_87 rfl ?_
        refine r_taldK 89 hX dX8_overlap_88 (j := 11) rfl (vpK rfl) (v := 2) (by decide) ?_
        refine r_iaddK 90 hX dX8_overlap_89 (w := 8) (by decide) ?_
        refine r_ialdK 91 hX dX8_overlap_90 rfl rfl (vpK rfl) (j := 8) (by decide) ?_
        refine r_Icmp_lt 94 96 hX dX8_overlap_91 (fun c5 => ?_) (fun c5 => ?_)
        · refine r_iincK 99 hX dX8_overlap_96 rfl (w := 4) (by decide) rfl ?_
          refine r_goto 23 hX dX8_overlap_99 ?_
          refine r_iload_n 24 hX dX8_overlap_23 rfl ?_
          refine r_bipush 26 hX dX8_overlap_24 (v := 7) (by decide) ?_
          refine r_icmp_ge 29 102 hX dX8_overlap_26 (fun c => absurd c (by decide)) (fun _ => ?_)
          refine r_gets 32 hX dX8_overlap_29 sX8_138 ?_
          refine r_iload_n 33 hX dX8_overlap_32 rfl ?_
          refine r_taldK 34 hX dX8_overlap_33 (j := 11) rfl (vpK rfl) (v := 1) (by decide) ?_
          refine r_if_ne 37 50 hX dX8_overlap_34 (fun _ => ?_) (fun c => absurd c (by decide))
          refine r_iload_n 51 hX dX8_overlap_50 rfl ?_
          refine r_iconst 52 hX dX8_overlap_51 (v := 3) (by decide) ?_
          refine r_icmp_ge 55 62 hX dX8_overlap_52 (fun _ => ?_) (fun c => absurd c (by decide))
          refine r_aload_n 63 hX dX8_overlap_62 rfl ?_
          refine r_getR 66 hX dX8_overlap_63 fX8_32 rfl rfl rfl ?_
          refine r_astore_n 67 hX dX8_overlap_66 rfl ?_
          refine (show mx_WW G X 67 [_, _, _, _] _ _ from ?_)
          refine r_aload_n 68 hX dX8_overlap_67 rfl ?_
          refine r_bipush 70 hX dX8_overlap_68 (v := 6) (by decide) ?_
          refine r_iload_n 71 hX dX8_overlap_70 rfl ?_
          refine r_imulK 72 hX dX8_overlap_71 (w := 6) (by decide) ?_
          refine r_gets 75 hX dX8_overlap_72 sX8_141 ?_
          refine r_iload_n 76 hX dX8_overlap_75 rfl ?_
          refine r_taldK 77 hX dX8_overlap_76 (j := 10) rfl (vpK rfl) (v := 2) (by decide) ?_
          refine r_iaddK 78 hX dX8_overlap_77 (w := 8) (by decide) ?_
          refine r_ialdK 79 hX dX8_overlap_78 rfl rfl (vpK rfl) (j := 8) (by decide) ?_
          refine r_aload_n 80 hX dX8_overlap_79 rfl ?_
          refine r_bipush 82 hX dX8_overlap_80 (v := 6) (by decide) ?_
          refine r_iload_n 83 hX dX8_overlap_82 rfl ?_
          refine r_imulK 84 hX dX8_overlap_83 (w := 6) (by decide) ?_
          refine r_gets 87 hX dX8_overlap_84 sX8_138 ?_
          refine r_iload_n 88 hX dX8_overlap_87 rfl ?_
          refine r_taldK 89 hX dX8_overlap_88 (j := 11) rfl (vpK rfl) (v := 1) (by decide) ?_
          refine r_iaddK 90 hX dX8_overlap_89 (w := 7) (by decide) ?_
          refine r_ialdK 91 hX dX8_overlap_90 rfl rfl (vpK rfl) (j := 7) (by decide) ?_
          refine r_Icmp_lt 94 96 hX dX8_overlap_91 (fun c6 => ?_) (fun c6 => ?_)
          · refine r_iincK 99 hX dX8_overlap_96 rfl (w := 5) (by decide) rfl ?_
            refine r_goto 23 hX dX8_overlap_99 ?_
            refine r_iload_n 24 hX dX8_overlap_23 rfl ?_
            refine r_bipush 26 hX dX8_overlap_24 (v := 7) (by decide) ?_
            refine r_icmp_ge 29 102 hX dX8_overlap_26 (fun c => absurd c (by decide)) (fun _ => ?_)
            refine r_gets 32 hX dX8_overlap_29 sX8_138 ?_
            refine r_iload_n 33 hX dX8_overlap_32 rfl ?_
            refine r_taldK 34 hX dX8_overlap_33 (j := 11) rfl (vpK rfl) (v := 5) (by decide) ?_
            refine r_if_ne 37 50 hX dX8_overlap_34 (fun _ => ?_) (fun c => absurd c (by decide))
            refine r_iload_n 51 hX dX8_overlap_50 rfl ?_
            refine r_iconst 52 hX dX8_overlap_51 (v := 3) (by decide) ?_
            refine r_icmp_ge 55 62 hX dX8_overlap_52 (fun _ => ?_) (fun c => absurd c (by decide))
            refine r_aload_n 63 hX dX8_overlap_62 rfl ?_
            refine r_getR 66 hX dX8_overlap_63 fX8_32 rfl rfl rfl ?_
            refine r_astore_n 67 hX dX8_overlap_66 rfl ?_
            refine r_aload_n 68 hX dX8_overlap_67 rfl ?_
            refine r_bipush 70 hX dX8_overlap_68 (v := 6) (by decide) ?_
            refine r_iload_n 71 hX dX8_overlap_70 rfl ?_
            refine r_imulK 72 hX dX8_overlap_71 (w := 6) (by decide) ?_
            refine r_gets 75 hX dX8_overlap_72 sX8_141 ?_
            refine r_iload_n 76 hX dX8_overlap_75 rfl ?_
            refine r_taldK 77 hX dX8_overlap_76 (j := 10) rfl (vpK rfl) (v := 4) (by decide) ?_
            refine r_iaddK 78 hX dX8_overlap_77 (w := 10) (by decide) ?_
            refine r_ialdK 79 hX dX8_overlap_78 rfl rfl (vpK rfl) (j := 10) (by decide) ?_
            refine r_aload_n 80 hX dX8_overlap_79 rfl ?_
            refine r_bipush 82 hX dX8_overlap_80 (v := 6) (by decide) ?_
            refine r_iload_n 83 hX dX8_overlap_82 rfl ?_
            refine r_imulK 84 hX dX8_overlap_83 (w := 6) (by decide) ?_
            refine r_gets 87 hX dX8_overlap_84 sX8_138 ?_
            refine r_iload_n 88 hX dX8_overlap_87 rfl ?_
            refine r_taldK 89 hX dX8_overlap_88 (j := 11) rfl (vpK rfl) (v := 5) (by decide) ?_
            refine r_iaddK 90 hX dX8_overlap_89 (w := 11) (by decide) ?_
            refine r_ialdK 91 hX dX8_overlap_90 rfl rfl (vpK rfl) (j := 11) (by decide) ?_
            refine r_Icmp_lt 94 96 hX dX8_overlap_91 (fun c7 => ?_) (fun c7 => ?_)
            · refine r_iincK 99 hX dX8_overlap_96 rfl (w := 6) (by decide) rfl ?_
              refine (show mx_WW G X 99 [_, _, _, _] _ _ from ?_)
              refine r_goto 23 hX dX8_overlap_99 ?_
              refine r_iload_n 24 hX dX8_overlap_23 rfl ?_
              refine r_bipush 26 hX dX8_overlap_24 (v := 7) (by decide) ?_
              refine r_icmp_ge 29 102 hX dX8_overlap_26 (fun c => absurd c (by decide)) (fun _ => ?_)
              refine r_gets 32 hX dX8_overlap_29 sX8_138 ?_
              refine r_iload_n 33 hX dX8_overlap_32 rfl ?_
              refine r_taldK 34 hX dX8_overlap_33 (j := 11) rfl (vpK rfl) (v := 0) (by decide) ?_
              refine r_if_ne 37 50 hX dX8_overlap_34 (fun c => absurd c (by decide)) (fun _ => ?_)
              refine r_aload_n 38 hX dX8_overlap_37 rfl ?_
              refine r_getR 41 hX dX8_overlap_38 fX8_26 rfl rfl rfl ?_
              refine r_iconst 42 hX dX8_overlap_41 (v := 2) (by decide) ?_
              refine r_ialdK 43 hX dX8_overlap_42 rfl rfl (vpK rfl) (j := 2) (by decide) ?_
              refine r_iload_n 44 hX dX8_overlap_43 rfl ?_
              refine r_icmp_ne 47 50 hX dX8_overlap_44 (fun c8 => absurd hs c8) (fun c8 => ?_)
              refine r_goto 96 hX dX8_overlap_47 ?_
              refine r_iincK 99 hX dX8_overlap_96 rfl (w := 7) (by decide) rfl ?_
              refine r_goto 23 hX dX8_overlap_99 ?_
              refine r_iload_n 24 hX dX8_overlap_23 rfl ?_
              refine r_bipush 26 hX dX8_overlap_24 (v := 7) (by decide) ?_
              refine r_icmp_ge 29 102 hX dX8_overlap_26 (fun _ => ?_) (fun c => absurd c (by decide))
              refine r_bipush 104 hX dX8_overlap_102 (v := -2) (by decide) ?_
              refine r_iret hX hT dX8_overlap_104 ?_
              have d1 := c1
              simp only [mI_ne _ _ _ _ (show (52 : Nat) ≠ 46 by decide), mI_ne _ _ _ _ (show (54 : Nat) ≠ 46 by decide), mI_ne _ _ _ _ (show (55 : Nat) ≠ 46 by decide)] at *
              exact ⟨by simp [*, ovl, ovG], rfl⟩
            · refine r_iload_n 95 hX dX8_overlap_94 rfl ?_
              refine r_iret hX hT dX8_overlap_95 ?_
              have d1 := c1
              simp only [mI_ne _ _ _ _ (show (52 : Nat) ≠ 46 by decide), mI_ne _ _ _ _ (show (54 : Nat) ≠ 46 by decide), mI_ne _ _ _ _ (show (55 : Nat) ≠ 46 by decide)] at *
              exact ⟨by simp [*, ovl, ovG], rfl⟩
          · refine r_iload_n 95 hX dX8_overlap_94 rfl ?_
            refine r_iret hX hT dX8_overlap_95 ?_
            have d1 := c1
            simp only [mI_ne _ _ _ _ (show (52 : Nat) ≠ 46 by decide), mI_ne _ _ _ _ (show (54 : Nat) ≠ 46 by decide), mI_ne _ _ _ _ (show (55 : Nat) ≠ 46 by decide)] at *
            exact ⟨by simp [*, ovl, ovG], rfl⟩
        · refine r_iload_n 95 hX dX8_overlap_94 rfl ?_
          refine r_iret hX hT dX8_overlap_95 ?_
          have d1 := c1
          simp only [mI_ne _ _ _ _ (show (52 : Nat) ≠ 46 by decide), mI_ne _ _ _ _ (show (54 : Nat) ≠ 46 by decide), mI_ne _ _ _ _ (show (55 : Nat) ≠ 46 by decide)] at *
          exact ⟨by simp [*, ovl, ovG], rfl⟩
      · refine r_iload_n 95 hX dX8_overlap_94 rfl ?_
        refine r_iret hX hT dX8_overlap_95 ?_
        have d1 := c1
        simp only [mI_ne _ _ _ _ (show (52 : Nat) ≠ 46 by decide), mI_ne _ _ _ _ (show (54 : Nat) ≠ 46 by decide), mI_ne _ _ _ _ (show (55 : Nat) ≠ 46 by decide)] at *
        exact ⟨by simp [*, ovl, ovG], rfl⟩
    · refine r_iload_n 95 hX dX8_overlap_94 rfl ?_
      refine r_iret hX hT dX8_overlap_95 ?_
      have d1 := c1
      simp only [mI_ne _ _ _ _ (show (52 : Nat) ≠ 46 by decide), mI_ne _ _ _ _ (show (54 : Nat) ≠ 46 by decide), mI_ne _ _ _ _ (show (55 : Nat) ≠ 46 by decide)] at *
      exact ⟨by simp [*, ovl, ovG], rfl⟩
  · refine r_iconst 20 hX dX8_overlap_19 (v := -1) (by decide) ?_
    refine r_iret hX hT dX8_overlap_20 ?_
    have d1 := c1
    simp only [mI_ne _ _ _ _ (show (52 : Nat) ≠ 46 by decide), mI_ne _ _ _ _ (show (54 : Nat) ≠ 46 by decide), mI_ne _ _ _ _ (show (55 : Nat) ≠ 46 by decide)] at *
    exact ⟨by simp [*, ovl, ovG], rfl⟩
set_option maxRecDepth 100000 in
set_option maxHeartbeats 4000000 in
theorem tX8_overlap_1_r {l : Launch} {G : mx_G} {M : mx_Mem} (hs : ¬ M.1 52 2 = 1) : mx_Met l G yX8_overlap cX8_overlap 4 ((some FieldType.int)) 1 20 [.ref 46, .int 1] M (mx_F (some (.int (if M.1 52 1 = 1 then ovl false (fun k => M.1 54 (6 + k)) (fun k => M.1 55 (6 + k)) else -1))) (th0 M)) := by
  refine mx_enter (own := RX8) (L := [.ref 46, .int 1, .null, .null]) (by decide +kernel) rfl rfl rfl ?_
  intro X hlX hX hR hT
  refine r_aload_n 1 hX dX8_overlap_0 rfl ?_
  refine r_iconst 2 hX dX8_overlap_1 (v := 0) (by decide) ?_
  refine r_putI 5 hX dX8_overlap_2 fX8_63 fp8_13 rfl rfl rfl ?_
  refine r_iload_n 6 hX dX8_overlap_5 rfl ?_
  refine r_cS1F 9 hX hR tX8_isTeam_1 dX8_overlap_6 kX8_isTeam lX8_71 rfl rfl rfl ?_
  refine r_if_eq 12 19 hX dX8_overlap_9 (fun c => absurd c (by decide)) (fun _ => ?_)
  refine r_aload_n 13 hX dX8_overlap_12 rfl ?_
  refine r_cV0F 16 hX hR tX8_isOn dX8_overlap_13 kX8_isOn lX8_82 rfl rfl rfl rfl rfl rfl ?_
  refine r_Bne 19 21 hX dX8_overlap_16 (fun c1 => ?_) (fun c1 => ?_)
  · refine r_iconst 22 hX dX8_overlap_21 (v := 0) (by decide) ?_
    refine r_istore_n 23 hX dX8_overlap_22 rfl ?_
    refine r_iload_n 24 hX dX8_overlap_23 rfl ?_
    refine r_bipush 26 hX dX8_overlap_24 (v := 7) (by decide) ?_
    refine r_icmp_ge 29 102 hX dX8_overlap_26 (fun c => absurd c (by decide)) (fun _ => ?_)
    refine r_gets 32 hX dX8_overlap_29 sX8_138 ?_
    refine r_iload_n 33 hX dX8_overlap_32 rfl ?_
    refine r_taldK 34 hX dX8_overlap_33 (j := 11) rfl (vpK rfl) (v := 0) (by decide) ?_
    refine r_if_ne 37 50 hX dX8_overlap_34 (fun c => absurd c (by decide)) (fun _ => ?_)
    refine r_aload_n 38 hX dX8_overlap_37 rfl ?_
    refine r_getR 41 hX dX8_overlap_38 fX8_26 rfl rfl rfl ?_
    refine r_iconst 42 hX dX8_overlap_41 (v := 2) (by decide) ?_
    refine r_ialdK 43 hX dX8_overlap_42 rfl rfl (vpK rfl) (j := 2) (by decide) ?_
    refine r_iload_n 44 hX dX8_overlap_43 rfl ?_
    refine r_icmp_ne 47 50 hX dX8_overlap_44 (fun c2 => ?_) (fun c2 => absurd c2 hs)
    refine r_iload_n 51 hX dX8_overlap_50 rfl ?_
    refine r_iconst 52 hX dX8_overlap_51 (v := 3) (by decide) ?_
    refine r_icmp_ge 55 62 hX dX8_overlap_52 (fun c => absurd c (by decide)) (fun _ => ?_)
    refine r_aload_n 56 hX dX8_overlap_55 rfl ?_
    refine r_getR 59 hX dX8_overlap_56 fX8_35 rfl rfl rfl ?_
    refine r_goto 66 hX dX8_overlap_59 ?_
    refine r_astore_n 67 hX dX8_overlap_66 rfl ?_
    refine r_aload_n 68 hX dX8_overlap_67 rfl ?_
    refine r_bipush 70 hX dX8_overlap_68 (v := 6) (by decide) ?_
    refine r_iload_n 71 hX dX8_overlap_70 rfl ?_
    refine r_imulK 72 hX dX8_overlap_71 (w := 6) (by decide) ?_
    refine r_gets 75 hX dX8_overlap_72 sX8_141 ?_
    refine r_iload_n 76 hX dX8_overlap_75 rfl ?_
    refine r_taldK 77 hX dX8_overlap_76 (j := 10) rfl (vpK rfl) (v := 1) (by decide) ?_
    refine r_iaddK 78 hX dX8_overlap_77 (w := 7) (by decide) ?_
    refine r_ialdK 79 hX dX8_overlap_78 rfl rfl (vpK rfl) (j := 7) (by decide) ?_
    refine r_aload_n 80 hX dX8_overlap_79 rfl ?_
    refine r_bipush 82 hX dX8_overlap_80 (v := 6) (by decide) ?_
    refine r_iload_n 83 hX dX8_overlap_82 rfl ?_
    refine r_imulK 84 hX dX8_overlap_83 (w := 6) (by decide) ?_
    refine r_gets 87 hX dX8_overlap_84 sX8_138 ?_
    refine r_iload_n 88 hX dX8_overlap_87 rfl ?_
    refine r_taldK 89 hX dX8_overlap_88 (j := 11) rfl (vpK rfl) (v := 0) (by decide) ?_
    refine r_iaddK 90 hX dX8_overlap_89 (w := 6) (by decide) ?_
    refine r_ialdK 91 hX dX8_overlap_90 rfl rfl (vpK rfl) (j := 6) (by decide) ?_
    refine r_Icmp_lt 94 96 hX dX8_overlap_91 (fun c3 => ?_) (fun c3 => ?_)
    · refine r_iincK 99 hX dX8_overlap_96 rfl (w := 1) (by decide) rfl ?_
      refine (show mx_WW G X 99 [_, _, _, _] _ _ from ?_)
      refine r_goto 23 hX dX8_overlap_99 ?_
      refine r_iload_n 24 hX dX8_overlap_23 rfl ?_
      refine r_bipush 26 hX dX8_overlap_24 (v := 7) (by decide) ?_
      refine r_icmp_ge 29 102 hX dX8_overlap_26 (fun c => absurd c (by decide)) (fun _ => ?_)
      refine r_gets 32 hX dX8_overlap_29 sX8_138 ?_
      refine r_iload_n 33 hX dX8_overlap_32 rfl ?_
      refine r_taldK 34 hX dX8_overlap_33 (j := 11) rfl (vpK rfl) (v := 5) (by decide) ?_
      refine r_if_ne 37 50 hX dX8_overlap_34 (fun _ => ?_) (fun c => absurd c (by decide))
      refine r_iload_n 51 hX dX8_overlap_50 rfl ?_
      refine r_iconst 52 hX dX8_overlap_51 (v := 3) (by decide) ?_
      refine r_icmp_ge 55 62 hX dX8_overlap_52 (fun c => absurd c (by decide)) (fun _ => ?_)
      refine r_aload_n 56 hX dX8_overlap_55 rfl ?_
      refine r_getR 59 hX dX8_overlap_56 fX8_35 rfl rfl rfl ?_
      refine r_goto 66 hX dX8_overlap_59 ?_
      refine r_astore_n 67 hX dX8_overlap_66 rfl ?_
      refine r_aload_n 68 hX dX8_overlap_67 rfl ?_
      refine r_bipush 70 hX dX8_overlap_68 (v := 6) (by decide) ?_
      refine r_iload_n 71 hX dX8_overlap_70 rfl ?_
      refine r_imulK 72 hX dX8_overlap_71 (w := 6) (by decide) ?_
      refine r_gets 75 hX dX8_overlap_72 sX8_141 ?_
      refine r_iload_n 76 hX dX8_overlap_75 rfl ?_
      refine r_taldK 77 hX dX8_overlap_76 (j := 10) rfl (vpK rfl) (v := 2) (by decide) ?_
      refine r_iaddK 78 hX dX8_overlap_77 (w := 8) (by decide) ?_
      refine r_ialdK 79 hX dX8_overlap_78 rfl rfl (vpK rfl) (j := 8) (by decide) ?_
      refine r_aload_n 80 hX dX8_overlap_79 rfl ?_
      refine r_bipush 82 hX dX8_overlap_80 (v := 6) (by decide) ?_
      refine r_iload_n 83 hX dX8_overlap_82 rfl ?_
      refine r_imulK 84 hX dX8_overlap_83 (w := 6) (by decide) ?_
      refine r_gets 87 hX dX8_overlap_84 sX8_138 ?_
      refine r_iload_n 88 hX dX8_overlap_87 rfl ?_
      refine r_taldK 89 hX dX8_overlap_88 (j := 11) rfl (vpK rfl) (v := 5) (by decide) ?_
      refine r_iaddK 90 hX dX8_overlap_89 (w := 11) (by decide) ?_
      refine r_ialdK 91 hX dX8_overlap_90 rfl rfl (vpK rfl) (j := 11) (by decide) ?_
      refine r_Icmp_lt 94 96 hX dX8_overlap_91 (fun c4 => ?_) (fun c4 => ?_)
      · refine r_iincK 99 hX dX8_overlap_96 rfl (w := 2) (by decide) rfl ?_
        refine r_goto 23 hX dX8_overlap_99 ?_
        refine r_iload_n 24 hX dX8_overlap_23 rfl ?_
        refine r_bipush 26 hX dX8_overlap_24 (v := 7) (by decide) ?_
        refine r_icmp_ge 29 102 hX dX8_overlap_26 (fun c => absurd c (by decide)) (fun _ => ?_)
        refine r_gets 32 hX dX8_overlap_29 sX8_138 ?_
        refine r_iload_n 33 hX dX8_overlap_32 rfl ?_
        refine r_taldK 34 hX dX8_overlap_33 (j := 11) rfl (vpK rfl) (v := 4) (by decide) ?_
        refine r_if_ne 37 50 hX dX8_overlap_34 (fun _ => ?_) (fun c => absurd c (by decide))
        refine r_iload_n 51 hX dX8_overlap_50 rfl ?_
        refine r_iconst 52 hX dX8_overlap_51 (v := 3) (by decide) ?_
        refine r_icmp_ge 55 62 hX dX8_overlap_52 (fun c => absurd c (by decide)) (fun _ => ?_)
        refine r_aload_n 56 hX dX8_overlap_55 rfl ?_
        refine r_getR 59 hX dX8_overlap_56 fX8_35 rfl rfl rfl ?_
        refine r_goto 66 hX dX8_overlap_59 ?_
        refine r_astore_n 67 hX dX8_overlap_66 rfl ?_
        refine (show mx_WW G X 67 [_, _, _, _] _ _ from ?_)
        refine r_aload_n 68 hX dX8_overlap_67 rfl ?_
        refine r_bipush 70 hX dX8_overlap_68 (v := 6) (by decide) ?_
        refine r_iload_n 71 hX dX8_overlap_70 rfl ?_
        refine r_imulK 72 hX dX8_overlap_71 (w := 6) (by decide) ?_
        refine r_gets 75 hX dX8_overlap_72 sX8_141 ?_
        refine r_iload_n 76 hX dX8_overlap_75 rfl ?_
        refine r_taldK 77 hX dX8_overlap_76 (j := 10) rfl (vpK rfl) (v := 3) (by decide) ?_
        refine r_iaddK 78 hX dX8_overlap_77 (w := 9) (by decide) ?_
        refine r_ialdK 79 hX dX8_overlap_78 rfl rfl (vpK rfl) (j := 9) (by decide) ?_
        refine r_aload_n 80 hX dX8_overlap_79 rfl ?_
        refine r_bipush 82 hX dX8_overlap_80 (v := 6) (by decide) ?_
        refine r_iload_n 83 hX dX8_overlap_82 rfl ?_
        refine r_imulK 84 hX dX8_overlap_83 (w := 6) (by decide) ?_
        refine r_gets 87 hX dX8_overlap_84 sX8_138 ?_
        refine r_iload_n 88 hX dX8_overlap_87 rfl ?_
        refine r_taldK 89 hX dX8_overlap_88 (j := 11) rfl (vpK rfl) (v := 4) (by decide) ?_
        refine r_iaddK 90 hX dX8_overlap_89 (w := 10) (by decide) ?_
        refine r_ialdK 91 hX dX8_overlap_90 rfl rfl (vpK rfl) (j := 10) (by decide) ?_
        refine r_Icmp_lt 94 96 hX dX8_overlap_91 (fun c5 => ?_) (fun c5 => ?_)
        · refine r_iincK 99 hX dX8_overlap_96 rfl (w := 3) (by decide) rfl ?_
          refine r_goto 23 hX dX8_overlap_99 ?_
          refine r_iload_n 24 hX dX8_overlap_23 rfl ?_
          refine r_bipush 26 hX dX8_overlap_24 (v := 7) (by decide) ?_
          refine r_icmp_ge 29 102 hX dX8_overlap_26 (fun c => absurd c (by decide)) (fun _ => ?_)
          refine r_gets 32 hX dX8_overlap_29 sX8_138 ?_
          refine r_iload_n 33 hX dX8_overlap_32 rfl ?_
          refine r_taldK 34 hX dX8_overlap_33 (j := 11) rfl (vpK rfl) (v := 2) (by decide) ?_
          refine r_if_ne 37 50 hX dX8_overlap_34 (fun _ => ?_) (fun c => absurd c (by decide))
          refine r_iload_n 51 hX dX8_overlap_50 rfl ?_
          refine r_iconst 52 hX dX8_overlap_51 (v := 3) (by decide) ?_
          refine r_icmp_ge 55 62 hX dX8_overlap_52 (fun _ => ?_) (fun c => absurd c (by decide))
          refine r_aload_n 63 hX dX8_overlap_62 rfl ?_
          refine r_getR 66 hX dX8_overlap_63 fX8_32 rfl rfl rfl ?_
          refine r_astore_n 67 hX dX8_overlap_66 rfl ?_
          refine r_aload_n 68 hX dX8_overlap_67 rfl ?_
          refine r_bipush 70 hX dX8_overlap_68 (v := 6) (by decide) ?_
          refine r_iload_n 71 hX dX8_overlap_70 rfl ?_
          refine r_imulK 72 hX dX8_overlap_71 (w := 6) (by decide) ?_
          refine r_gets 75 hX dX8_overlap_72 sX8_141 ?_
          refine r_iload_n 76 hX dX8_overlap_75 rfl ?_
          refine r_taldK 77 hX dX8_overlap_76 (j := 10) rfl (vpK rfl) (v := 3) (by decide) ?_
          refine r_iaddK 78 hX dX8_overlap_77 (w := 9) (by decide) ?_
          refine r_ialdK 79 hX dX8_overlap_78 rfl rfl (vpK rfl) (j := 9) (by decide) ?_
          refine r_aload_n 80 hX dX8_overlap_79 rfl ?_
          refine r_bipush 82 hX dX8_overlap_80 (v := 6) (by decide) ?_
          refine r_iload_n 83 hX dX8_overlap_82 rfl ?_
          refine r_imulK 84 hX dX8_overlap_83 (w := 6) (by decide) ?_
          refine r_gets 87 hX dX8_overlap_84 sX8_138 ?_
          refine r_iload_n 88 hX dX8_overlap_87 rfl ?_
          refine r_taldK 89 hX dX8_overlap_88 (j := 11) rfl (vpK rfl) (v := 2) (by decide) ?_
          refine r_iaddK 90 hX dX8_overlap_89 (w := 8) (by decide) ?_
          refine r_ialdK 91 hX dX8_overlap_90 rfl rfl (vpK rfl) (j := 8) (by decide) ?_
          refine r_Icmp_lt 94 96 hX dX8_overlap_91 (fun c6 => ?_) (fun c6 => ?_)
          · refine r_iincK 99 hX dX8_overlap_96 rfl (w := 4) (by decide) rfl ?_
            refine (show mx_WW G X 99 [_, _, _, _] _ _ from ?_)
            refine r_goto 23 hX dX8_overlap_99 ?_
            refine r_iload_n 24 hX dX8_overlap_23 rfl ?_
            refine r_bipush 26 hX dX8_overlap_24 (v := 7) (by decide) ?_
            refine r_icmp_ge 29 102 hX dX8_overlap_26 (fun c => absurd c (by decide)) (fun _ => ?_)
            refine r_gets 32 hX dX8_overlap_29 sX8_138 ?_
            refine r_iload_n 33 hX dX8_overlap_32 rfl ?_
            refine r_taldK 34 hX dX8_overlap_33 (j := 11) rfl (vpK rfl) (v := 1) (by decide) ?_
            refine r_if_ne 37 50 hX dX8_overlap_34 (fun _ => ?_) (fun c => absurd c (by decide))
            refine r_iload_n 51 hX dX8_overlap_50 rfl ?_
            refine r_iconst 52 hX dX8_overlap_51 (v := 3) (by decide) ?_
            refine r_icmp_ge 55 62 hX dX8_overlap_52 (fun _ => ?_) (fun c => absurd c (by decide))
            refine r_aload_n 63 hX dX8_overlap_62 rfl ?_
            refine r_getR 66 hX dX8_overlap_63 fX8_32 rfl rfl rfl ?_
            refine r_astore_n 67 hX dX8_overlap_66 rfl ?_
            refine r_aload_n 68 hX dX8_overlap_67 rfl ?_
            refine r_bipush 70 hX dX8_overlap_68 (v := 6) (by decide) ?_
            refine r_iload_n 71 hX dX8_overlap_70 rfl ?_
            refine r_imulK 72 hX dX8_overlap_71 (w := 6) (by decide) ?_
            refine r_gets 75 hX dX8_overlap_72 sX8_141 ?_
            refine r_iload_n 76 hX dX8_overlap_75 rfl ?_
            refine r_taldK 77 hX dX8_overlap_76 (j := 10) rfl (vpK rfl) (v := 2) (by decide) ?_
            refine r_iaddK 78 hX dX8_overlap_77 (w := 8) (by decide) ?_
            refine r_ialdK 79 hX dX8_overlap_78 rfl rfl (vpK rfl) (j := 8) (by decide) ?_
            refine r_aload_n 80 hX dX8_overlap_79 rfl ?_
            refine r_bipush 82 hX dX8_overlap_80 (v := 6) (by decide) ?_
            refine r_iload_n 83 hX dX8_overlap_82 rfl ?_
            refine r_imulK 84 hX dX8_overlap_83 (w := 6) (by decide) ?_
            refine r_gets 87 hX dX8_overlap_84 sX8_138 ?_
            refine r_iload_n 88 hX dX8_overlap_87 rfl ?_
            refine r_taldK 89 hX dX8_overlap_88 (j := 11) rfl (vpK rfl) (v := 1) (by decide) ?_
            refine r_iaddK 90 hX dX8_overlap_89 (w := 7) (by decide) ?_
            refine r_ialdK 91 hX dX8_overlap_90 rfl rfl (vpK rfl) (j := 7) (by decide) ?_
            refine r_Icmp_lt 94 96 hX dX8_overlap_91 (fun c7 => ?_) (fun c7 => ?_)
            · refine r_iincK 99 hX dX8_overlap_96 rfl (w := 5) (by decide) rfl ?_
              refine r_goto 23 hX dX8_overlap_99 ?_
              refine r_iload_n 24 hX dX8_overlap_23 rfl ?_
              refine r_bipush 26 hX dX8_overlap_24 (v := 7) (by decide) ?_
              refine r_icmp_ge 29 102 hX dX8_overlap_26 (fun c => absurd c (by decide)) (fun _ => ?_)
              refine r_gets 32 hX dX8_overlap_29 sX8_138 ?_
              refine r_iload_n 33 hX dX8_overlap_32 rfl ?_
              refine r_taldK 34 hX dX8_overlap_33 (j := 11) rfl (vpK rfl) (v := 5) (by decide) ?_
              refine r_if_ne 37 50 hX dX8_overlap_34 (fun _ => ?_) (fun c => absurd c (by decide))
              refine r_iload_n 51 hX dX8_overlap_50 rfl ?_
              refine r_iconst 52 hX dX8_overlap_51 (v := 3) (by decide) ?_
              refine r_icmp_ge 55 62 hX dX8_overlap_52 (fun _ => ?_) (fun c => absurd c (by decide))
              refine r_aload_n 63 hX dX8_overlap_62 rfl ?_
              refine r_getR 66 hX dX8_overlap_63 fX8_32 rfl rfl rfl ?_
              refine r_astore_n 67 hX dX8_overlap_66 rfl ?_
              refine (show mx_WW G X 67 [_, _, _, _] _ _ from ?_)
              refine r_aload_n 68 hX dX8_overlap_67 rfl ?_
              refine r_bipush 70 hX dX8_overlap_68 (v := 6) (by decide) ?_
              refine r_iload_n 71 hX dX8_overlap_70 rfl ?_
              refine r_imulK 72 hX dX8_overlap_71 (w := 6) (by decide) ?_
              refine r_gets 75 hX dX8_overlap_72 sX8_141 ?_
              refine r_iload_n 76 hX dX8_overlap_75 rfl ?_
              refine r_taldK 77 hX dX8_overlap_76 (j := 10) rfl (vpK rfl) (v := 4) (by decide) ?_
              refine r_iaddK 78 hX dX8_overlap_77 (w := 10) (by decide) ?_
              refine r_ialdK 79 hX dX8_overlap_78 rfl rfl (vpK rfl) (j := 10) (by decide) ?_
              refine r_aload_n 80 hX dX8_overlap_79 rfl ?_
              refine r_bipush 82 hX dX8_overlap_80 (v := 6) (by decide) ?_
              refine r_iload_n 83 hX dX8_overlap_82 rfl ?_
              refine r_imulK 84 hX dX8_overlap_83 (w := 6) (by decide) ?_
              refine r_gets 87 hX dX8_overlap_84 sX8_138 ?_
              refine r_iload_n 88 hX dX8_overlap_87 rfl ?_
              refine r_taldK 89 hX dX8_overlap_88 (j := 11) rfl (vpK rfl) (v := 5) (by decide) ?_
              refine r_iaddK 90 hX dX8_overlap_89 (w := 11) (by decide) ?_
              refine r_ialdK 91 hX dX8_overlap_90 rfl rfl (vpK rfl) (j := 11) (by decide) ?_
              refine r_Icmp_lt 94 96 hX dX8_overlap_91 (fun c8 => ?_) (fun c8 => ?_)
              · refine r_iincK 99 hX dX8_overlap_96 rfl (w := 6) (by decide) rfl ?_
                refine r_goto 23 hX dX8_overlap_99 ?_
                refine r_iload_n 24 hX dX8_overlap_23 rfl ?_
                refine r_bipush 26 hX dX8_overlap_24 (v := 7) (by decide) ?_
                refine r_icmp_ge 29 102 hX dX8_overlap_26 (fun c => absurd c (by decide)) (fun _ => ?_)
                refine r_gets 32 hX dX8_overlap_29 sX8_138 ?_
                refine r_iload_n 33 hX dX8_overlap_32 rfl ?_
                refine r_taldK 34 hX dX8_overlap_33 (j := 11) rfl (vpK rfl) (v := 0) (by decide) ?_
                refine r_if_ne 37 50 hX dX8_overlap_34 (fun c => absurd c (by decide)) (fun _ => ?_)
                refine r_aload_n 38 hX dX8_overlap_37 rfl ?_
                refine r_getR 41 hX dX8_overlap_38 fX8_26 rfl rfl rfl ?_
                refine r_iconst 42 hX dX8_overlap_41 (v := 2) (by decide) ?_
                refine r_ialdK 43 hX dX8_overlap_42 rfl rfl (vpK rfl) (j := 2) (by decide) ?_
                refine r_iload_n 44 hX dX8_overlap_43 rfl ?_
                refine r_icmp_ne 47 50 hX dX8_overlap_44 (fun c9 => ?_) (fun c9 => absurd c9 hs)
                refine r_iload_n 51 hX dX8_overlap_50 rfl ?_
                refine r_iconst 52 hX dX8_overlap_51 (v := 3) (by decide) ?_
                refine r_icmp_ge 55 62 hX dX8_overlap_52 (fun _ => ?_) (fun c => absurd c (by decide))
                refine r_aload_n 63 hX dX8_overlap_62 rfl ?_
                refine r_getR 66 hX dX8_overlap_63 fX8_32 rfl rfl rfl ?_
                refine r_astore_n 67 hX dX8_overlap_66 rfl ?_
                refine r_aload_n 68 hX dX8_overlap_67 rfl ?_
                refine r_bipush 70 hX dX8_overlap_68 (v := 6) (by decide) ?_
                refine r_iload_n 71 hX dX8_overlap_70 rfl ?_
                refine r_imulK 72 hX dX8_overlap_71 (w := 6) (by decide) ?_
                refine r_gets 75 hX dX8_overlap_72 sX8_141 ?_
                refine r_iload_n 76 hX dX8_overlap_75 rfl ?_
                refine r_taldK 77 hX dX8_overlap_76 (j := 10) rfl (vpK rfl) (v := 5) (by decide) ?_
                refine r_iaddK 78 hX dX8_overlap_77 (w := 11) (by decide) ?_
                refine r_ialdK 79 hX dX8_overlap_78 rfl rfl (vpK rfl) (j := 11) (by decide) ?_
                refine r_aload_n 80 hX dX8_overlap_79 rfl ?_
                refine r_bipush 82 hX dX8_overlap_80 (v := 6) (by decide) ?_
                refine r_iload_n 83 hX dX8_overlap_82 rfl ?_
                refine r_imulK 84 hX dX8_overlap_83 (w := 6) (by decide) ?_
                refine r_gets 87 hX dX8_overlap_84 sX8_138 ?_
                refine r_iload_n 88 hX dX8_overlap_87 rfl ?_
                refine r_taldK 89 hX dX8_overlap_88 (j := 11) rfl (vpK rfl) (v := 0) (by decide) ?_
                refine r_iaddK 90 hX dX8_overlap_89 (w := 6) (by decide) ?_
                refine r_ialdK 91 hX dX8_overlap_90 rfl rfl (vpK rfl) (j := 6) (by decide) ?_
                refine r_Icmp_lt 94 96 hX dX8_overlap_91 (fun c10 => ?_) (fun c10 => ?_)
                · refine r_iincK 99 hX dX8_overlap_96 rfl (w := 7) (by decide) rfl ?_
                  refine (show mx_WW G X 99 [_, _, _, _] _ _ from ?_)
                  refine r_goto 23 hX dX8_overlap_99 ?_
                  refine r_iload_n 24 hX dX8_overlap_23 rfl ?_
                  refine r_bipush 26 hX dX8_overlap_24 (v := 7) (by decide) ?_
                  refine r_icmp_ge 29 102 hX dX8_overlap_26 (fun _ => ?_) (fun c => absurd c (by decide))
                  refine r_bipush 104 hX dX8_overlap_102 (v := -2) (by decide) ?_
                  refine r_iret hX hT dX8_overlap_104 ?_
                  have d1 := c1
                  simp only [mI_ne _ _ _ _ (show (52 : Nat) ≠ 46 by decide), mI_ne _ _ _ _ (show (54 : Nat) ≠ 46 by decide), mI_ne _ _ _ _ (show (55 : Nat) ≠ 46 by decide)] at *
                  exact ⟨by simp [*, ovl, ovG], rfl⟩
                · refine r_iload_n 95 hX dX8_overlap_94 rfl ?_
                  refine r_iret hX hT dX8_overlap_95 ?_
                  have d1 := c1
                  simp only [mI_ne _ _ _ _ (show (52 : Nat) ≠ 46 by decide), mI_ne _ _ _ _ (show (54 : Nat) ≠ 46 by decide), mI_ne _ _ _ _ (show (55 : Nat) ≠ 46 by decide)] at *
                  exact ⟨by simp [*, ovl, ovG], rfl⟩
              · refine r_iload_n 95 hX dX8_overlap_94 rfl ?_
                refine r_iret hX hT dX8_overlap_95 ?_
                have d1 := c1
                simp only [mI_ne _ _ _ _ (show (52 : Nat) ≠ 46 by decide), mI_ne _ _ _ _ (show (54 : Nat) ≠ 46 by decide), mI_ne _ _ _ _ (show (55 : Nat) ≠ 46 by decide)] at *
                exact ⟨by simp [*, ovl, ovG], rfl⟩
            · refine r_iload_n 95 hX dX8_overlap_94 rfl ?_
              refine r_iret hX hT dX8_overlap_95 ?_
              have d1 := c1
              simp only [mI_ne _ _ _ _ (show (52 : Nat) ≠ 46 by decide), mI_ne _ _ _ _ (show (54 : Nat) ≠ 46 by decide), mI_ne _ _ _ _ (show (55 : Nat) ≠ 46 by decide)] at *
              exact ⟨by simp [*, ovl, ovG], rfl⟩
          · refine r_iload_n 95 hX dX8_overlap_94 rfl ?_
            refine r_iret hX hT dX8_overlap_95 ?_
            have d1 := c1
            simp only [mI_ne _ _ _ _ (show (52 : Nat) ≠ 46 by decide), mI_ne _ _ _ _ (show (54 : Nat) ≠ 46 by decide), mI_ne _ _ _ _ (show (55 : Nat) ≠ 46 by decide)] at *
            exact ⟨by simp [*, ovl, ovG], rfl⟩
        · refine r_iload_n 95 hX dX8_overlap_94 rfl ?_
          refine r_iret hX hT dX8_overlap_95 ?_
          have d1 := c1
          simp only [mI_ne _ _ _ _ (show (52 : Nat) ≠ 46 by decide), mI_ne _ _ _ _ (show (54 : Nat) ≠ 46 by decide), mI_ne _ _ _ _ (show (55 : Nat) ≠ 46 by decide)] at *
          exact ⟨by simp [*, ovl, ovG], rfl⟩
      · refine r_iload_n 95 hX dX8_overlap_94 rfl ?_
        refine r_iret hX hT dX8_overlap_95 ?_
        have d1 := c1
        simp only [mI_ne _ _ _ _ (show (52 : Nat) ≠ 46 by decide), mI_ne _ _ _ _ (show (54 : Nat) ≠ 46 by decide), mI_ne _ _ _ _ (show (55 : Nat) ≠ 46 by decide)] at *
        exact ⟨by simp [*, ovl, ovG], rfl⟩
    · refine r_iload_n 95 hX dX8_overlap_94 rfl ?_
      refine r_iret hX hT dX8_overlap_95 ?_
      have d1 := c1
      simp only [mI_ne _ _ _ _ (show (52 : Nat) ≠ 46 by decide), mI_ne _ _ _ _ (show (54 : Nat) ≠ 46 by decide), mI_ne _ _ _ _ (show (55 : Nat) ≠ 46 by decide)] at *
      exact ⟨by simp [*, ovl, ovG], rfl⟩
  · refine r_iconst 20 hX dX8_overlap_19 (v := -1) (by decide) ?_
    refine r_iret hX hT dX8_overlap_20 ?_
    have d1 := c1
    simp only [mI_ne _ _ _ _ (show (52 : Nat) ≠ 46 by decide), mI_ne _ _ _ _ (show (54 : Nat) ≠ 46 by decide), mI_ne _ _ _ _ (show (55 : Nat) ≠ 46 by decide)] at *
    exact ⟨by simp [*, ovl, ovG], rfl⟩

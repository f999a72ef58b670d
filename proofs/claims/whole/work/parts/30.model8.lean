/-! the model: FREE as functions; sheets -/
theorem mx_mono {l : Launch} {G : mx_G} {y : MethodName} {cc : ByteArray} {maxL fr lo : Nat} {ret : Option FieldType} {av : List Value} {M : mx_Mem} {P Q : Option Value → mx_Mem → Prop} (h : mx_Met l G y cc maxL ret fr lo av M P) (hPQ : ∀ r M', P r M' → Q r M') : mx_Met l G y cc maxL ret fr lo av M Q := by
  unfold mx_Met Met at h ⊢
  refine MetFree.mono h (fun _ _ h => h) (fun _ _ _ _ _ h => h) ?_
  intro a st o t _ h9
  obtain ⟨⟨r, M', h1, h2, h3⟩, h4⟩ := h9
  exact ⟨⟨r, M', h1, hPQ r M' h2, h3⟩, h4⟩
abbrev mfK_0 (M : mx_Mem) : Prop := M.1 52 1 = 1 ∧ ¬ M.1 48 0 = -1 ∧ ¬ M.1 52 13 = 1
abbrev mfJ_0 (M : mx_Mem) (p : Int32) : Prop := isP p ∧ M.1 52 10 = -1 ∧ (plc (mpl_0 M) p = 4 ∨ plc (mpl_0 M) p = 5)
def mfR_0 (M : mx_Mem) (p : Int32) : Int32 := if mfK_0 M then (if p = -1 then (if M.1 52 10 = -1 then -1 else plc (mpl_0 M) (M.1 48 0)) else if mfJ_0 M p then plc (mpl_0 M) p else -1) else -1
def mfM_0 (M : mx_Mem) (p : Int32) : mx_Mem := if mfK_0 M then (if p = -1 then (if M.1 52 10 = -1 then M else mfF_0 M) else if mfJ_0 M p then mfN_0 M p else M) else M
theorem tX8_doFreeF_0 {l : Launch} {G : mx_G} {p : Int32} {M : mx_Mem} (hf : ¬ M.1 52 10 = -1 → ¬ plc (mpl_0 M) (M.1 48 0) = -1) : mx_Met l G yX8_doFree cX8_doFree 4 (some FieldType.int) 2 45 [.ref 46, .int 0, .int p] M (mx_F (some (.int (mfR_0 M p))) (mfM_0 M p)) := by
  refine mx_mono (tX8_doFree_0 hf) ?_
  intro r M' h
  unfold mfR_0 mfM_0
  rcases h with ⟨h1, rfl, rfl⟩ | ⟨h1, ⟨h2, h3, rfl, rfl⟩ | ⟨h2, h3, rfl, rfl⟩ | ⟨h2, h3, rfl, rfl⟩ | ⟨h2, h3, rfl, rfl⟩⟩
  · rw [if_neg (show ¬ mfK_0 _ from h1), if_neg (show ¬ mfK_0 _ from h1)]; exact ⟨rfl, rfl⟩
  · rw [if_pos (show mfK_0 _ from h1), if_pos (show mfK_0 _ from h1), if_pos h2, if_pos h2, if_pos h3, if_pos h3]; exact ⟨rfl, rfl⟩
  · rw [if_pos (show mfK_0 _ from h1), if_pos (show mfK_0 _ from h1), if_pos h2, if_pos h2, if_neg h3, if_neg h3]; exact ⟨rfl, rfl⟩
  · rw [if_pos (show mfK_0 _ from h1), if_pos (show mfK_0 _ from h1), if_neg h2, if_neg h2, if_pos h3, if_pos h3]; exact ⟨rfl, rfl⟩
  · rw [if_pos (show mfK_0 _ from h1), if_pos (show mfK_0 _ from h1), if_neg h2, if_neg h2, if_neg h3, if_neg h3]; exact ⟨rfl, rfl⟩
set_option maxRecDepth 100000 in
set_option maxHeartbeats 4000000 in
theorem tX8_freeF_0 {l : Launch} {G : mx_G} {p : Int32} {M : mx_Mem} (hf : ¬ M.1 52 10 = -1 → ¬ plc (mpl_0 M) (M.1 48 0) = -1) : mx_Met l G yX8_free cX8_free 3 ((some FieldType.int)) 3 68 [.ref 46, .int 0, .int p] M (mx_F (some (.int (mfR_0 (th0 M) p))) (mfM_0 (th0 M) p)) := by
  refine mx_enter (own := RX8) (L := [.ref 46, .int 0, .int p]) (by decide +kernel) rfl rfl rfl ?_
  intro X hlX hX hR hT
  refine r_aload_n 1 hX dX8_free_0 rfl ?_
  refine r_iconst 2 hX dX8_free_1 (v := 0) (by decide) ?_
  refine r_putI 5 hX dX8_free_2 fX8_63 fp8_13 rfl rfl rfl ?_
  refine r_iload_n 6 hX dX8_free_5 rfl ?_
  refine r_cS1F 9 hX hR tX8_isTeam_0 dX8_free_6 kX8_isTeam lX8_71 rfl rfl rfl ?_
  refine r_if_eq 12 21 hX dX8_free_9 (fun c => absurd c (by decide)) (fun _ => ?_)
  refine r_aload_n 13 hX dX8_free_12 rfl ?_
  refine r_iload_n 14 hX dX8_free_13 rfl ?_
  refine r_iload_n 15 hX dX8_free_14 rfl ?_
  refine r_cV2F 18 hX hR (tX8_doFreeF_0 hf) dX8_free_15 kX8_doFree lX8_126 rfl rfl rfl rfl rfl rfl ?_
  refine r_goto 22 hX dX8_free_18 ?_
  refine r_iret hX hT dX8_free_22 ?_
  exact ⟨rfl, rfl⟩
def mdpR_0 (M : mx_Mem) : Int32 := if ¬ M.1 52 1 = 1 ∨ M.1 49 5 ≤ M.1 52 9 then -1 else M.1 52 9 + 1
def mdpM_0 (M : mx_Mem) : mx_Mem := if ¬ M.1 52 1 = 1 ∨ M.1 49 5 ≤ M.1 52 9 then M else mI M 52 9 (M.1 52 9 + 1)
/-- an item of a team: done (1) or refused (0), and the memory -/
def mitR_0 (M : mx_Mem) (b q : Int32) : Int32 := if ¬ M.1 52 1 = 1 then 0 else if b = 33 then (if mdpR_0 M = -1 then 0 else 1) else if b = 45 then (if mfR_0 M (-1) = -1 then 0 else 1) else if b = 42 then (if mfR_0 M q = -1 then 0 else 1) else if mmC_0 M (plo b) q = 0 then 1 else 0
def mitM_0 (M : mx_Mem) (b q : Int32) : mx_Mem := if ¬ M.1 52 1 = 1 then M else if b = 33 then mdpM_0 M else if b = 45 then mfM_0 M (-1) else if b = 42 then mfM_0 M q else if mmC_0 M (plo b) q = 0 then mdc_0 M (plo b) q else M
set_option maxRecDepth 100000 in
set_option maxHeartbeats 4000000 in
theorem tX8_doItem_r0 {l : Launch} {G : mx_G} {a : Nat} {M : mx_Mem} (ha : a < 100) (hA : M.1 56 a = 65) (hp : isP (M.1 52 14)) : mx_Met l G yX8_doItem cX8_doItem 6 ((some FieldType.boolean)) 4 85 [.ref 46, .int (nI a)] M (mx_F (some (.int (if M.1 52 1 = 1 then 1 else 0))) (if M.1 52 1 = 1 then ptM_0 (ptB_0 M) (tgM M) else M)) := by
  refine mx_enter (own := RX8) (L := [.ref 46, .int (nI a), .null, .null, .null, .null]) (by decide +kernel) rfl rfl rfl ?_
  intro X hlX hX hR hT
  refine r_aload_n 1 hX dX8_doItem_0 rfl ?_
  refine r_getR 4 hX dX8_doItem_1 fX8_38 rfl rfl rfl ?_
  refine r_iload_n 5 hX dX8_doItem_4 rfl ?_
  refine r_baldK 6 hX dX8_doItem_5 rfl rfl (vp_in_nI ha (by decide)) (j := a) (nI_clamp (by omega)) ?_
  rw [hA]
  refine r_istore_n 7 hX dX8_doItem_6 rfl ?_
  refine r_aload_n 8 hX dX8_doItem_7 rfl ?_
  refine r_cV0F 11 hX hR tX8_isOn dX8_doItem_8 kX8_isOn lX8_82 rfl rfl rfl rfl rfl rfl ?_
  refine r_Bne 14 16 hX dX8_doItem_11 (fun c1 => ?_) (fun c1 => ?_)
  · refine r_iload_n 17 hX dX8_doItem_16 rfl ?_
    refine r_bipush 19 hX dX8_doItem_17 (v := 65) (by decide) ?_
    refine r_icmp_eq 22 28 hX dX8_doItem_19 (fun _ => ?_) (fun c => absurd c (by decide))
    refine r_aload_n 29 hX dX8_doItem_28 rfl ?_
    refine r_iload_n 30 hX dX8_doItem_29 rfl ?_
    refine r_bipush 32 hX dX8_doItem_30 (v := 65) (by decide) ?_
    refine r_isubK 33 hX dX8_doItem_32 (w := 0) (by decide) ?_
    refine r_cV1F 36 hX hR (tX8_point_0 hp) dX8_doItem_33 kX8_point lX8_113 rfl rfl rfl rfl rfl rfl ?_
    refine r_pop 37 hX dX8_doItem_36 rfl ?_
    refine r_iconst 38 hX dX8_doItem_37 (v := 1) (by decide) ?_
    refine r_zret hX hT dX8_doItem_38 (by first | assumption | decide) ?_
    first | (rw [if_pos c1, if_pos c1]; exact ⟨rfl, rfl⟩) | (rw [if_neg c1, if_neg c1]; exact ⟨rfl, rfl⟩)
  · refine r_iconst 15 hX dX8_doItem_14 (v := 0) (by decide) ?_
    refine r_zret hX hT dX8_doItem_15 (by first | assumption | decide) ?_
    first | (rw [if_pos c1, if_pos c1]; exact ⟨rfl, rfl⟩) | (rw [if_neg c1, if_neg c1]; exact ⟨rfl, rfl⟩)
set_option maxRecDepth 100000 in
set_option maxHeartbeats 4000000 in
theorem tX8_doItem_t0 {l : Launch} {G : mx_G} {a : Nat} {M : mx_Mem} (ha : a + 2 < 100) (hA : M.1 56 a = 97) (hf : ¬ M.1 52 10 = -1 → ¬ plc (mpl_0 M) (M.1 48 0) = -1) : mx_Met l G yX8_doItem cX8_doItem 6 ((some FieldType.boolean)) 4 85 [.ref 46, .int (nI a)] M (mx_F (some (.int (mitR_0 M (M.1 56 (a + 1)) (plo (M.1 56 (a + 2)))))) (mitM_0 M (M.1 56 (a + 1)) (plo (M.1 56 (a + 2))))) := by
  refine mx_enter (own := RX8) (L := [.ref 46, .int (nI a), .null, .null, .null, .null]) (by decide +kernel) rfl rfl rfl ?_
  intro X hlX hX hR hT
  have k1 : nI a + 1 = nI (a + 1) := nI_1 a
  have k2 : nI a + 2 = nI (a + 2) := nI_add a 2
  refine r_aload_n 1 hX dX8_doItem_0 rfl ?_
  refine r_getR 4 hX dX8_doItem_1 fX8_38 rfl rfl rfl ?_
  refine r_iload_n 5 hX dX8_doItem_4 rfl ?_
  refine r_baldK 6 hX dX8_doItem_5 rfl rfl (vp_in_nI (show a < 100 by omega) (by decide)) (j := a) (nI_clamp (by omega)) ?_
  rw [hA]
  refine r_istore_n 7 hX dX8_doItem_6 rfl ?_
  refine r_aload_n 8 hX dX8_doItem_7 rfl ?_
  refine r_cV0F 11 hX hR tX8_isOn dX8_doItem_8 kX8_isOn lX8_82 rfl rfl rfl rfl rfl rfl ?_
  refine r_Bne 14 16 hX dX8_doItem_11 (fun c1 => ?_) (fun c1 => ?_)
  · refine r_iload_n 17 hX dX8_doItem_16 rfl ?_
    refine r_bipush 19 hX dX8_doItem_17 (v := 65) (by decide) ?_
    refine r_icmp_eq 22 28 hX dX8_doItem_19 (fun c => absurd c (by decide)) (fun _ => ?_)
    refine r_iload_n 23 hX dX8_doItem_22 rfl ?_
    refine r_bipush 25 hX dX8_doItem_23 (v := 66) (by decide) ?_
    refine r_icmp_ne 28 39 hX dX8_doItem_25 (fun _ => ?_) (fun c => absurd c (by decide))
    refine r_iload_n 40 hX dX8_doItem_39 rfl ?_
    refine r_bipush 42 hX dX8_doItem_40 (v := 97) (by decide) ?_
    refine r_isubK 43 hX dX8_doItem_42 (w := 0) (by decide) ?_
    refine r_istore_n 44 hX dX8_doItem_43 rfl ?_
    refine r_aload_n 45 hX dX8_doItem_44 rfl ?_
    refine r_getR 48 hX dX8_doItem_45 fX8_38 rfl rfl rfl ?_
    refine r_iload_n 49 hX dX8_doItem_48 rfl ?_
    refine r_iconst 50 hX dX8_doItem_49 (v := 1) (by decide) ?_
    refine r_iadd 51 hX dX8_doItem_50 ?_
    rw [k1]
    refine r_baldK 52 hX dX8_doItem_51 rfl rfl (vp_in_nI (show a + 1 < 100 by omega) (by decide)) (j := a + 1) (nI_clamp (by omega)) ?_
    refine r_istore 54 hX dX8_doItem_52 rfl ?_
    refine (show mx_WW G X 54 [_, _, _, _, _, _] _ _ from ?_)
    refine r_iload 56 hX dX8_doItem_54 rfl ?_
    refine r_bipush 58 hX dX8_doItem_56 (v := 33) (by decide) ?_
    refine r_icmp_ne 61 76 hX dX8_doItem_58 (fun c2 => ?_) (fun c2 => ?_)
    · refine r_iload 78 hX dX8_doItem_76 rfl ?_
      refine r_bipush 80 hX dX8_doItem_78 (v := 45) (by decide) ?_
      refine r_icmp_ne 83 99 hX dX8_doItem_80 (fun c3 => ?_) (fun c3 => ?_)
      · refine r_aload_n 100 hX dX8_doItem_99 rfl ?_
        refine r_getR 103 hX dX8_doItem_100 fX8_38 rfl rfl rfl ?_
        refine r_iload_n 104 hX dX8_doItem_103 rfl ?_
        refine r_iconst 105 hX dX8_doItem_104 (v := 2) (by decide) ?_
        refine r_iadd 106 hX dX8_doItem_105 ?_
        rw [k2]
        refine r_baldK 107 hX dX8_doItem_106 rfl rfl (vp_in_nI ha (by decide)) (j := a + 2) (nI_clamp (by omega)) ?_
        refine r_cS1F 110 hX hR tX8_playerOf dX8_doItem_107 kX8_playerOf lX8_144 rfl rfl rfl ?_
        refine r_istore 112 hX dX8_doItem_110 rfl ?_
        refine r_iload 114 hX dX8_doItem_112 rfl ?_
        refine r_bipush 116 hX dX8_doItem_114 (v := 42) (by decide) ?_
        refine r_icmp_ne 119 136 hX dX8_doItem_116 (fun c4 => ?_) (fun c4 => ?_)
        · refine r_aload_n 137 hX dX8_doItem_136 rfl ?_
          refine r_iload_n 138 hX dX8_doItem_137 rfl ?_
          refine r_iload 140 hX dX8_doItem_138 rfl ?_
          refine r_cS1F 143 hX hR tX8_playerOf dX8_doItem_140 kX8_playerOf lX8_144 rfl rfl rfl ?_
          refine r_iload 145 hX dX8_doItem_143 rfl ?_
          refine r_cV3F 148 hX hR tX8_mayNot_0 dX8_doItem_145 kX8_mayNot lX8_120 rfl rfl rfl rfl rfl rfl ?_
          refine r_if_eq 151 153 hX dX8_doItem_148 (fun c5 => ?_) (fun c5 => ?_)
          · refine r_aload_n 154 hX dX8_doItem_153 rfl ?_
            refine r_iload_n 155 hX dX8_doItem_154 rfl ?_
            refine r_iload 157 hX dX8_doItem_155 rfl ?_
            refine r_cS1F 160 hX hR tX8_playerOf dX8_doItem_157 kX8_playerOf lX8_144 rfl rfl rfl ?_
            refine r_iload 162 hX dX8_doItem_160 rfl ?_
            refine r_cV3F 165 hX hR (tX8_doChange_0 (mmC_0_0 (by assumption)).1 (mmC_0_0 (by assumption)).2.1 (mmC_0_0 (by assumption)).2.2) dX8_doItem_162 kX8_doChange lX8_123 rfl rfl rfl rfl rfl rfl ?_
            refine r_pop 166 hX dX8_doItem_165 rfl ?_
            refine r_iconst 167 hX dX8_doItem_166 (v := 1) (by decide) ?_
            refine r_zret hX hT dX8_doItem_167 (by first | assumption | decide) ?_
            clear hT hX hR hlX k1 k2 hf hA
            refine ⟨?_, ?_⟩
            · unfold mitR_0 mdpR_0
              first | (simp only [*, if_true, if_false, not_true, not_false_iff]; done) | (simp [*]; done) | grind
            · unfold mitM_0 mdpM_0
              first | (simp only [*, if_true, if_false, not_true, not_false_iff]; done) | (simp [*]; done) | grind
          · refine r_iconst 152 hX dX8_doItem_151 (v := 0) (by decide) ?_
            refine r_zret hX hT dX8_doItem_152 (by first | assumption | decide) ?_
            clear hT hX hR hlX k1 k2 hf hA
            refine ⟨?_, ?_⟩
            · unfold mitR_0 mdpR_0
              first | (simp only [*, if_true, if_false, not_true, not_false_iff]; done) | (simp [*]; done) | grind
            · unfold mitM_0 mdpM_0
              first | (simp only [*, if_true, if_false, not_true, not_false_iff]; done) | (simp [*]; done) | grind
        · refine r_aload_n 120 hX dX8_doItem_119 rfl ?_
          refine r_iload_n 121 hX dX8_doItem_120 rfl ?_
          refine r_iload 123 hX dX8_doItem_121 rfl ?_
          refine r_cV2F 126 hX hR (tX8_doFreeF_0 hf) dX8_doItem_123 kX8_doFree lX8_126 rfl rfl rfl rfl rfl rfl ?_
          refine r_iconst 127 hX dX8_doItem_126 (v := -1) (by decide) ?_
          refine r_icmp_eq 130 134 hX dX8_doItem_127 (fun c5 => ?_) (fun c5 => ?_)
          · refine r_iconst 135 hX dX8_doItem_134 (v := 0) (by decide) ?_
            refine r_zret hX hT dX8_doItem_135 (by first | assumption | decide) ?_
            clear hT hX hR hlX k1 k2 hf hA
            refine ⟨?_, ?_⟩
            · unfold mitR_0 mdpR_0
              first | (simp only [*, if_true, if_false, not_true, not_false_iff]; done) | (simp [*]; done) | grind
            · unfold mitM_0 mdpM_0
              first | (simp only [*, if_true, if_false, not_true, not_false_iff]; done) | (simp [*]; done) | grind
          · refine r_iconst 131 hX dX8_doItem_130 (v := 1) (by decide) ?_
            refine r_goto 135 hX dX8_doItem_131 ?_
            refine r_zret hX hT dX8_doItem_135 (by first | assumption | decide) ?_
            clear hT hX hR hlX k1 k2 hf hA
            refine ⟨?_, ?_⟩
            · unfold mitR_0 mdpR_0
              first | (simp only [*, if_true, if_false, not_true, not_false_iff]; done) | (simp [*]; done) | grind
            · unfold mitM_0 mdpM_0
              first | (simp only [*, if_true, if_false, not_true, not_false_iff]; done) | (simp [*]; done) | grind
      · refine r_aload_n 84 hX dX8_doItem_83 rfl ?_
        refine r_iload_n 85 hX dX8_doItem_84 rfl ?_
        refine r_iconst 86 hX dX8_doItem_85 (v := -1) (by decide) ?_
        refine r_cV2F 89 hX hR (tX8_doFreeF_0 hf) dX8_doItem_86 kX8_doFree lX8_126 rfl rfl rfl rfl rfl rfl ?_
        refine r_iconst 90 hX dX8_doItem_89 (v := -1) (by decide) ?_
        refine r_icmp_eq 93 97 hX dX8_doItem_90 (fun c4 => ?_) (fun c4 => ?_)
        · refine r_iconst 98 hX dX8_doItem_97 (v := 0) (by decide) ?_
          refine r_zret hX hT dX8_doItem_98 (by first | assumption | decide) ?_
          clear hT hX hR hlX k1 k2 hf hA
          refine ⟨?_, ?_⟩
          · unfold mitR_0 mdpR_0
            first | (simp only [*, if_true, if_false, not_true, not_false_iff]; done) | (simp [*]; done) | grind
          · unfold mitM_0 mdpM_0
            first | (simp only [*, if_true, if_false, not_true, not_false_iff]; done) | (simp [*]; done) | grind
        · refine r_iconst 94 hX dX8_doItem_93 (v := 1) (by decide) ?_
          refine r_goto 98 hX dX8_doItem_94 ?_
          refine r_zret hX hT dX8_doItem_98 (by first | assumption | decide) ?_
          clear hT hX hR hlX k1 k2 hf hA
          refine ⟨?_, ?_⟩
          · unfold mitR_0 mdpR_0
            first | (simp only [*, if_true, if_false, not_true, not_false_iff]; done) | (simp [*]; done) | grind
          · unfold mitM_0 mdpM_0
            first | (simp only [*, if_true, if_false, not_true, not_false_iff]; done) | (simp [*]; done) | grind
    · refine r_aload_n 62 hX dX8_doItem_61 rfl ?_
      refine r_iload_n 63 hX dX8_doItem_62 rfl ?_
      refine r_cV1F 66 hX hR tX8_doPause_0 dX8_doItem_63 kX8_doPause lX8_129 rfl rfl rfl rfl rfl rfl ?_
      refine r_iconst 67 hX dX8_doItem_66 (v := -1) (by decide) ?_
      refine r_icmp_eq 70 74 hX dX8_doItem_67 (fun c3 => ?_) (fun c3 => ?_)
      · refine r_iconst 75 hX dX8_doItem_74 (v := 0) (by decide) ?_
        refine r_zret hX hT dX8_doItem_75 (by first | assumption | decide) ?_
        clear hT hX hR hlX k1 k2 hf hA
        refine ⟨?_, ?_⟩
        · unfold mitR_0 mdpR_0
          first | (simp only [*, if_true, if_false, not_true, not_false_iff]; done) | (simp [*]; done) | grind
        · unfold mitM_0 mdpM_0
          first | (simp only [*, if_true, if_false, not_true, not_false_iff]; done) | (simp [*]; done) | grind
      · refine r_iconst 71 hX dX8_doItem_70 (v := 1) (by decide) ?_
        refine r_goto 75 hX dX8_doItem_71 ?_
        refine r_zret hX hT dX8_doItem_75 (by first | assumption | decide) ?_
        clear hT hX hR hlX k1 k2 hf hA
        refine ⟨?_, ?_⟩
        · unfold mitR_0 mdpR_0
          first | (simp only [*, if_true, if_false, not_true, not_false_iff]; done) | (simp [*]; done) | grind
        · unfold mitM_0 mdpM_0
          first | (simp only [*, if_true, if_false, not_true, not_false_iff]; done) | (simp [*]; done) | grind
  · refine r_iconst 15 hX dX8_doItem_14 (v := 0) (by decide) ?_
    refine r_zret hX hT dX8_doItem_15 (by first | assumption | decide) ?_
    clear hT hX hR hlX k1 k2 hf hA
    refine ⟨?_, ?_⟩
    · unfold mitR_0 mdpR_0
      first | (simp only [*, if_true, if_false, not_true, not_false_iff]; done) | (simp [*]; done) | grind
    · unfold mitM_0 mdpM_0
      first | (simp only [*, if_true, if_false, not_true, not_false_iff]; done) | (simp [*]; done) | grind
abbrev mfK_1 (M : mx_Mem) : Prop := M.1 52 1 = 1 ∧ ¬ M.1 48 1 = -1 ∧ ¬ M.1 52 63 = 1
abbrev mfJ_1 (M : mx_Mem) (p : Int32) : Prop := isP p ∧ M.1 52 60 = -1 ∧ (plc (mpl_1 M) p = 4 ∨ plc (mpl_1 M) p = 5)
def mfR_1 (M : mx_Mem) (p : Int32) : Int32 := if mfK_1 M then (if p = -1 then (if M.1 52 60 = -1 then -1 else plc (mpl_1 M) (M.1 48 1)) else if mfJ_1 M p then plc (mpl_1 M) p else -1) else -1
def mfM_1 (M : mx_Mem) (p : Int32) : mx_Mem := if mfK_1 M then (if p = -1 then (if M.1 52 60 = -1 then M else mfF_1 M) else if mfJ_1 M p then mfN_1 M p else M) else M
theorem tX8_doFreeF_1 {l : Launch} {G : mx_G} {p : Int32} {M : mx_Mem} (hf : ¬ M.1 52 60 = -1 → ¬ plc (mpl_1 M) (M.1 48 1) = -1) : mx_Met l G yX8_doFree cX8_doFree 4 (some FieldType.int) 2 45 [.ref 46, .int 1, .int p] M (mx_F (some (.int (mfR_1 M p))) (mfM_1 M p)) := by
  refine mx_mono (tX8_doFree_1 hf) ?_
  intro r M' h
  unfold mfR_1 mfM_1
  rcases h with ⟨h1, rfl, rfl⟩ | ⟨h1, ⟨h2, h3, rfl, rfl⟩ | ⟨h2, h3, rfl, rfl⟩ | ⟨h2, h3, rfl, rfl⟩ | ⟨h2, h3, rfl, rfl⟩⟩
  · rw [if_neg (show ¬ mfK_1 _ from h1), if_neg (show ¬ mfK_1 _ from h1)]; exact ⟨rfl, rfl⟩
  · rw [if_pos (show mfK_1 _ from h1), if_pos (show mfK_1 _ from h1), if_pos h2, if_pos h2, if_pos h3, if_pos h3]; exact ⟨rfl, rfl⟩
  · rw [if_pos (show mfK_1 _ from h1), if_pos (show mfK_1 _ from h1), if_pos h2, if_pos h2, if_neg h3, if_neg h3]; exact ⟨rfl, rfl⟩
  · rw [if_pos (show mfK_1 _ from h1), if_pos (show mfK_1 _ from h1), if_neg h2, if_neg h2, if_pos h3, if_pos h3]; exact ⟨rfl, rfl⟩
  · rw [if_pos (show mfK_1 _ from h1), if_pos (show mfK_1 _ from h1), if_neg h2, if_neg h2, if_neg h3, if_neg h3]; exact ⟨rfl, rfl⟩
set_option maxRecDepth 100000 in
set_option maxHeartbeats 4000000 in
theorem tX8_freeF_1 {l : Launch} {G : mx_G} {p : Int32} {M : mx_Mem} (hf : ¬ M.1 52 60 = -1 → ¬ plc (mpl_1 M) (M.1 48 1) = -1) : mx_Met l G yX8_free cX8_free 3 ((some FieldType.int)) 3 68 [.ref 46, .int 1, .int p] M (mx_F (some (.int (mfR_1 (th0 M) p))) (mfM_1 (th0 M) p)) := by
  refine mx_enter (own := RX8) (L := [.ref 46, .int 1, .int p]) (by decide +kernel) rfl rfl rfl ?_
  intro X hlX hX hR hT
  refine r_aload_n 1 hX dX8_free_0 rfl ?_
  refine r_iconst 2 hX dX8_free_1 (v := 0) (by decide) ?_
  refine r_putI 5 hX dX8_free_2 fX8_63 fp8_13 rfl rfl rfl ?_
  refine r_iload_n 6 hX dX8_free_5 rfl ?_
  refine r_cS1F 9 hX hR tX8_isTeam_1 dX8_free_6 kX8_isTeam lX8_71 rfl rfl rfl ?_
  refine r_if_eq 12 21 hX dX8_free_9 (fun c => absurd c (by decide)) (fun _ => ?_)
  refine r_aload_n 13 hX dX8_free_12 rfl ?_
  refine r_iload_n 14 hX dX8_free_13 rfl ?_
  refine r_iload_n 15 hX dX8_free_14 rfl ?_
  refine r_cV2F 18 hX hR (tX8_doFreeF_1 hf) dX8_free_15 kX8_doFree lX8_126 rfl rfl rfl rfl rfl rfl ?_
  refine r_goto 22 hX dX8_free_18 ?_
  refine r_iret hX hT dX8_free_22 ?_
  exact ⟨rfl, rfl⟩
def mdpR_1 (M : mx_Mem) : Int32 := if ¬ M.1 52 1 = 1 ∨ M.1 49 5 ≤ M.1 52 59 then -1 else M.1 52 59 + 1
def mdpM_1 (M : mx_Mem) : mx_Mem := if ¬ M.1 52 1 = 1 ∨ M.1 49 5 ≤ M.1 52 59 then M else mI M 52 59 (M.1 52 59 + 1)
/-- an item of a team: done (1) or refused (0), and the memory -/
def mitR_1 (M : mx_Mem) (b q : Int32) : Int32 := if ¬ M.1 52 1 = 1 then 0 else if b = 33 then (if mdpR_1 M = -1 then 0 else 1) else if b = 45 then (if mfR_1 M (-1) = -1 then 0 else 1) else if b = 42 then (if mfR_1 M q = -1 then 0 else 1) else if mmC_1 M (plo b) q = 0 then 1 else 0
def mitM_1 (M : mx_Mem) (b q : Int32) : mx_Mem := if ¬ M.1 52 1 = 1 then M else if b = 33 then mdpM_1 M else if b = 45 then mfM_1 M (-1) else if b = 42 then mfM_1 M q else if mmC_1 M (plo b) q = 0 then mdc_1 M (plo b) q else M
set_option maxRecDepth 100000 in
set_option maxHeartbeats 4000000 in
theorem tX8_doItem_r1 {l : Launch} {G : mx_G} {a : Nat} {M : mx_Mem} (ha : a < 100) (hA : M.1 56 a = 66) (hp : isP (M.1 52 64)) : mx_Met l G yX8_doItem cX8_doItem 6 ((some FieldType.boolean)) 4 85 [.ref 46, .int (nI a)] M (mx_F (some (.int (if M.1 52 1 = 1 then 1 else 0))) (if M.1 52 1 = 1 then ptM_1 (ptB_1 M) (tgM M) else M)) := by
  refine mx_enter (own := RX8) (L := [.ref 46, .int (nI a), .null, .null, .null, .null]) (by decide +kernel) rfl rfl rfl ?_
  intro X hlX hX hR hT
  refine r_aload_n 1 hX dX8_doItem_0 rfl ?_
  refine r_getR 4 hX dX8_doItem_1 fX8_38 rfl rfl rfl ?_
  refine r_iload_n 5 hX dX8_doItem_4 rfl ?_
  refine r_baldK 6 hX dX8_doItem_5 rfl rfl (vp_in_nI ha (by decide)) (j := a) (nI_clamp (by omega)) ?_
  rw [hA]
  refine r_istore_n 7 hX dX8_doItem_6 rfl ?_
  refine r_aload_n 8 hX dX8_doItem_7 rfl ?_
  refine r_cV0F 11 hX hR tX8_isOn dX8_doItem_8 kX8_isOn lX8_82 rfl rfl rfl rfl rfl rfl ?_
  refine r_Bne 14 16 hX dX8_doItem_11 (fun c1 => ?_) (fun c1 => ?_)
  · refine r_iload_n 17 hX dX8_doItem_16 rfl ?_
    refine r_bipush 19 hX dX8_doItem_17 (v := 65) (by decide) ?_
    refine r_icmp_eq 22 28 hX dX8_doItem_19 (fun c => absurd c (by decide)) (fun _ => ?_)
    refine r_iload_n 23 hX dX8_doItem_22 rfl ?_
    refine r_bipush 25 hX dX8_doItem_23 (v := 66) (by decide) ?_
    refine r_icmp_ne 28 39 hX dX8_doItem_25 (fun c => absurd c (by decide)) (fun _ => ?_)
    refine r_aload_n 29 hX dX8_doItem_28 rfl ?_
    refine r_iload_n 30 hX dX8_doItem_29 rfl ?_
    refine r_bipush 32 hX dX8_doItem_30 (v := 65) (by decide) ?_
    refine r_isubK 33 hX dX8_doItem_32 (w := 1) (by decide) ?_
    refine r_cV1F 36 hX hR (tX8_point_1 hp) dX8_doItem_33 kX8_point lX8_113 rfl rfl rfl rfl rfl rfl ?_
    refine r_pop 37 hX dX8_doItem_36 rfl ?_
    refine r_iconst 38 hX dX8_doItem_37 (v := 1) (by decide) ?_
    refine r_zret hX hT dX8_doItem_38 (by first | assumption | decide) ?_
    first | (rw [if_pos c1, if_pos c1]; exact ⟨rfl, rfl⟩) | (rw [if_neg c1, if_neg c1]; exact ⟨rfl, rfl⟩)
  · refine r_iconst 15 hX dX8_doItem_14 (v := 0) (by decide) ?_
    refine r_zret hX hT dX8_doItem_15 (by first | assumption | decide) ?_
    first | (rw [if_pos c1, if_pos c1]; exact ⟨rfl, rfl⟩) | (rw [if_neg c1, if_neg c1]; exact ⟨rfl, rfl⟩)
set_option maxRecDepth 100000 in
set_option maxHeartbeats 4000000 in
theorem tX8_doItem_t1 {l : Launch} {G : mx_G} {a : Nat} {M : mx_Mem} (ha : a + 2 < 100) (hA : M.1 56 a = 98) (hf : ¬ M.1 52 60 = -1 → ¬ plc (mpl_1 M) (M.1 48 1) = -1) : mx_Met l G yX8_doItem cX8_doItem 6 ((some FieldType.boolean)) 4 85 [.ref 46, .int (nI a)] M (mx_F (some (.int (mitR_1 M (M.1 56 (a + 1)) (plo (M.1 56 (a + 2)))))) (mitM_1 M (M.1 56 (a + 1)) (plo (M.1 56 (a + 2))))) := by
  refine mx_enter (own := RX8) (L := [.ref 46, .int (nI a), .null, .null, .null, .null]) (by decide +kernel) rfl rfl rfl ?_
  intro X hlX hX hR hT
  have k1 : nI a + 1 = nI (a + 1) := nI_1 a
  have k2 : nI a + 2 = nI (a + 2) := nI_add a 2
  refine r_aload_n 1 hX dX8_doItem_0 rfl ?_
  refine r_getR 4 hX dX8_doItem_1 fX8_38 rfl rfl rfl ?_
  refine r_iload_n 5 hX dX8_doItem_4 rfl ?_
  refine r_baldK 6 hX dX8_doItem_5 rfl rfl (vp_in_nI (show a < 100 by omega) (by decide)) (j := a) (nI_clamp (by omega)) ?_
  rw [hA]
  refine r_istore_n 7 hX dX8_doItem_6 rfl ?_
  refine r_aload_n 8 hX dX8_doItem_7 rfl ?_
  refine r_cV0F 11 hX hR tX8_isOn dX8_doItem_8 kX8_isOn lX8_82 rfl rfl rfl rfl rfl rfl ?_
  refine r_Bne 14 16 hX dX8_doItem_11 (fun c1 => ?_) (fun c1 => ?_)
  · refine r_iload_n 17 hX dX8_doItem_16 rfl ?_
    refine r_bipush 19 hX dX8_doItem_17 (v := 65) (by decide) ?_
    refine r_icmp_eq 22 28 hX dX8_doItem_19 (fun c => absurd c (by decide)) (fun _ => ?_)
    refine r_iload_n 23 hX dX8_doItem_22 rfl ?_
    refine r_bipush 25 hX dX8_doItem_23 (v := 66) (by decide) ?_
    refine r_icmp_ne 28 39 hX dX8_doItem_25 (fun _ => ?_) (fun c => absurd c (by decide))
    refine r_iload_n 40 hX dX8_doItem_39 rfl ?_
    refine r_bipush 42 hX dX8_doItem_40 (v := 97) (by decide) ?_
    refine r_isubK 43 hX dX8_doItem_42 (w := 1) (by decide) ?_
    refine r_istore_n 44 hX dX8_doItem_43 rfl ?_
    refine r_aload_n 45 hX dX8_doItem_44 rfl ?_
    refine r_getR 48 hX dX8_doItem_45 fX8_38 rfl rfl rfl ?_
    refine r_iload_n 49 hX dX8_doItem_48 rfl ?_
    refine r_iconst 50 hX dX8_doItem_49 (v := 1) (by decide) ?_
    refine r_iadd 51 hX dX8_doItem_50 ?_
    rw [k1]
    refine r_baldK 52 hX dX8_doItem_51 rfl rfl (vp_in_nI (show a + 1 < 100 by omega) (by decide)) (j := a + 1) (nI_clamp (by omega)) ?_
    refine r_istore 54 hX dX8_doItem_52 rfl ?_
    refine (show mx_WW G X 54 [_, _, _, _, _, _] _ _ from ?_)
    refine r_iload 56 hX dX8_doItem_54 rfl ?_
    refine r_bipush 58 hX dX8_doItem_56 (v := 33) (by decide) ?_
    refine r_icmp_ne 61 76 hX dX8_doItem_58 (fun c2 => ?_) (fun c2 => ?_)
    · refine r_iload 78 hX dX8_doItem_76 rfl ?_
      refine r_bipush 80 hX dX8_doItem_78 (v := 45) (by decide) ?_
      refine r_icmp_ne 83 99 hX dX8_doItem_80 (fun c3 => ?_) (fun c3 => ?_)
      · refine r_aload_n 100 hX dX8_doItem_99 rfl ?_
        refine r_getR 103 hX dX8_doItem_100 fX8_38 rfl rfl rfl ?_
        refine r_iload_n 104 hX dX8_doItem_103 rfl ?_
        refine r_iconst 105 hX dX8_doItem_104 (v := 2) (by decide) ?_
        refine r_iadd 106 hX dX8_doItem_105 ?_
        rw [k2]
        refine r_baldK 107 hX dX8_doItem_106 rfl rfl (vp_in_nI ha (by decide)) (j := a + 2) (nI_clamp (by omega)) ?_
        refine r_cS1F 110 hX hR tX8_playerOf dX8_doItem_107 kX8_playerOf lX8_144 rfl rfl rfl ?_
        refine r_istore 112 hX dX8_doItem_110 rfl ?_
        refine r_iload 114 hX dX8_doItem_112 rfl ?_
        refine r_bipush 116 hX dX8_doItem_114 (v := 42) (by decide) ?_
        refine r_icmp_ne 119 136 hX dX8_doItem_116 (fun c4 => ?_) (fun c4 => ?_)
        · refine r_aload_n 137 hX dX8_doItem_136 rfl ?_
          refine r_iload_n 138 hX dX8_doItem_137 rfl ?_
          refine r_iload 140 hX dX8_doItem_138 rfl ?_
          refine r_cS1F 143 hX hR tX8_playerOf dX8_doItem_140 kX8_playerOf lX8_144 rfl rfl rfl ?_
          refine r_iload 145 hX dX8_doItem_143 rfl ?_
          refine r_cV3F 148 hX hR tX8_mayNot_1 dX8_doItem_145 kX8_mayNot lX8_120 rfl rfl rfl rfl rfl rfl ?_
          refine r_if_eq 151 153 hX dX8_doItem_148 (fun c5 => ?_) (fun c5 => ?_)
          · refine r_aload_n 154 hX dX8_doItem_153 rfl ?_
            refine r_iload_n 155 hX dX8_doItem_154 rfl ?_
            refine r_iload 157 hX dX8_doItem_155 rfl ?_
            refine r_cS1F 160 hX hR tX8_playerOf dX8_doItem_157 kX8_playerOf lX8_144 rfl rfl rfl ?_
            refine r_iload 162 hX dX8_doItem_160 rfl ?_
            refine r_cV3F 165 hX hR (tX8_doChange_1 (mmC_0_1 (by assumption)).1 (mmC_0_1 (by assumption)).2.1 (mmC_0_1 (by assumption)).2.2) dX8_doItem_162 kX8_doChange lX8_123 rfl rfl rfl rfl rfl rfl ?_
            refine r_pop 166 hX dX8_doItem_165 rfl ?_
            refine r_iconst 167 hX dX8_doItem_166 (v := 1) (by decide) ?_
            refine r_zret hX hT dX8_doItem_167 (by first | assumption | decide) ?_
            clear hT hX hR hlX k1 k2 hf hA
            refine ⟨?_, ?_⟩
            · unfold mitR_1 mdpR_1
              first | (simp only [*, if_true, if_false, not_true, not_false_iff]; done) | (simp [*]; done) | grind
            · unfold mitM_1 mdpM_1
              first | (simp only [*, if_true, if_false, not_true, not_false_iff]; done) | (simp [*]; done) | grind
          · refine r_iconst 152 hX dX8_doItem_151 (v := 0) (by decide) ?_
            refine r_zret hX hT dX8_doItem_152 (by first | assumption | decide) ?_
            clear hT hX hR hlX k1 k2 hf hA
            refine ⟨?_, ?_⟩
            · unfold mitR_1 mdpR_1
              first | (simp only [*, if_true, if_false, not_true, not_false_iff]; done) | (simp [*]; done) | grind
            · unfold mitM_1 mdpM_1
              first | (simp only [*, if_true, if_false, not_true, not_false_iff]; done) | (simp [*]; done) | grind
        · refine r_aload_n 120 hX dX8_doItem_119 rfl ?_
          refine r_iload_n 121 hX dX8_doItem_120 rfl ?_
          refine r_iload 123 hX dX8_doItem_121 rfl ?_
          refine r_cV2F 126 hX hR (tX8_doFreeF_1 hf) dX8_doItem_123 kX8_doFree lX8_126 rfl rfl rfl rfl rfl rfl ?_
          refine r_iconst 127 hX dX8_doItem_126 (v := -1) (by decide) ?_
          refine r_icmp_eq 130 134 hX dX8_doItem_127 (fun c5 => ?_) (fun c5 => ?_)
          · refine r_iconst 135 hX dX8_doItem_134 (v := 0) (by decide) ?_
            refine r_zret hX hT dX8_doItem_135 (by first | assumption | decide) ?_
            clear hT hX hR hlX k1 k2 hf hA
            refine ⟨?_, ?_⟩
            · unfold mitR_1 mdpR_1
              first | (simp only [*, if_true, if_false, not_true, not_false_iff]; done) | (simp [*]; done) | grind
            · unfold mitM_1 mdpM_1
              first | (simp only [*, if_true, if_false, not_true, not_false_iff]; done) | (simp [*]; done) | grind
          · refine r_iconst 131 hX dX8_doItem_130 (v := 1) (by decide) ?_
            refine r_goto 135 hX dX8_doItem_131 ?_
            refine r_zret hX hT dX8_doItem_135 (by first | assumption | decide) ?_
            clear hT hX hR hlX k1 k2 hf hA
            refine ⟨?_, ?_⟩
            · unfold mitR_1 mdpR_1
              first | (simp only [*, if_true, if_false, not_true, not_false_iff]; done) | (simp [*]; done) | grind
            · unfold mitM_1 mdpM_1
              first | (simp only [*, if_true, if_false, not_true, not_false_iff]; done) | (simp [*]; done) | grind
      · refine r_aload_n 84 hX dX8_doItem_83 rfl ?_
        refine r_iload_n 85 hX dX8_doItem_84 rfl ?_
        refine r_iconst 86 hX dX8_doItem_85 (v := -1) (by decide) ?_
        refine r_cV2F 89 hX hR (tX8_doFreeF_1 hf) dX8_doItem_86 kX8_doFree lX8_126 rfl rfl rfl rfl rfl rfl ?_
        refine r_iconst 90 hX dX8_doItem_89 (v := -1) (by decide) ?_
        refine r_icmp_eq 93 97 hX dX8_doItem_90 (fun c4 => ?_) (fun c4 => ?_)
        · refine r_iconst 98 hX dX8_doItem_97 (v := 0) (by decide) ?_
          refine r_zret hX hT dX8_doItem_98 (by first | assumption | decide) ?_
          clear hT hX hR hlX k1 k2 hf hA
          refine ⟨?_, ?_⟩
          · unfold mitR_1 mdpR_1
            first | (simp only [*, if_true, if_false, not_true, not_false_iff]; done) | (simp [*]; done) | grind
          · unfold mitM_1 mdpM_1
            first | (simp only [*, if_true, if_false, not_true, not_false_iff]; done) | (simp [*]; done) | grind
        · refine r_iconst 94 hX dX8_doItem_93 (v := 1) (by decide) ?_
          refine r_goto 98 hX dX8_doItem_94 ?_
          refine r_zret hX hT dX8_doItem_98 (by first | assumption | decide) ?_
          clear hT hX hR hlX k1 k2 hf hA
          refine ⟨?_, ?_⟩
          · unfold mitR_1 mdpR_1
            first | (simp only [*, if_true, if_false, not_true, not_false_iff]; done) | (simp [*]; done) | grind
          · unfold mitM_1 mdpM_1
            first | (simp only [*, if_true, if_false, not_true, not_false_iff]; done) | (simp [*]; done) | grind
    · refine r_aload_n 62 hX dX8_doItem_61 rfl ?_
      refine r_iload_n 63 hX dX8_doItem_62 rfl ?_
      refine r_cV1F 66 hX hR tX8_doPause_1 dX8_doItem_63 kX8_doPause lX8_129 rfl rfl rfl rfl rfl rfl ?_
      refine r_iconst 67 hX dX8_doItem_66 (v := -1) (by decide) ?_
      refine r_icmp_eq 70 74 hX dX8_doItem_67 (fun c3 => ?_) (fun c3 => ?_)
      · refine r_iconst 75 hX dX8_doItem_74 (v := 0) (by decide) ?_
        refine r_zret hX hT dX8_doItem_75 (by first | assumption | decide) ?_
        clear hT hX hR hlX k1 k2 hf hA
        refine ⟨?_, ?_⟩
        · unfold mitR_1 mdpR_1
          first | (simp only [*, if_true, if_false, not_true, not_false_iff]; done) | (simp [*]; done) | grind
        · unfold mitM_1 mdpM_1
          first | (simp only [*, if_true, if_false, not_true, not_false_iff]; done) | (simp [*]; done) | grind
      · refine r_iconst 71 hX dX8_doItem_70 (v := 1) (by decide) ?_
        refine r_goto 75 hX dX8_doItem_71 ?_
        refine r_zret hX hT dX8_doItem_75 (by first | assumption | decide) ?_
        clear hT hX hR hlX k1 k2 hf hA
        refine ⟨?_, ?_⟩
        · unfold mitR_1 mdpR_1
          first | (simp only [*, if_true, if_false, not_true, not_false_iff]; done) | (simp [*]; done) | grind
        · unfold mitM_1 mdpM_1
          first | (simp only [*, if_true, if_false, not_true, not_false_iff]; done) | (simp [*]; done) | grind
  · refine r_iconst 15 hX dX8_doItem_14 (v := 0) (by decide) ?_
    refine r_zret hX hT dX8_doItem_15 (by first | assumption | decide) ?_
    clear hT hX hR hlX k1 k2 hf hA
    refine ⟨?_, ?_⟩
    · unfold mitR_1 mdpR_1
      first | (simp only [*, if_true, if_false, not_true, not_false_iff]; done) | (simp [*]; done) | grind
    · unfold mitM_1 mdpM_1
      first | (simp only [*, if_true, if_false, not_true, not_false_iff]; done) | (simp [*]; done) | grind

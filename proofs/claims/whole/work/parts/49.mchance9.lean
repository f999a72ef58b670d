/-! chances of the model: weight -/
set_option maxRecDepth 100000 in
set_option maxHeartbeats 4000000 in
theorem tX8_weight_0 {l : Launch} {G : mx_G} {p0 p1 tg cap : Nat} {M : mx_Mem} (ho : M.1 52 1 = 1) (hS : MO (mI M 46 13 0) 0 p0 p1 tg cap) (h0 : p0 + 1 ≤ cap) (h1 : p1 + 1 ≤ cap) (hP : ∀ k : Nat, k < 12 → isP ((cnM (mI M 46 13 0)).1 58 k)) : mx_Met l G yX8_weight cX8_weight 8 ((some FieldType.int)) 4 104 [.ref 46] M ((fun r N => r = some (.int ((lN (UU tg cap (moN (cnM (mI M 46 13 0))) (p0 + 1) p1 0 0 0) - lN (UU tg cap (moN (cnM (mI M 46 13 0))) p0 (p1 + 1) 1 0 1)).toInt32)) ∧ frM (mI M 46 13 0) N)) := by
  refine mx_enter (own := RX8) (L := [.ref 46, .null, .null, .null, .null, .null, .null, .null]) (by decide +kernel) rfl rfl rfl ?_
  intro X hlX hX hR hT
  have hC := MO_fr (frM_cn (mI M 46 13 0)) hS
  have hcp := hC.2.2.2.1
  have l0 := ce_lt (a := p0 + 1) (b := p1) (s := 0) (i := 0) (j := 0) (by omega) (by omega) (by decide) (by decide) (by decide)
  have l1 := ce_lt (a := p0) (b := p1 + 1) (s := 1) (i := 0) (j := 1) (by omega) (by omega) (by decide) (by decide) (by decide)
  refine r_aload_n 1 hX dX8_weight_0 rfl ?_
  refine r_iconst 2 hX dX8_weight_1 (v := 0) (by decide) ?_
  refine r_putI 5 hX dX8_weight_2 fX8_63 fp8_13 rfl rfl rfl ?_
  refine r_aload_n 6 hX dX8_weight_5 rfl ?_
  refine r_cV0F 9 hX hR tX8_isOn dX8_weight_6 kX8_isOn lX8_82 rfl rfl rfl rfl rfl rfl ?_
  refine r_Bne 12 14 hX dX8_weight_9 (fun c1 => ?_) (fun c1 => absurd ho c1)
  refine r_aload_n 15 hX dX8_weight_14 rfl ?_
  refine r_cV0U 18 hX hR tX8_countNow dX8_weight_15 kX8_countNow lX8_174 rfl rfl rfl rfl rfl rfl ?_
  refine r_aload_n 19 hX dX8_weight_18 rfl ?_
  refine r_aload_n 20 hX dX8_weight_19 rfl ?_
  refine r_cV0F 23 hX hR tX8_goal dX8_weight_20 kX8_goal lX8_102 rfl rfl rfl rfl rfl rfl ?_
  rw [hC.2.1.1]
  refine r_cV1G 26 hX hR (tX8_fill hC.2.2.1 hC.2.2.2.1 hC.2.1.2 hP) dX8_weight_23 kX8_fill lX8_194 rfl rfl rfl rfl rfl rfl (fun r9 M9 hp9 => ?_)
  obtain ⟨rfl, hI9⟩ := hp9
  show mx_WW G X 26 _ [] M9
  obtain ⟨⟨e1, e2, e3⟩, _⟩ := MO_fr (frM_fl hI9) hC
  refine r_aload_n 27 hX dX8_weight_26 rfl ?_
  refine r_iconst 28 hX dX8_weight_27 (v := 0) (by decide) ?_
  refine r_iconst 29 hX dX8_weight_28 (v := 0) (by decide) ?_
  refine r_cV2F 32 hX hR (tX8_get (t := 0) (k := 0) (n := 6) rfl (by decide)) dX8_weight_29 kX8_get lX8_95 rfl rfl rfl rfl rfl rfl ?_
  rw [e2]
  refine r_istore_n 33 hX dX8_weight_32 rfl ?_
  refine r_aload_n 34 hX dX8_weight_33 rfl ?_
  refine r_iconst 35 hX dX8_weight_34 (v := 1) (by decide) ?_
  refine r_iconst 36 hX dX8_weight_35 (v := 0) (by decide) ?_
  refine r_cV2F 39 hX hR (tX8_get (t := 1) (k := 0) (n := 56) rfl (by decide)) dX8_weight_36 kX8_get lX8_95 rfl rfl rfl rfl rfl rfl ?_
  rw [e3]
  refine r_istore_n 40 hX dX8_weight_39 rfl ?_
  refine r_aload_n 41 hX dX8_weight_40 rfl ?_
  refine r_getR 44 hX dX8_weight_41 fX8_26 rfl rfl rfl ?_
  refine r_iconst 45 hX dX8_weight_44 (v := 2) (by decide) ?_
  refine r_ialdV 46 hX dX8_weight_45 rfl rfl (vpK rfl) (j := 2) (by decide) (v := 0) e1 ?_
  refine r_if_ne 49 53 hX dX8_weight_46 (fun c => absurd c (by decide)) (fun _ => ?_)
  refine r_iconst 50 hX dX8_weight_49 (v := 1) (by decide) ?_
  refine r_goto 54 hX dX8_weight_50 ?_
  refine r_istore_n 55 hX dX8_weight_54 rfl ?_
  refine (show mx_WW G X 55 [_, _, _, _, _, _, _, _] _ _ from ?_)
  refine r_aload_n 56 hX dX8_weight_55 rfl ?_
  refine r_getR 59 hX dX8_weight_56 fX8_52 rfl rfl rfl ?_
  refine r_iload_n 60 hX dX8_weight_59 rfl ?_
  refine r_iconst 61 hX dX8_weight_60 (v := 1) (by decide) ?_
  refine r_iadd 62 hX dX8_weight_61 ?_
  rw [nI_1]
  refine r_iload_n 63 hX dX8_weight_62 rfl ?_
  refine r_iconst 64 hX dX8_weight_63 (v := 0) (by decide) ?_
  refine r_iload_n 65 hX dX8_weight_64 rfl ?_
  refine r_if_eq 68 72 hX dX8_weight_65 (fun c => absurd c (by decide)) (fun _ => ?_)
  refine r_iconst 69 hX dX8_weight_68 (v := 0) (by decide) ?_
  refine r_goto 73 hX dX8_weight_69 ?_
  refine r_iconst 74 hX dX8_weight_73 (v := 0) (by decide) ?_
  refine r_cS5F 77 hX hR (tX8_cell (a := p0 + 1) (b := p1) (s := 0) (i := 0) (j := 0)) dX8_weight_74 kX8_cell lX8_184 rfl rfl rfl ?_
  refine r_laldV 78 hX dX8_weight_77 rfl rfl (vp_in_nI l0 (by decide)) (nI_clamp (by omega)) (hI9.2 (p0 + 1) p1 h0 (by omega) 0 0 0 (by decide) (by decide) (by decide)) ?_
  refine r_lstore 80 hX dX8_weight_78 rfl ?_
  refine r_aload_n 81 hX dX8_weight_80 rfl ?_
  refine r_getR 84 hX dX8_weight_81 fX8_52 rfl rfl rfl ?_
  refine r_iload_n 85 hX dX8_weight_84 rfl ?_
  refine r_iload_n 86 hX dX8_weight_85 rfl ?_
  refine r_iconst 87 hX dX8_weight_86 (v := 1) (by decide) ?_
  refine r_iadd 88 hX dX8_weight_87 ?_
  rw [nI_1]
  refine r_iconst 89 hX dX8_weight_88 (v := 1) (by decide) ?_
  refine r_iconst 90 hX dX8_weight_89 (v := 0) (by decide) ?_
  refine r_iload_n 91 hX dX8_weight_90 rfl ?_
  refine r_if_eq 94 98 hX dX8_weight_91 (fun c => absurd c (by decide)) (fun _ => ?_)
  refine r_iconst 95 hX dX8_weight_94 (v := 1) (by decide) ?_
  refine r_goto 99 hX dX8_weight_95 ?_
  refine r_cS5F 102 hX hR (tX8_cell (a := p0) (b := p1 + 1) (s := 1) (i := 0) (j := 1)) dX8_weight_99 kX8_cell lX8_184 rfl rfl rfl ?_
  refine r_laldV 103 hX dX8_weight_102 rfl rfl (vp_in_nI l1 (by decide)) (nI_clamp (by omega)) (hI9.2 p0 (p1 + 1) (by omega) h1 1 0 1 (by decide) (by decide) (by decide)) ?_
  refine r_lstore 105 hX dX8_weight_103 rfl ?_
  refine r_lload 107 hX dX8_weight_105 rfl ?_
  refine r_lload 109 hX dX8_weight_107 rfl ?_
  refine r_lsub 110 hX dX8_weight_109 ?_
  refine r_l2i 111 hX dX8_weight_110 ?_
  refine r_iret hX hT dX8_weight_111 ?_
  exact ⟨rfl, frM_tr (frM_cn _) (frM_fl hI9)⟩
set_option maxRecDepth 100000 in
set_option maxHeartbeats 4000000 in
theorem tX8_weight_1 {l : Launch} {G : mx_G} {p0 p1 tg cap : Nat} {M : mx_Mem} (ho : M.1 52 1 = 1) (hS : MO (mI M 46 13 0) 1 p0 p1 tg cap) (h0 : p0 + 1 ≤ cap) (h1 : p1 + 1 ≤ cap) (hP : ∀ k : Nat, k < 12 → isP ((cnM (mI M 46 13 0)).1 58 k)) : mx_Met l G yX8_weight cX8_weight 8 ((some FieldType.int)) 4 104 [.ref 46] M ((fun r N => r = some (.int ((lN (UU tg cap (moN (cnM (mI M 46 13 0))) (p0 + 1) p1 0 1 0) - lN (UU tg cap (moN (cnM (mI M 46 13 0))) p0 (p1 + 1) 1 0 0)).toInt32)) ∧ frM (mI M 46 13 0) N)) := by
  refine mx_enter (own := RX8) (L := [.ref 46, .null, .null, .null, .null, .null, .null, .null]) (by decide +kernel) rfl rfl rfl ?_
  intro X hlX hX hR hT
  have hC := MO_fr (frM_cn (mI M 46 13 0)) hS
  have hcp := hC.2.2.2.1
  have l0 := ce_lt (a := p0 + 1) (b := p1) (s := 0) (i := 1) (j := 0) (by omega) (by omega) (by decide) (by decide) (by decide)
  have l1 := ce_lt (a := p0) (b := p1 + 1) (s := 1) (i := 0) (j := 0) (by omega) (by omega) (by decide) (by decide) (by decide)
  refine r_aload_n 1 hX dX8_weight_0 rfl ?_
  refine r_iconst 2 hX dX8_weight_1 (v := 0) (by decide) ?_
  refine r_putI 5 hX dX8_weight_2 fX8_63 fp8_13 rfl rfl rfl ?_
  refine r_aload_n 6 hX dX8_weight_5 rfl ?_
  refine r_cV0F 9 hX hR tX8_isOn dX8_weight_6 kX8_isOn lX8_82 rfl rfl rfl rfl rfl rfl ?_
  refine r_Bne 12 14 hX dX8_weight_9 (fun c1 => ?_) (fun c1 => absurd ho c1)
  refine r_aload_n 15 hX dX8_weight_14 rfl ?_
  refine r_cV0U 18 hX hR tX8_countNow dX8_weight_15 kX8_countNow lX8_174 rfl rfl rfl rfl rfl rfl ?_
  refine r_aload_n 19 hX dX8_weight_18 rfl ?_
  refine r_aload_n 20 hX dX8_weight_19 rfl ?_
  refine r_cV0F 23 hX hR tX8_goal dX8_weight_20 kX8_goal lX8_102 rfl rfl rfl rfl rfl rfl ?_
  rw [hC.2.1.1]
  refine r_cV1G 26 hX hR (tX8_fill hC.2.2.1 hC.2.2.2.1 hC.2.1.2 hP) dX8_weight_23 kX8_fill lX8_194 rfl rfl rfl rfl rfl rfl (fun r9 M9 hp9 => ?_)
  obtain ⟨rfl, hI9⟩ := hp9
  show mx_WW G X 26 _ [] M9
  obtain ⟨⟨e1, e2, e3⟩, _⟩ := MO_fr (frM_fl hI9) hC
  refine r_aload_n 27 hX dX8_weight_26 rfl ?_
  refine r_iconst 28 hX dX8_weight_27 (v := 0) (by decide) ?_
  refine r_iconst 29 hX dX8_weight_28 (v := 0) (by decide) ?_
  refine r_cV2F 32 hX hR (tX8_get (t := 0) (k := 0) (n := 6) rfl (by decide)) dX8_weight_29 kX8_get lX8_95 rfl rfl rfl rfl rfl rfl ?_
  rw [e2]
  refine r_istore_n 33 hX dX8_weight_32 rfl ?_
  refine r_aload_n 34 hX dX8_weight_33 rfl ?_
  refine r_iconst 35 hX dX8_weight_34 (v := 1) (by decide) ?_
  refine r_iconst 36 hX dX8_weight_35 (v := 0) (by decide) ?_
  refine r_cV2F 39 hX hR (tX8_get (t := 1) (k := 0) (n := 56) rfl (by decide)) dX8_weight_36 kX8_get lX8_95 rfl rfl rfl rfl rfl rfl ?_
  rw [e3]
  refine r_istore_n 40 hX dX8_weight_39 rfl ?_
  refine r_aload_n 41 hX dX8_weight_40 rfl ?_
  refine r_getR 44 hX dX8_weight_41 fX8_26 rfl rfl rfl ?_
  refine r_iconst 45 hX dX8_weight_44 (v := 2) (by decide) ?_
  refine r_ialdV 46 hX dX8_weight_45 rfl rfl (vpK rfl) (j := 2) (by decide) (v := 1) e1 ?_
  refine r_if_ne 49 53 hX dX8_weight_46 (fun _ => ?_) (fun c => absurd c (by decide))
  refine r_iconst 54 hX dX8_weight_53 (v := 0) (by decide) ?_
  refine r_istore_n 55 hX dX8_weight_54 rfl ?_
  refine (show mx_WW G X 55 [_, _, _, _, _, _, _, _] _ _ from ?_)
  refine r_aload_n 56 hX dX8_weight_55 rfl ?_
  refine r_getR 59 hX dX8_weight_56 fX8_52 rfl rfl rfl ?_
  refine r_iload_n 60 hX dX8_weight_59 rfl ?_
  refine r_iconst 61 hX dX8_weight_60 (v := 1) (by decide) ?_
  refine r_iadd 62 hX dX8_weight_61 ?_
  rw [nI_1]
  refine r_iload_n 63 hX dX8_weight_62 rfl ?_
  refine r_iconst 64 hX dX8_weight_63 (v := 0) (by decide) ?_
  refine r_iload_n 65 hX dX8_weight_64 rfl ?_
  refine r_if_eq 68 72 hX dX8_weight_65 (fun _ => ?_) (fun c => absurd c (by decide))
  refine r_iconst 73 hX dX8_weight_72 (v := 1) (by decide) ?_
  refine r_iconst 74 hX dX8_weight_73 (v := 0) (by decide) ?_
  refine r_cS5F 77 hX hR (tX8_cell (a := p0 + 1) (b := p1) (s := 0) (i := 1) (j := 0)) dX8_weight_74 kX8_cell lX8_184 rfl rfl rfl ?_
  refine r_laldV 78 hX dX8_weight_77 rfl rfl (vp_in_nI l0 (by decide)) (nI_clamp (by omega)) (hI9.2 (p0 + 1) p1 h0 (by omega) 0 1 0 (by decide) (by decide) (by decide)) ?_
  refine r_lstore 80 hX dX8_weight_78 rfl ?_
  refine r_aload_n 81 hX dX8_weight_80 rfl ?_
  refine r_getR 84 hX dX8_weight_81 fX8_52 rfl rfl rfl ?_
  refine r_iload_n 85 hX dX8_weight_84 rfl ?_
  refine r_iload_n 86 hX dX8_weight_85 rfl ?_
  refine r_iconst 87 hX dX8_weight_86 (v := 1) (by decide) ?_
  refine r_iadd 88 hX dX8_weight_87 ?_
  rw [nI_1]
  refine r_iconst 89 hX dX8_weight_88 (v := 1) (by decide) ?_
  refine r_iconst 90 hX dX8_weight_89 (v := 0) (by decide) ?_
  refine r_iload_n 91 hX dX8_weight_90 rfl ?_
  refine r_if_eq 94 98 hX dX8_weight_91 (fun _ => ?_) (fun c => absurd c (by decide))
  refine r_iconst 99 hX dX8_weight_98 (v := 0) (by decide) ?_
  refine r_cS5F 102 hX hR (tX8_cell (a := p0) (b := p1 + 1) (s := 1) (i := 0) (j := 0)) dX8_weight_99 kX8_cell lX8_184 rfl rfl rfl ?_
  refine r_laldV 103 hX dX8_weight_102 rfl rfl (vp_in_nI l1 (by decide)) (nI_clamp (by omega)) (hI9.2 p0 (p1 + 1) (by omega) h1 1 0 0 (by decide) (by decide) (by decide)) ?_
  refine r_lstore 105 hX dX8_weight_103 rfl ?_
  refine r_lload 107 hX dX8_weight_105 rfl ?_
  refine r_lload 109 hX dX8_weight_107 rfl ?_
  refine r_lsub 110 hX dX8_weight_109 ?_
  refine r_l2i 111 hX dX8_weight_110 ?_
  refine r_iret hX hT dX8_weight_111 ?_
  exact ⟨rfl, frM_tr (frM_cn _) (frM_fl hI9)⟩
set_option maxRecDepth 100000 in
set_option maxHeartbeats 4000000 in
theorem tX8_row_0 {l : Launch} {G : mx_G} {M : mx_Mem} (h : M.1 46 12 = 1) : mx_Met l G yX8_row cX8_row 2 ((some FieldType.int)) 0 0 [.ref 46, .int 0] M (mx_F (some (.int (M.1 46 11))) (mI M 46 13 0)) := by
  refine mx_enter (own := RX8) (L := [.ref 46, .int 0]) (by decide +kernel) rfl rfl rfl ?_
  intro X hlX hX hR hT
  refine r_aload_n 1 hX dX8_row_0 rfl ?_
  refine r_iconst 2 hX dX8_row_1 (v := 0) (by decide) ?_
  refine r_putI 5 hX dX8_row_2 fX8_63 fp8_13 rfl rfl rfl ?_
  refine r_iload_n 6 hX dX8_row_5 rfl ?_
  refine r_if_ne 9 22 hX dX8_row_6 (fun c => absurd c (by decide)) (fun _ => ?_)
  refine r_aload_n 10 hX dX8_row_9 rfl ?_
  refine r_getI 13 hX dX8_row_10 fX8_132 rfl rfl rfl ?_
  refine r_iconst 14 hX dX8_row_13 (v := 1) (by decide) ?_
  refine r_icmp_ne 17 22 hX dX8_row_14 (fun c1 => absurd h c1) (fun c1 => ?_)
  refine r_aload_n 18 hX dX8_row_17 rfl ?_
  refine r_getI 21 hX dX8_row_18 fX8_200 rfl rfl rfl ?_
  refine r_iret hX hT dX8_row_21 ?_
  exact ⟨rfl, rfl⟩
set_option maxRecDepth 100000 in
set_option maxHeartbeats 4000000 in
theorem tX8_row_no {l : Launch} {G : mx_G} {i : Int32} {M : mx_Mem} (h : ¬ (i = 0 ∧ M.1 46 12 = 1)) : mx_Met l G yX8_row cX8_row 2 ((some FieldType.int)) 0 0 [.ref 46, .int i] M (mx_F (some (.int 0)) (mI (mI M 46 13 0) 46 13 1)) := by
  refine mx_enter (own := RX8) (L := [.ref 46, .int i]) (by decide +kernel) rfl rfl rfl ?_
  intro X hlX hX hR hT
  refine r_aload_n 1 hX dX8_row_0 rfl ?_
  refine r_iconst 2 hX dX8_row_1 (v := 0) (by decide) ?_
  refine r_putI 5 hX dX8_row_2 fX8_63 fp8_13 rfl rfl rfl ?_
  refine r_iload_n 6 hX dX8_row_5 rfl ?_
  refine r_if_ne 9 22 hX dX8_row_6 (fun c1 => ?_) (fun c1 => ?_)
  · refine r_aload_n 23 hX dX8_row_22 rfl ?_
    refine r_iconst 24 hX dX8_row_23 (v := 1) (by decide) ?_
    refine r_putI 27 hX dX8_row_24 fX8_63 fp8_13 rfl rfl rfl ?_
    refine r_iconst 28 hX dX8_row_27 (v := 0) (by decide) ?_
    refine r_iret hX hT dX8_row_28 ?_
    exact ⟨rfl, rfl⟩
  · refine r_aload_n 10 hX dX8_row_9 rfl ?_
    refine r_getI 13 hX dX8_row_10 fX8_132 rfl rfl rfl ?_
    refine r_iconst 14 hX dX8_row_13 (v := 1) (by decide) ?_
    refine r_icmp_ne 17 22 hX dX8_row_14 (fun c2 => ?_) (fun c2 => ?_)
    · refine r_aload_n 23 hX dX8_row_22 rfl ?_
      refine r_iconst 24 hX dX8_row_23 (v := 1) (by decide) ?_
      refine r_putI 27 hX dX8_row_24 fX8_63 fp8_13 rfl rfl rfl ?_
      refine r_iconst 28 hX dX8_row_27 (v := 0) (by decide) ?_
      refine r_iret hX hT dX8_row_28 ?_
      exact ⟨rfl, rfl⟩
    · exact absurd ⟨by simpa using c1, by simpa [mI, mR, upd] using c2⟩ h

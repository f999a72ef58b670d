/-! chances of the model: who counts -/
def cnV (M : mx_Mem) (t i : Nat) : Int32 := if ¬ M.1 52 (10 + 50 * t) = -1 ∧ M.1 52 (14 + 50 * t + i) = M.1 48 t then M.1 52 (10 + 50 * t) else M.1 52 (14 + 50 * t + i)
theorem cnl_0 {G : mx_G} {X : mx_X} {N : mx_Mem} (hX : mx_OK G X RX8 cX8_countNow 4) (hR : mx_RM X 1 22) (hE : ∀ w3 : Value, mx_WW G X 72 [.ref 46, .int 0, .int 6, w3] [] (fwM N 58 0 (cnV N 0) 6)) : ∀ w3 : Value, mx_WW G X 9 [.ref 46, .int 0, .int (nI 0), w3] [] N := by
  refine mx_back (P := fun i => ∀ w3 : Value, mx_WW G X 9 [.ref 46, .int 0, .int (nI i), w3] [] (fwM N 58 0 (cnV N 0) i)) 6 (fun i hi ih => ?_) ?_
  · intro w3
    have g1 : ¬ 6 ≤ nI i := nI_ge (b := 6) hi (by decide)
    have k1 : (8 : Int32) + nI i = nI (8 + i) := nI_add 8 i
    have k2 : (0 : Int32) + nI i = nI (0 + i) := nI_add 0 i
    have e1 : ∀ j, (fwM N 58 0 (cnV N 0) i).1 52 j = N.1 52 j := fun j => fwM_ne N _ (by decide) j i
    have e2 : (fwM N 58 0 (cnV N 0) i).1 48 0 = N.1 48 0 := fwM_ne N _ (by decide) _ i
    have ih2 : ∀ v, v = cnV N 0 i → ∀ w3 : Value, mx_WW G X 9 [.ref 46, .int 0, .int (nI (i + 1)), w3] [] (mI (fwM N 58 0 (cnV N 0) i) 58 (0 + i) v) := fun v hv => by subst hv; exact ih
    unfold cnV at ih2
    refine r_iload_n 10 hX dX8_countNow_9 rfl ?_
    refine r_bipush 12 hX dX8_countNow_10 (v := 6) (by decide) ?_
    refine r_icmp_ge 15 72 hX dX8_countNow_12 (fun c1 => absurd c1 g1) (fun c1 => ?_)
    refine r_aload_n 16 hX dX8_countNow_15 rfl ?_
    refine r_iload_n 17 hX dX8_countNow_16 rfl ?_
    refine r_bipush 19 hX dX8_countNow_17 (v := 8) (by decide) ?_
    refine r_iload_n 20 hX dX8_countNow_19 rfl ?_
    refine r_iadd 21 hX dX8_countNow_20 ?_
    rw [k1]
    refine r_cV2F 24 hX hR (tX8_get (t := 0) (k := 8 + i) (n := 14 + i) (by omega) (by omega)) dX8_countNow_21 kX8_get lX8_95 rfl rfl rfl rfl rfl rfl ?_
    rw [e1]
    refine r_istore_n 25 hX dX8_countNow_24 rfl ?_
    refine r_aload_n 26 hX dX8_countNow_25 rfl ?_
    refine r_getR 29 hX dX8_countNow_26 fX8_45 rfl rfl rfl ?_
    refine r_bipush 31 hX dX8_countNow_29 (v := 6) (by decide) ?_
    refine r_iload_n 32 hX dX8_countNow_31 rfl ?_
    refine r_imulK 33 hX dX8_countNow_32 (w := 0) (by decide) ?_
    refine r_iload_n 34 hX dX8_countNow_33 rfl ?_
    refine r_iadd 35 hX dX8_countNow_34 ?_
    rw [k2]
    refine r_aload_n 36 hX dX8_countNow_35 rfl ?_
    refine r_iload_n 37 hX dX8_countNow_36 rfl ?_
    refine r_iconst 38 hX dX8_countNow_37 (v := 4) (by decide) ?_
    refine r_cV2F 41 hX hR (tX8_get (t := 0) (k := 4) (n := 10) rfl (by decide)) dX8_countNow_38 kX8_get lX8_95 rfl rfl rfl rfl rfl rfl ?_
    rw [e1]
    refine r_iconst 42 hX dX8_countNow_41 (v := -1) (by decide) ?_
    refine r_icmp_eq 45 64 hX dX8_countNow_42 (fun c2 => ?_) (fun c2 => ?_)
    · refine r_iload_n 65 hX dX8_countNow_64 rfl ?_
      refine r_iastK 66 hX dX8_countNow_65 rfl rfl (vp_in_nI (show 0 + i < 12 by omega) (by decide)) (j := 0 + i) (nI_clamp (by omega)) ?_
      refine r_iinc 69 hX dX8_countNow_66 rfl (v := 1) (by decide) rfl ?_
      refine r_goto 9 hX dX8_countNow_69 ?_
      rw [nI_1]
      exact ih2 _ (by simp_all) _
    · refine r_iload_n 46 hX dX8_countNow_45 rfl ?_
      refine r_aload_n 47 hX dX8_countNow_46 rfl ?_
      refine r_getR 50 hX dX8_countNow_47 fX8_13 rfl rfl rfl ?_
      refine r_iload_n 51 hX dX8_countNow_50 rfl ?_
      refine r_ialdK 52 hX dX8_countNow_51 rfl rfl (vpK rfl) (j := 0) (by decide) ?_
      rw [e2]
      refine r_icmp_ne 55 64 hX dX8_countNow_52 (fun c3 => ?_) (fun c3 => ?_)
      · refine r_iload_n 65 hX dX8_countNow_64 rfl ?_
        refine r_iastK 66 hX dX8_countNow_65 rfl rfl (vp_in_nI (show 0 + i < 12 by omega) (by decide)) (j := 0 + i) (nI_clamp (by omega)) ?_
        refine r_iinc 69 hX dX8_countNow_66 rfl (v := 1) (by decide) rfl ?_
        refine r_goto 9 hX dX8_countNow_69 ?_
        rw [nI_1]
        exact ih2 _ (by simp_all) _
      · refine r_aload_n 56 hX dX8_countNow_55 rfl ?_
        refine r_iload_n 57 hX dX8_countNow_56 rfl ?_
        refine r_iconst 58 hX dX8_countNow_57 (v := 4) (by decide) ?_
        refine r_cV2F 61 hX hR (tX8_get (t := 0) (k := 4) (n := 10) rfl (by decide)) dX8_countNow_58 kX8_get lX8_95 rfl rfl rfl rfl rfl rfl ?_
        rw [e1]
        refine r_goto 65 hX dX8_countNow_61 ?_
        refine r_iastK 66 hX dX8_countNow_65 rfl rfl (vp_in_nI (show 0 + i < 12 by omega) (by decide)) (j := 0 + i) (nI_clamp (by omega)) ?_
        refine r_iinc 69 hX dX8_countNow_66 rfl (v := 1) (by decide) rfl ?_
        refine r_goto 9 hX dX8_countNow_69 ?_
        rw [nI_1]
        exact ih2 _ (by simp_all) _
  · intro w3
    show mx_WW G X 9 [.ref 46, .int 0, .int 6, w3] [] _
    refine r_iload_n 10 hX dX8_countNow_9 rfl ?_
    refine r_bipush 12 hX dX8_countNow_10 (v := 6) (by decide) ?_
    refine r_icmp_ge 15 72 hX dX8_countNow_12 (fun _ => ?_) (fun c => absurd c (by decide))
    exact hE _
theorem cnl_1 {G : mx_G} {X : mx_X} {N : mx_Mem} (hX : mx_OK G X RX8 cX8_countNow 4) (hR : mx_RM X 1 22) (hE : ∀ w3 : Value, mx_WW G X 72 [.ref 46, .int 1, .int 6, w3] [] (fwM N 58 6 (cnV N 1) 6)) : ∀ w3 : Value, mx_WW G X 9 [.ref 46, .int 1, .int (nI 0), w3] [] N := by
  refine mx_back (P := fun i => ∀ w3 : Value, mx_WW G X 9 [.ref 46, .int 1, .int (nI i), w3] [] (fwM N 58 6 (cnV N 1) i)) 6 (fun i hi ih => ?_) ?_
  · intro w3
    have g1 : ¬ 6 ≤ nI i := nI_ge (b := 6) hi (by decide)
    have k1 : (8 : Int32) + nI i = nI (8 + i) := nI_add 8 i
    have k2 : (6 : Int32) + nI i = nI (6 + i) := nI_add 6 i
    have e1 : ∀ j, (fwM N 58 6 (cnV N 1) i).1 52 j = N.1 52 j := fun j => fwM_ne N _ (by decide) j i
    have e2 : (fwM N 58 6 (cnV N 1) i).1 48 1 = N.1 48 1 := fwM_ne N _ (by decide) _ i
    have ih2 : ∀ v, v = cnV N 1 i → ∀ w3 : Value, mx_WW G X 9 [.ref 46, .int 1, .int (nI (i + 1)), w3] [] (mI (fwM N 58 6 (cnV N 1) i) 58 (6 + i) v) := fun v hv => by subst hv; exact ih
    unfold cnV at ih2
    refine r_iload_n 10 hX dX8_countNow_9 rfl ?_
    refine r_bipush 12 hX dX8_countNow_10 (v := 6) (by decide) ?_
    refine r_icmp_ge 15 72 hX dX8_countNow_12 (fun c1 => absurd c1 g1) (fun c1 => ?_)
    refine r_aload_n 16 hX dX8_countNow_15 rfl ?_
    refine r_iload_n 17 hX dX8_countNow_16 rfl ?_
    refine r_bipush 19 hX dX8_countNow_17 (v := 8) (by decide) ?_
    refine r_iload_n 20 hX dX8_countNow_19 rfl ?_
    refine r_iadd 21 hX dX8_countNow_20 ?_
    rw [k1]
    refine r_cV2F 24 hX hR (tX8_get (t := 1) (k := 8 + i) (n := 64 + i) (by omega) (by omega)) dX8_countNow_21 kX8_get lX8_95 rfl rfl rfl rfl rfl rfl ?_
    rw [e1]
    refine r_istore_n 25 hX dX8_countNow_24 rfl ?_
    refine r_aload_n 26 hX dX8_countNow_25 rfl ?_
    refine r_getR 29 hX dX8_countNow_26 fX8_45 rfl rfl rfl ?_
    refine r_bipush 31 hX dX8_countNow_29 (v := 6) (by decide) ?_
    refine r_iload_n 32 hX dX8_countNow_31 rfl ?_
    refine r_imulK 33 hX dX8_countNow_32 (w := 6) (by decide) ?_
    refine r_iload_n 34 hX dX8_countNow_33 rfl ?_
    refine r_iadd 35 hX dX8_countNow_34 ?_
    rw [k2]
    refine r_aload_n 36 hX dX8_countNow_35 rfl ?_
    refine r_iload_n 37 hX dX8_countNow_36 rfl ?_
    refine r_iconst 38 hX dX8_countNow_37 (v := 4) (by decide) ?_
    refine r_cV2F 41 hX hR (tX8_get (t := 1) (k := 4) (n := 60) rfl (by decide)) dX8_countNow_38 kX8_get lX8_95 rfl rfl rfl rfl rfl rfl ?_
    rw [e1]
    refine r_iconst 42 hX dX8_countNow_41 (v := -1) (by decide) ?_
    refine r_icmp_eq 45 64 hX dX8_countNow_42 (fun c2 => ?_) (fun c2 => ?_)
    · refine r_iload_n 65 hX dX8_countNow_64 rfl ?_
      refine r_iastK 66 hX dX8_countNow_65 rfl rfl (vp_in_nI (show 6 + i < 12 by omega) (by decide)) (j := 6 + i) (nI_clamp (by omega)) ?_
      refine r_iinc 69 hX dX8_countNow_66 rfl (v := 1) (by decide) rfl ?_
      refine r_goto 9 hX dX8_countNow_69 ?_
      rw [nI_1]
      exact ih2 _ (by simp_all) _
    · refine r_iload_n 46 hX dX8_countNow_45 rfl ?_
      refine r_aload_n 47 hX dX8_countNow_46 rfl ?_
      refine r_getR 50 hX dX8_countNow_47 fX8_13 rfl rfl rfl ?_
      refine r_iload_n 51 hX dX8_countNow_50 rfl ?_
      refine r_ialdK 52 hX dX8_countNow_51 rfl rfl (vpK rfl) (j := 1) (by decide) ?_
      rw [e2]
      refine r_icmp_ne 55 64 hX dX8_countNow_52 (fun c3 => ?_) (fun c3 => ?_)
      · refine r_iload_n 65 hX dX8_countNow_64 rfl ?_
        refine r_iastK 66 hX dX8_countNow_65 rfl rfl (vp_in_nI (show 6 + i < 12 by omega) (by decide)) (j := 6 + i) (nI_clamp (by omega)) ?_
        refine r_iinc 69 hX dX8_countNow_66 rfl (v := 1) (by decide) rfl ?_
        refine r_goto 9 hX dX8_countNow_69 ?_
        rw [nI_1]
        exact ih2 _ (by simp_all) _
      · refine r_aload_n 56 hX dX8_countNow_55 rfl ?_
        refine r_iload_n 57 hX dX8_countNow_56 rfl ?_
        refine r_iconst 58 hX dX8_countNow_57 (v := 4) (by decide) ?_
        refine r_cV2F 61 hX hR (tX8_get (t := 1) (k := 4) (n := 60) rfl (by decide)) dX8_countNow_58 kX8_get lX8_95 rfl rfl rfl rfl rfl rfl ?_
        rw [e1]
        refine r_goto 65 hX dX8_countNow_61 ?_
        refine r_iastK 66 hX dX8_countNow_65 rfl rfl (vp_in_nI (show 6 + i < 12 by omega) (by decide)) (j := 6 + i) (nI_clamp (by omega)) ?_
        refine r_iinc 69 hX dX8_countNow_66 rfl (v := 1) (by decide) rfl ?_
        refine r_goto 9 hX dX8_countNow_69 ?_
        rw [nI_1]
        exact ih2 _ (by simp_all) _
  · intro w3
    show mx_WW G X 9 [.ref 46, .int 1, .int 6, w3] [] _
    refine r_iload_n 10 hX dX8_countNow_9 rfl ?_
    refine r_bipush 12 hX dX8_countNow_10 (v := 6) (by decide) ?_
    refine r_icmp_ge 15 72 hX dX8_countNow_12 (fun _ => ?_) (fun c => absurd c (by decide))
    exact hE _
def cnM (M : mx_Mem) : mx_Mem := fwM (fwM M 58 0 (cnV M 0) 6) 58 6 (cnV M 1) 6
theorem cnV_fw (M : mx_Mem) : cnV (fwM M 58 0 (cnV M 0) 6) 1 = cnV M 1 := by
  funext i
  unfold cnV
  simp only [fwM_ne M _ (show 52 ≠ 58 by decide), fwM_ne M _ (show 48 ≠ 58 by decide)]
set_option maxRecDepth 100000 in
set_option maxHeartbeats 4000000 in
theorem tX8_countNow {l : Launch} {G : mx_G} {M : mx_Mem} : mx_Met l G yX8_countNow cX8_countNow 4 (none) 1 22 [.ref 46] M (mx_F none (cnM M)) := by
  refine mx_enter (own := RX8) (L := [.ref 46, .null, .null, .null]) (by decide +kernel) rfl rfl rfl ?_
  intro X hlX hX hR hT
  refine r_iconst 1 hX dX8_countNow_0 (v := 0) (by decide) ?_
  refine r_istore_n 2 hX dX8_countNow_1 rfl ?_
  refine r_iload_n 3 hX dX8_countNow_2 rfl ?_
  refine r_iconst 4 hX dX8_countNow_3 (v := 2) (by decide) ?_
  refine r_icmp_ge 7 78 hX dX8_countNow_4 (fun c => absurd c (by decide)) (fun _ => ?_)
  refine r_iconst 8 hX dX8_countNow_7 (v := 0) (by decide) ?_
  refine r_istore_n 9 hX dX8_countNow_8 rfl ?_
  skip
  refine cnl_0 hX hR ?_ _
  intro w3
  refine r_iincK 75 hX dX8_countNow_72 rfl (w := 1) (by decide) rfl ?_
  refine r_goto 2 hX dX8_countNow_75 ?_
  refine r_iload_n 3 hX dX8_countNow_2 rfl ?_
  refine r_iconst 4 hX dX8_countNow_3 (v := 2) (by decide) ?_
  refine r_icmp_ge 7 78 hX dX8_countNow_4 (fun c => absurd c (by decide)) (fun _ => ?_)
  refine r_iconst 8 hX dX8_countNow_7 (v := 0) (by decide) ?_
  refine r_istore_n 9 hX dX8_countNow_8 rfl ?_
  skip
  refine cnl_1 hX hR ?_ _
  intro w3
  rw [cnV_fw]
  refine r_iincK 75 hX dX8_countNow_72 rfl (w := 2) (by decide) rfl ?_
  refine r_goto 2 hX dX8_countNow_75 ?_
  refine r_iload_n 3 hX dX8_countNow_2 rfl ?_
  refine r_iconst 4 hX dX8_countNow_3 (v := 2) (by decide) ?_
  refine r_icmp_ge 7 78 hX dX8_countNow_4 (fun _ => ?_) (fun c => absurd c (by decide))
  refine r_vret hX hT dX8_countNow_78 ?_
  exact ⟨rfl, rfl⟩
theorem cnM_ne (M : mx_Mem) {k : Nat} (h : k ≠ 58) : (cnM M).1 k = M.1 k := by
  funext j
  rw [cnM, fwM_ne _ _ h, fwM_ne _ _ h]
theorem cnM_58 (M : mx_Mem) : ∀ i, i < 6 → (cnM M).1 58 i = cnV M 0 i ∧ (cnM M).1 58 (6 + i) = cnV M 1 i := by
  intro i hi
  rw [cnM, fwM_in _ _ 6 hi, fwM_out _ _ 6 (by omega)]
  have := fwM_in M (k := 58) (s := 0) (cnV M 0) 6 hi
  rw [Nat.zero_add] at this
  exact ⟨this, rfl⟩
theorem cnM_2 (M : mx_Mem) : (cnM M).2 = M.2 := by rw [cnM, fwM_2, fwM_2]
set_option maxRecDepth 100000 in
set_option maxHeartbeats 4000000 in
theorem tX8_odds_no {l : Launch} {G : mx_G} {i j t : Int32} {M : mx_Mem} (hn : ¬ (M.1 52 1 = 1 ∧ (0 ≤ i ∧ i ≤ 5) ∧ (0 ≤ j ∧ j ≤ 5) ∧ isT t)) : mx_Met l G yX8_odds cX8_odds 4 ((some FieldType.int)) 3 75 [.ref 46, .int i, .int j, .int t] M (mx_F (some (.int (-1))) (mI M 46 13 0)) := by
  refine mx_enter (own := RX8) (L := [.ref 46, .int i, .int j, .int t]) (by decide +kernel) rfl rfl rfl ?_
  intro X hlX hX hR hT
  refine r_aload_n 1 hX dX8_odds_0 rfl ?_
  refine r_iconst 2 hX dX8_odds_1 (v := 0) (by decide) ?_
  refine r_putI 5 hX dX8_odds_2 fX8_63 fp8_13 rfl rfl rfl ?_
  refine r_aload_n 6 hX dX8_odds_5 rfl ?_
  refine r_cV0F 9 hX hR tX8_isOn dX8_odds_6 kX8_isOn lX8_82 rfl rfl rfl rfl rfl rfl ?_
  refine r_Beq 12 37 hX dX8_odds_9 (fun c1 => ?_) (fun c1 => ?_)
  · refine r_iconst 38 hX dX8_odds_37 (v := -1) (by decide) ?_
    refine r_iret hX hT dX8_odds_38 ?_
    exact ⟨rfl, rfl⟩
  · refine r_iload_n 13 hX dX8_odds_12 rfl ?_
    refine r_iconst 14 hX dX8_odds_13 (v := 0) (by decide) ?_
    refine r_iconst 15 hX dX8_odds_14 (v := 5) (by decide) ?_
    refine r_cS3F 18 hX hR tX8_in dX8_odds_15 kX8_in lX8_67 rfl rfl rfl ?_
    refine r_Beq 21 37 hX dX8_odds_18 (fun c2 => ?_) (fun c2 => ?_)
    · refine r_iconst 38 hX dX8_odds_37 (v := -1) (by decide) ?_
      refine r_iret hX hT dX8_odds_38 ?_
      exact ⟨rfl, rfl⟩
    · refine r_iload_n 22 hX dX8_odds_21 rfl ?_
      refine r_iconst 23 hX dX8_odds_22 (v := 0) (by decide) ?_
      refine r_iconst 24 hX dX8_odds_23 (v := 5) (by decide) ?_
      refine r_cS3F 27 hX hR tX8_in dX8_odds_24 kX8_in lX8_67 rfl rfl rfl ?_
      refine r_Beq 30 37 hX dX8_odds_27 (fun c3 => ?_) (fun c3 => ?_)
      · refine r_iconst 38 hX dX8_odds_37 (v := -1) (by decide) ?_
        refine r_iret hX hT dX8_odds_38 ?_
        exact ⟨rfl, rfl⟩
      · refine r_iload_n 31 hX dX8_odds_30 rfl ?_
        refine r_cS1F 34 hX hR tX8_isTeam dX8_odds_31 kX8_isTeam lX8_71 rfl rfl rfl ?_
        refine r_Bne 37 39 hX dX8_odds_34 (fun c4 => ?_) (fun c4 => ?_)
        · exact absurd ⟨by assumption, by assumption, by assumption, by assumption⟩ hn
        · refine r_iconst 38 hX dX8_odds_37 (v := -1) (by decide) ?_
          refine r_iret hX hT dX8_odds_38 ?_
          exact ⟨rfl, rfl⟩
set_option maxRecDepth 100000 in
set_option maxHeartbeats 4000000 in
theorem tX8_odds_0 {l : Launch} {G : mx_G} {i j : Nat} {M : mx_Mem} (hi : i < 6) (hj : j < 6) (ho : M.1 52 1 = 1) (hP : ∀ k : Nat, k < 12 → isP ((cnM (mI M 46 13 0)).1 58 k)) : mx_Met l G yX8_odds cX8_odds 4 ((some FieldType.int)) 3 75 [.ref 46, .int (nI i), .int (nI j), .int 0] M (mx_F (some (.int (mrc (cnM (mI M 46 13 0)) 0 i j))) (cnM (mI M 46 13 0))) := by
  refine mx_enter (own := RX8) (L := [.ref 46, .int (nI i), .int (nI j), .int 0]) (by decide +kernel) rfl rfl rfl ?_
  intro X hlX hX hR hT
  have g1 : 0 ≤ nI i ∧ nI i ≤ 5 := ⟨nI_pos' (by omega), nI_le (b := 5) (by omega) (by decide)⟩
  have g2 : 0 ≤ nI j ∧ nI j ≤ 5 := ⟨nI_pos' (by omega), nI_le (b := 5) (by omega) (by decide)⟩
  refine r_aload_n 1 hX dX8_odds_0 rfl ?_
  refine r_iconst 2 hX dX8_odds_1 (v := 0) (by decide) ?_
  refine r_putI 5 hX dX8_odds_2 fX8_63 fp8_13 rfl rfl rfl ?_
  refine r_aload_n 6 hX dX8_odds_5 rfl ?_
  refine r_cV0F 9 hX hR tX8_isOn dX8_odds_6 kX8_isOn lX8_82 rfl rfl rfl rfl rfl rfl ?_
  refine r_Beq 12 37 hX dX8_odds_9 (fun c1 => absurd ho c1) (fun c1 => ?_)
  refine r_iload_n 13 hX dX8_odds_12 rfl ?_
  refine r_iconst 14 hX dX8_odds_13 (v := 0) (by decide) ?_
  refine r_iconst 15 hX dX8_odds_14 (v := 5) (by decide) ?_
  refine r_cS3F 18 hX hR tX8_in dX8_odds_15 kX8_in lX8_67 rfl rfl rfl ?_
  refine r_Beq 21 37 hX dX8_odds_18 (fun c2 => absurd g1 c2) (fun c2 => ?_)
  refine r_iload_n 22 hX dX8_odds_21 rfl ?_
  refine r_iconst 23 hX dX8_odds_22 (v := 0) (by decide) ?_
  refine r_iconst 24 hX dX8_odds_23 (v := 5) (by decide) ?_
  refine r_cS3F 27 hX hR tX8_in dX8_odds_24 kX8_in lX8_67 rfl rfl rfl ?_
  refine r_Beq 30 37 hX dX8_odds_27 (fun c3 => absurd g2 c3) (fun c3 => ?_)
  refine r_iload_n 31 hX dX8_odds_30 rfl ?_
  refine r_cS1F 34 hX hR tX8_isTeam_0 dX8_odds_31 kX8_isTeam lX8_71 rfl rfl rfl ?_
  refine r_if_ne 37 39 hX dX8_odds_34 (fun _ => ?_) (fun c => absurd c (by decide))
  refine r_aload_n 40 hX dX8_odds_39 rfl ?_
  refine r_cV0U 43 hX hR tX8_countNow dX8_odds_40 kX8_countNow lX8_174 rfl rfl rfl rfl rfl rfl ?_
  refine r_aload_n 44 hX dX8_odds_43 rfl ?_
  refine r_iload_n 45 hX dX8_odds_44 rfl ?_
  refine r_iload_n 46 hX dX8_odds_45 rfl ?_
  refine r_iload_n 47 hX dX8_odds_46 rfl ?_
  refine r_cV3F 50 hX hR (tX8_oddsOf_0 (by omega) (by omega) hP) dX8_odds_47 kX8_oddsOf lX8_177 rfl rfl rfl rfl rfl rfl ?_
  refine r_iret hX hT dX8_odds_50 ?_
  exact ⟨rfl, rfl⟩
set_option maxRecDepth 100000 in
set_option maxHeartbeats 4000000 in
theorem tX8_odds_1 {l : Launch} {G : mx_G} {i j : Nat} {M : mx_Mem} (hi : i < 6) (hj : j < 6) (ho : M.1 52 1 = 1) (hP : ∀ k : Nat, k < 12 → isP ((cnM (mI M 46 13 0)).1 58 k)) : mx_Met l G yX8_odds cX8_odds 4 ((some FieldType.int)) 3 75 [.ref 46, .int (nI i), .int (nI j), .int 1] M (mx_F (some (.int (mrc (cnM (mI M 46 13 0)) 1 i j))) (cnM (mI M 46 13 0))) := by
  refine mx_enter (own := RX8) (L := [.ref 46, .int (nI i), .int (nI j), .int 1]) (by decide +kernel) rfl rfl rfl ?_
  intro X hlX hX hR hT
  have g1 : 0 ≤ nI i ∧ nI i ≤ 5 := ⟨nI_pos' (by omega), nI_le (b := 5) (by omega) (by decide)⟩
  have g2 : 0 ≤ nI j ∧ nI j ≤ 5 := ⟨nI_pos' (by omega), nI_le (b := 5) (by omega) (by decide)⟩
  refine r_aload_n 1 hX dX8_odds_0 rfl ?_
  refine r_iconst 2 hX dX8_odds_1 (v := 0) (by decide) ?_
  refine r_putI 5 hX dX8_odds_2 fX8_63 fp8_13 rfl rfl rfl ?_
  refine r_aload_n 6 hX dX8_odds_5 rfl ?_
  refine r_cV0F 9 hX hR tX8_isOn dX8_odds_6 kX8_isOn lX8_82 rfl rfl rfl rfl rfl rfl ?_
  refine r_Beq 12 37 hX dX8_odds_9 (fun c1 => absurd ho c1) (fun c1 => ?_)
  refine r_iload_n 13 hX dX8_odds_12 rfl ?_
  refine r_iconst 14 hX dX8_odds_13 (v := 0) (by decide) ?_
  refine r_iconst 15 hX dX8_odds_14 (v := 5) (by decide) ?_
  refine r_cS3F 18 hX hR tX8_in dX8_odds_15 kX8_in lX8_67 rfl rfl rfl ?_
  refine r_Beq 21 37 hX dX8_odds_18 (fun c2 => absurd g1 c2) (fun c2 => ?_)
  refine r_iload_n 22 hX dX8_odds_21 rfl ?_
  refine r_iconst 23 hX dX8_odds_22 (v := 0) (by decide) ?_
  refine r_iconst 24 hX dX8_odds_23 (v := 5) (by decide) ?_
  refine r_cS3F 27 hX hR tX8_in dX8_odds_24 kX8_in lX8_67 rfl rfl rfl ?_
  refine r_Beq 30 37 hX dX8_odds_27 (fun c3 => absurd g2 c3) (fun c3 => ?_)
  refine r_iload_n 31 hX dX8_odds_30 rfl ?_
  refine r_cS1F 34 hX hR tX8_isTeam_1 dX8_odds_31 kX8_isTeam lX8_71 rfl rfl rfl ?_
  refine r_if_ne 37 39 hX dX8_odds_34 (fun _ => ?_) (fun c => absurd c (by decide))
  refine r_aload_n 40 hX dX8_odds_39 rfl ?_
  refine r_cV0U 43 hX hR tX8_countNow dX8_odds_40 kX8_countNow lX8_174 rfl rfl rfl rfl rfl rfl ?_
  refine r_aload_n 44 hX dX8_odds_43 rfl ?_
  refine r_iload_n 45 hX dX8_odds_44 rfl ?_
  refine r_iload_n 46 hX dX8_odds_45 rfl ?_
  refine r_iload_n 47 hX dX8_odds_46 rfl ?_
  refine r_cV3F 50 hX hR (tX8_oddsOf_1 (by omega) (by omega) hP) dX8_odds_47 kX8_oddsOf lX8_177 rfl rfl rfl rfl rfl rfl ?_
  refine r_iret hX hT dX8_odds_50 ?_
  exact ⟨rfl, rfl⟩

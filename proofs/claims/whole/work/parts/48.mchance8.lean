/-! chances of the model: now, chance, weight -/
/-- the cells that the model's chances keep -/
def frM (M N : mx_Mem) : Prop := (∀ k, k ≠ 58 → k ≠ 59 → N.1 k = M.1 k) ∧ ∀ k, k ≠ 60 → N.2 k = M.2 k
theorem frM_tr {A B C : mx_Mem} (h : frM A B) (g : frM B C) : frM A C := ⟨fun k h1 h2 => (g.1 k h1 h2).trans (h.1 k h1 h2), fun k h1 => (g.2 k h1).trans (h.2 k h1)⟩
theorem frM_fl {M N : mx_Mem} {tg cap : Nat} (h : flI M tg cap N) : frM M N := ⟨fun k _ h2 => h.1.1 k h2, h.1.2⟩
theorem frM_cn (M : mx_Mem) : frM M (cnM M) := ⟨fun k h1 _ => cnM_ne M h1, fun k _ => by rw [cnM_2]⟩
/-- a set that is on -/
def MO (M : mx_Mem) (s p0 p1 tg cap : Nat) : Prop := (M.1 52 2 = nI s ∧ M.1 52 6 = nI p0 ∧ M.1 52 56 = nI p1) ∧ (tgM M = nI tg ∧ M.1 49 1 = nI cap) ∧ tg ≤ 100 ∧ cap ≤ 30 ∧ p0 ≤ cap ∧ p1 ≤ cap ∧ s < 2
theorem tgM_fr {M N : mx_Mem} (h : frM M N) : tgM N = tgM M := by
  unfold tgM
  simp only [h.1 52 (by decide) (by decide), h.1 49 (by decide) (by decide)]
theorem MO_fr {M N : mx_Mem} {s p0 p1 tg cap : Nat} (h : frM M N) (hS : MO M s p0 p1 tg cap) : MO N s p0 p1 tg cap := by
  unfold MO
  rw [tgM_fr h, h.1 52 (by decide) (by decide), h.1 49 (by decide) (by decide)]
  exact hS
set_option maxRecDepth 100000 in
set_option maxHeartbeats 4000000 in
theorem tX8_now {l : Launch} {G : mx_G} {s p0 p1 tg cap v : Nat} {M : mx_Mem} (hS : MO M s p0 p1 tg cap) (hv : M.2 60 (ceN p0 p1 s 0 0) = lN v) : mx_Met l G yX8_now cX8_now 1 ((some FieldType.int)) 1 24 [.ref 46] M (mx_F (some (.int (nI v))) M) := by
  refine mx_enter (own := RX8) (L := [.ref 46]) (by decide +kernel) rfl rfl rfl ?_
  intro X hlX hX hR hT
  obtain ⟨⟨e1, e2, e3⟩, ⟨e4, e5⟩, e6, e7, e8, e9, e10⟩ := hS
  have l0 := ce_lt (a := p0) (b := p1) (s := s) (i := 0) (j := 0) (by omega) (by omega) e10 (by decide) (by decide)
  refine r_aload_n 1 hX dX8_now_0 rfl ?_
  refine r_getR 4 hX dX8_now_1 fX8_52 rfl rfl rfl ?_
  refine r_aload_n 5 hX dX8_now_4 rfl ?_
  refine r_iconst 6 hX dX8_now_5 (v := 0) (by decide) ?_
  refine r_iconst 7 hX dX8_now_6 (v := 0) (by decide) ?_
  refine r_cV2F 10 hX hR (tX8_get (t := 0) (k := 0) (n := 6) rfl (by decide)) dX8_now_7 kX8_get lX8_95 rfl rfl rfl rfl rfl rfl ?_
  rw [e2]
  refine r_aload_n 11 hX dX8_now_10 rfl ?_
  refine r_iconst 12 hX dX8_now_11 (v := 1) (by decide) ?_
  refine r_iconst 13 hX dX8_now_12 (v := 0) (by decide) ?_
  refine r_cV2F 16 hX hR (tX8_get (t := 1) (k := 0) (n := 56) rfl (by decide)) dX8_now_13 kX8_get lX8_95 rfl rfl rfl rfl rfl rfl ?_
  rw [e3]
  refine r_aload_n 17 hX dX8_now_16 rfl ?_
  refine r_getR 20 hX dX8_now_17 fX8_26 rfl rfl rfl ?_
  refine r_iconst 21 hX dX8_now_20 (v := 2) (by decide) ?_
  refine r_ialdV 22 hX dX8_now_21 rfl rfl (vpK rfl) (j := 2) (by decide) (v := nI s) e1 ?_
  refine r_iconst 23 hX dX8_now_22 (v := 0) (by decide) ?_
  refine r_iconst 24 hX dX8_now_23 (v := 0) (by decide) ?_
  refine r_cS5F 27 hX hR (tX8_cell (a := p0) (b := p1) (s := s) (i := 0) (j := 0)) dX8_now_24 kX8_cell lX8_184 rfl rfl rfl ?_
  refine r_laldV 28 hX dX8_now_27 rfl rfl (vp_in_nI l0 (by decide)) (nI_clamp (by omega)) (v := lN v) hv ?_
  refine r_l2i 29 hX dX8_now_28 ?_
  rw [lN_i]
  refine r_iret hX hT dX8_now_29 ?_
  exact ⟨rfl, rfl⟩
set_option maxRecDepth 100000 in
set_option maxHeartbeats 4000000 in
theorem tX8_chance_off {l : Launch} {G : mx_G} {M : mx_Mem} (ho : ¬ M.1 52 1 = 1) : mx_Met l G yX8_chance cX8_chance 1 ((some FieldType.int)) 4 104 [.ref 46] M (mx_F (some (.int (-1))) (mI M 46 13 0)) := by
  refine mx_enter (own := RX8) (L := [.ref 46]) (by decide +kernel) rfl rfl rfl ?_
  intro X hlX hX hR hT
  refine r_aload_n 1 hX dX8_chance_0 rfl ?_
  refine r_iconst 2 hX dX8_chance_1 (v := 0) (by decide) ?_
  refine r_putI 5 hX dX8_chance_2 fX8_63 fp8_13 rfl rfl rfl ?_
  refine r_aload_n 6 hX dX8_chance_5 rfl ?_
  refine r_cV0F 9 hX hR tX8_isOn dX8_chance_6 kX8_isOn lX8_82 rfl rfl rfl rfl rfl rfl ?_
  refine r_Bne 12 14 hX dX8_chance_9 (fun c1 => absurd c1 ho) (fun c1 => ?_)
  refine r_iconst 13 hX dX8_chance_12 (v := -1) (by decide) ?_
  refine r_iret hX hT dX8_chance_13 ?_
  exact ⟨rfl, rfl⟩
set_option maxRecDepth 100000 in
set_option maxHeartbeats 4000000 in
theorem tX8_weight_off {l : Launch} {G : mx_G} {M : mx_Mem} (ho : ¬ M.1 52 1 = 1) : mx_Met l G yX8_weight cX8_weight 8 ((some FieldType.int)) 4 104 [.ref 46] M (mx_F (some (.int (-1))) (mI M 46 13 0)) := by
  refine mx_enter (own := RX8) (L := [.ref 46, .null, .null, .null, .null, .null, .null, .null]) (by decide +kernel) rfl rfl rfl ?_
  intro X hlX hX hR hT
  refine r_aload_n 1 hX dX8_weight_0 rfl ?_
  refine r_iconst 2 hX dX8_weight_1 (v := 0) (by decide) ?_
  refine r_putI 5 hX dX8_weight_2 fX8_63 fp8_13 rfl rfl rfl ?_
  refine r_aload_n 6 hX dX8_weight_5 rfl ?_
  refine r_cV0F 9 hX hR tX8_isOn dX8_weight_6 kX8_isOn lX8_82 rfl rfl rfl rfl rfl rfl ?_
  refine r_Bne 12 14 hX dX8_weight_9 (fun c1 => absurd c1 ho) (fun c1 => ?_)
  refine r_iconst 13 hX dX8_weight_12 (v := -1) (by decide) ?_
  refine r_iret hX hT dX8_weight_13 ?_
  exact ⟨rfl, rfl⟩
set_option maxRecDepth 100000 in
set_option maxHeartbeats 4000000 in
theorem tX8_chance_on {l : Launch} {G : mx_G} {s p0 p1 tg cap : Nat} {M : mx_Mem} (ho : M.1 52 1 = 1) (hS : MO (mI M 46 13 0) s p0 p1 tg cap) (hP : ∀ k : Nat, k < 12 → isP ((cnM (mI M 46 13 0)).1 58 k)) : mx_Met l G yX8_chance cX8_chance 1 ((some FieldType.int)) 4 104 [.ref 46] M ((fun r N => r = some (.int (nI (UU tg cap (moN (cnM (mI M 46 13 0))) p0 p1 s 0 0))) ∧ frM (mI M 46 13 0) N)) := by
  refine mx_enter (own := RX8) (L := [.ref 46]) (by decide +kernel) rfl rfl rfl ?_
  intro X hlX hX hR hT
  have hC := MO_fr (frM_cn (mI M 46 13 0)) hS
  refine r_aload_n 1 hX dX8_chance_0 rfl ?_
  refine r_iconst 2 hX dX8_chance_1 (v := 0) (by decide) ?_
  refine r_putI 5 hX dX8_chance_2 fX8_63 fp8_13 rfl rfl rfl ?_
  refine r_aload_n 6 hX dX8_chance_5 rfl ?_
  refine r_cV0F 9 hX hR tX8_isOn dX8_chance_6 kX8_isOn lX8_82 rfl rfl rfl rfl rfl rfl ?_
  refine r_Bne 12 14 hX dX8_chance_9 (fun c1 => ?_) (fun c1 => absurd ho c1)
  refine r_aload_n 15 hX dX8_chance_14 rfl ?_
  refine r_cV0U 18 hX hR tX8_countNow dX8_chance_15 kX8_countNow lX8_174 rfl rfl rfl rfl rfl rfl ?_
  refine r_aload_n 19 hX dX8_chance_18 rfl ?_
  refine r_aload_n 20 hX dX8_chance_19 rfl ?_
  refine r_cV0F 23 hX hR tX8_goal dX8_chance_20 kX8_goal lX8_102 rfl rfl rfl rfl rfl rfl ?_
  rw [hC.2.1.1]
  refine r_cV1G 26 hX hR (tX8_fill hC.2.2.1 hC.2.2.2.1 hC.2.1.2 hP) dX8_chance_23 kX8_fill lX8_194 rfl rfl rfl rfl rfl rfl (fun r9 M9 hp9 => ?_)
  obtain ⟨rfl, hI9⟩ := hp9
  show mx_WW G X 26 _ [] M9
  have hM := MO_fr (frM_fl hI9) hC
  refine r_aload_n 27 hX dX8_chance_26 rfl ?_
  refine r_cV0F 30 hX hR (tX8_now hM (hI9.2 p0 p1 hC.2.2.2.2.1 hC.2.2.2.2.2.1 s 0 0 hC.2.2.2.2.2.2 (by decide) (by decide))) dX8_chance_27 kX8_now lX8_197 rfl rfl rfl rfl rfl rfl ?_
  refine r_iret hX hT dX8_chance_30 ?_
  exact ⟨rfl, frM_tr (frM_cn _) (frM_fl hI9)⟩

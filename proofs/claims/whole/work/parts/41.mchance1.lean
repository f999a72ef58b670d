/-! chances of the model: a rally -/
set_option maxRecDepth 100000 in
set_option maxHeartbeats 4000000 in
theorem tX8_later_0 {l : Launch} {G : mx_G} {p r : Nat} {M : mx_Mem} (hn : p + r < 12) : mx_Met l G yX8_later cX8_later 4 ((some FieldType.int)) 0 0 [.ref 46, .int 0, .int (nI p), .int (nI r)] M (mx_F (some (.int (M.1 58 (0 + (p + r) % 6)))) M) := by
  refine mx_enter (own := RX8) (L := [.ref 46, .int 0, .int (nI p), .int (nI r)]) (by decide +kernel) rfl rfl rfl ?_
  intro X hlX hX hR hT
  have g1 := mx_r6 (p + r) hn
  refine r_aload_n 1 hX dX8_later_0 rfl ?_
  refine r_getR 4 hX dX8_later_1 fX8_45 rfl rfl rfl ?_
  refine r_bipush 6 hX dX8_later_4 (v := 6) (by decide) ?_
  refine r_iload_n 7 hX dX8_later_6 rfl ?_
  refine r_imulK 8 hX dX8_later_7 (w := 0) (by decide) ?_
  refine r_iload_n 9 hX dX8_later_8 rfl ?_
  refine r_iload_n 10 hX dX8_later_9 rfl ?_
  refine r_iadd 11 hX dX8_later_10 ?_
  rw [nI_add]
  refine r_bipush 13 hX dX8_later_11 (v := 6) (by decide) ?_
  refine r_irem 14 hX dX8_later_13 (by decide) ?_
  rw [g1]
  refine r_iadd 15 hX dX8_later_14 ?_
  refine mx_top (show (0 : Int32) + nI ((p + r) % 6) = nI (0 + (p + r) % 6) from nI_add 0 _) ?_
  refine r_ialdK 16 hX dX8_later_15 rfl rfl (vp_in_nI (show 0 + (p + r) % 6 < 12 by omega) (by decide)) (j := 0 + (p + r) % 6) (nI_clamp (by omega)) ?_
  refine r_iret hX hT dX8_later_16 ?_
  exact ⟨rfl, rfl⟩
set_option maxRecDepth 100000 in
set_option maxHeartbeats 4000000 in
theorem tX8_later_1 {l : Launch} {G : mx_G} {p r : Nat} {M : mx_Mem} (hn : p + r < 12) : mx_Met l G yX8_later cX8_later 4 ((some FieldType.int)) 0 0 [.ref 46, .int 1, .int (nI p), .int (nI r)] M (mx_F (some (.int (M.1 58 (6 + (p + r) % 6)))) M) := by
  refine mx_enter (own := RX8) (L := [.ref 46, .int 1, .int (nI p), .int (nI r)]) (by decide +kernel) rfl rfl rfl ?_
  intro X hlX hX hR hT
  have g1 := mx_r6 (p + r) hn
  refine r_aload_n 1 hX dX8_later_0 rfl ?_
  refine r_getR 4 hX dX8_later_1 fX8_45 rfl rfl rfl ?_
  refine r_bipush 6 hX dX8_later_4 (v := 6) (by decide) ?_
  refine r_iload_n 7 hX dX8_later_6 rfl ?_
  refine r_imulK 8 hX dX8_later_7 (w := 6) (by decide) ?_
  refine r_iload_n 9 hX dX8_later_8 rfl ?_
  refine r_iload_n 10 hX dX8_later_9 rfl ?_
  refine r_iadd 11 hX dX8_later_10 ?_
  rw [nI_add]
  refine r_bipush 13 hX dX8_later_11 (v := 6) (by decide) ?_
  refine r_irem 14 hX dX8_later_13 (by decide) ?_
  rw [g1]
  refine r_iadd 15 hX dX8_later_14 ?_
  refine mx_top (show (6 : Int32) + nI ((p + r) % 6) = nI (6 + (p + r) % 6) from nI_add 6 _) ?_
  refine r_ialdK 16 hX dX8_later_15 rfl rfl (vp_in_nI (show 6 + (p + r) % 6 < 12 by omega) (by decide)) (j := 6 + (p + r) % 6) (nI_clamp (by omega)) ?_
  refine r_iret hX hT dX8_later_16 ?_
  exact ⟨rfl, rfl⟩
def msk (M : mx_Mem) (t : Nat) (v : Int32) (w : Nat) : Int32 := M.1 47 ((12 * t + v.toNatClampNeg) * 4 + w)
theorem tX8_skillOfP {l : Launch} {G : mx_G} {t w : Nat} {v : Int32} {M : mx_Mem} (ht : t ≤ 1) (hw : w ≤ 3) (hv : isP v) : mx_Met l G yX8_skillOf cX8_skillOf 4 ((some FieldType.int)) 0 0 [.ref 46, .int (nI t), .int v, .int (nI w)] M (mx_F (some (.int (msk M t v w))) M) := by
  obtain ⟨k, hk, rfl⟩ := isP_n hv
  unfold msk
  rw [nI_clamp (by omega)]
  exact tX8_skillOf (by omega)
def ms (M : mx_Mem) (t j w : Nat) : Int32 := msk M t (M.1 58 (6 * t + j)) w
def msm (M : mx_Mem) (t r w a b c : Nat) : Int32 := ms M t ((a + r) % 6) w + ms M t ((b + r) % 6) w + ms M t ((c + r) % 6) w
set_option maxRecDepth 100000 in
set_option maxHeartbeats 4000000 in
theorem tX8_sum_0_1 {l : Launch} {G : mx_G} {r : Nat} {M : mx_Mem} (hr : r ≤ 6) (hP : ∀ k : Nat, k < 12 → isP (M.1 58 k)) : mx_Met l G yX8_sum cX8_sum 7 ((some FieldType.int)) 1 23 [.ref 46, .int 0, .int (nI r), .int 1, .int 0, .int 4, .int 5] M (mx_F (some (.int (msm M 0 r 1 0 4 5))) M) := by
  refine mx_enter (own := RX8) (L := [.ref 46, .int 0, .int (nI r), .int 1, .int 0, .int 4, .int 5]) (by decide +kernel) rfl rfl rfl ?_
  intro X hlX hX hR hT
  refine r_aload_n 1 hX dX8_sum_0 rfl ?_
  refine r_iload_n 2 hX dX8_sum_1 rfl ?_
  refine r_aload_n 3 hX dX8_sum_2 rfl ?_
  refine r_iload_n 4 hX dX8_sum_3 rfl ?_
  refine r_iload 6 hX dX8_sum_4 rfl ?_
  refine r_iload_n 7 hX dX8_sum_6 rfl ?_
  refine r_cV3F 10 hX hR (tX8_later_0 (p := 0) (r := r) (by omega)) dX8_sum_7 kX8_later lX8_164 rfl rfl rfl rfl rfl rfl ?_
  refine r_iload_n 11 hX dX8_sum_10 rfl ?_
  refine r_cV3F 14 hX hR (tX8_skillOfP (t := 0) (w := 1) (by decide) (by decide) (hP _ (by omega))) dX8_sum_11 kX8_skillOf lX8_78 rfl rfl rfl rfl rfl rfl ?_
  refine r_aload_n 15 hX dX8_sum_14 rfl ?_
  refine r_iload_n 16 hX dX8_sum_15 rfl ?_
  refine r_aload_n 17 hX dX8_sum_16 rfl ?_
  refine r_iload_n 18 hX dX8_sum_17 rfl ?_
  refine r_iload 20 hX dX8_sum_18 rfl ?_
  refine r_iload_n 21 hX dX8_sum_20 rfl ?_
  refine r_cV3F 24 hX hR (tX8_later_0 (p := 4) (r := r) (by omega)) dX8_sum_21 kX8_later lX8_164 rfl rfl rfl rfl rfl rfl ?_
  refine r_iload_n 25 hX dX8_sum_24 rfl ?_
  refine r_cV3F 28 hX hR (tX8_skillOfP (t := 0) (w := 1) (by decide) (by decide) (hP _ (by omega))) dX8_sum_25 kX8_skillOf lX8_78 rfl rfl rfl rfl rfl rfl ?_
  refine r_iadd 29 hX dX8_sum_28 ?_
  refine r_aload_n 30 hX dX8_sum_29 rfl ?_
  refine r_iload_n 31 hX dX8_sum_30 rfl ?_
  refine r_aload_n 32 hX dX8_sum_31 rfl ?_
  refine r_iload_n 33 hX dX8_sum_32 rfl ?_
  refine r_iload 35 hX dX8_sum_33 rfl ?_
  refine r_iload_n 36 hX dX8_sum_35 rfl ?_
  refine r_cV3F 39 hX hR (tX8_later_0 (p := 5) (r := r) (by omega)) dX8_sum_36 kX8_later lX8_164 rfl rfl rfl rfl rfl rfl ?_
  refine r_iload_n 40 hX dX8_sum_39 rfl ?_
  refine r_cV3F 43 hX hR (tX8_skillOfP (t := 0) (w := 1) (by decide) (by decide) (hP _ (by omega))) dX8_sum_40 kX8_skillOf lX8_78 rfl rfl rfl rfl rfl rfl ?_
  refine r_iadd 44 hX dX8_sum_43 ?_
  refine r_iret hX hT dX8_sum_44 ?_
  exact ⟨rfl, rfl⟩
set_option maxRecDepth 100000 in
set_option maxHeartbeats 4000000 in
theorem tX8_sum_0_3 {l : Launch} {G : mx_G} {r : Nat} {M : mx_Mem} (hr : r ≤ 6) (hP : ∀ k : Nat, k < 12 → isP (M.1 58 k)) : mx_Met l G yX8_sum cX8_sum 7 ((some FieldType.int)) 1 23 [.ref 46, .int 0, .int (nI r), .int 3, .int 1, .int 2, .int 3] M (mx_F (some (.int (msm M 0 r 3 1 2 3))) M) := by
  refine mx_enter (own := RX8) (L := [.ref 46, .int 0, .int (nI r), .int 3, .int 1, .int 2, .int 3]) (by decide +kernel) rfl rfl rfl ?_
  intro X hlX hX hR hT
  refine r_aload_n 1 hX dX8_sum_0 rfl ?_
  refine r_iload_n 2 hX dX8_sum_1 rfl ?_
  refine r_aload_n 3 hX dX8_sum_2 rfl ?_
  refine r_iload_n 4 hX dX8_sum_3 rfl ?_
  refine r_iload 6 hX dX8_sum_4 rfl ?_
  refine r_iload_n 7 hX dX8_sum_6 rfl ?_
  refine r_cV3F 10 hX hR (tX8_later_0 (p := 1) (r := r) (by omega)) dX8_sum_7 kX8_later lX8_164 rfl rfl rfl rfl rfl rfl ?_
  refine r_iload_n 11 hX dX8_sum_10 rfl ?_
  refine r_cV3F 14 hX hR (tX8_skillOfP (t := 0) (w := 3) (by decide) (by decide) (hP _ (by omega))) dX8_sum_11 kX8_skillOf lX8_78 rfl rfl rfl rfl rfl rfl ?_
  refine r_aload_n 15 hX dX8_sum_14 rfl ?_
  refine r_iload_n 16 hX dX8_sum_15 rfl ?_
  refine r_aload_n 17 hX dX8_sum_16 rfl ?_
  refine r_iload_n 18 hX dX8_sum_17 rfl ?_
  refine r_iload 20 hX dX8_sum_18 rfl ?_
  refine r_iload_n 21 hX dX8_sum_20 rfl ?_
  refine r_cV3F 24 hX hR (tX8_later_0 (p := 2) (r := r) (by omega)) dX8_sum_21 kX8_later lX8_164 rfl rfl rfl rfl rfl rfl ?_
  refine r_iload_n 25 hX dX8_sum_24 rfl ?_
  refine r_cV3F 28 hX hR (tX8_skillOfP (t := 0) (w := 3) (by decide) (by decide) (hP _ (by omega))) dX8_sum_25 kX8_skillOf lX8_78 rfl rfl rfl rfl rfl rfl ?_
  refine r_iadd 29 hX dX8_sum_28 ?_
  refine r_aload_n 30 hX dX8_sum_29 rfl ?_
  refine r_iload_n 31 hX dX8_sum_30 rfl ?_
  refine r_aload_n 32 hX dX8_sum_31 rfl ?_
  refine r_iload_n 33 hX dX8_sum_32 rfl ?_
  refine r_iload 35 hX dX8_sum_33 rfl ?_
  refine r_iload_n 36 hX dX8_sum_35 rfl ?_
  refine r_cV3F 39 hX hR (tX8_later_0 (p := 3) (r := r) (by omega)) dX8_sum_36 kX8_later lX8_164 rfl rfl rfl rfl rfl rfl ?_
  refine r_iload_n 40 hX dX8_sum_39 rfl ?_
  refine r_cV3F 43 hX hR (tX8_skillOfP (t := 0) (w := 3) (by decide) (by decide) (hP _ (by omega))) dX8_sum_40 kX8_skillOf lX8_78 rfl rfl rfl rfl rfl rfl ?_
  refine r_iadd 44 hX dX8_sum_43 ?_
  refine r_iret hX hT dX8_sum_44 ?_
  exact ⟨rfl, rfl⟩
set_option maxRecDepth 100000 in
set_option maxHeartbeats 4000000 in
theorem tX8_sum_0_2 {l : Launch} {G : mx_G} {r : Nat} {M : mx_Mem} (hr : r ≤ 6) (hP : ∀ k : Nat, k < 12 → isP (M.1 58 k)) : mx_Met l G yX8_sum cX8_sum 7 ((some FieldType.int)) 1 23 [.ref 46, .int 0, .int (nI r), .int 2, .int 1, .int 2, .int 3] M (mx_F (some (.int (msm M 0 r 2 1 2 3))) M) := by
  refine mx_enter (own := RX8) (L := [.ref 46, .int 0, .int (nI r), .int 2, .int 1, .int 2, .int 3]) (by decide +kernel) rfl rfl rfl ?_
  intro X hlX hX hR hT
  refine r_aload_n 1 hX dX8_sum_0 rfl ?_
  refine r_iload_n 2 hX dX8_sum_1 rfl ?_
  refine r_aload_n 3 hX dX8_sum_2 rfl ?_
  refine r_iload_n 4 hX dX8_sum_3 rfl ?_
  refine r_iload 6 hX dX8_sum_4 rfl ?_
  refine r_iload_n 7 hX dX8_sum_6 rfl ?_
  refine r_cV3F 10 hX hR (tX8_later_0 (p := 1) (r := r) (by omega)) dX8_sum_7 kX8_later lX8_164 rfl rfl rfl rfl rfl rfl ?_
  refine r_iload_n 11 hX dX8_sum_10 rfl ?_
  refine r_cV3F 14 hX hR (tX8_skillOfP (t := 0) (w := 2) (by decide) (by decide) (hP _ (by omega))) dX8_sum_11 kX8_skillOf lX8_78 rfl rfl rfl rfl rfl rfl ?_
  refine r_aload_n 15 hX dX8_sum_14 rfl ?_
  refine r_iload_n 16 hX dX8_sum_15 rfl ?_
  refine r_aload_n 17 hX dX8_sum_16 rfl ?_
  refine r_iload_n 18 hX dX8_sum_17 rfl ?_
  refine r_iload 20 hX dX8_sum_18 rfl ?_
  refine r_iload_n 21 hX dX8_sum_20 rfl ?_
  refine r_cV3F 24 hX hR (tX8_later_0 (p := 2) (r := r) (by omega)) dX8_sum_21 kX8_later lX8_164 rfl rfl rfl rfl rfl rfl ?_
  refine r_iload_n 25 hX dX8_sum_24 rfl ?_
  refine r_cV3F 28 hX hR (tX8_skillOfP (t := 0) (w := 2) (by decide) (by decide) (hP _ (by omega))) dX8_sum_25 kX8_skillOf lX8_78 rfl rfl rfl rfl rfl rfl ?_
  refine r_iadd 29 hX dX8_sum_28 ?_
  refine r_aload_n 30 hX dX8_sum_29 rfl ?_
  refine r_iload_n 31 hX dX8_sum_30 rfl ?_
  refine r_aload_n 32 hX dX8_sum_31 rfl ?_
  refine r_iload_n 33 hX dX8_sum_32 rfl ?_
  refine r_iload 35 hX dX8_sum_33 rfl ?_
  refine r_iload_n 36 hX dX8_sum_35 rfl ?_
  refine r_cV3F 39 hX hR (tX8_later_0 (p := 3) (r := r) (by omega)) dX8_sum_36 kX8_later lX8_164 rfl rfl rfl rfl rfl rfl ?_
  refine r_iload_n 40 hX dX8_sum_39 rfl ?_
  refine r_cV3F 43 hX hR (tX8_skillOfP (t := 0) (w := 2) (by decide) (by decide) (hP _ (by omega))) dX8_sum_40 kX8_skillOf lX8_78 rfl rfl rfl rfl rfl rfl ?_
  refine r_iadd 44 hX dX8_sum_43 ?_
  refine r_iret hX hT dX8_sum_44 ?_
  exact ⟨rfl, rfl⟩
set_option maxRecDepth 100000 in
set_option maxHeartbeats 4000000 in
theorem tX8_sum_1_1 {l : Launch} {G : mx_G} {r : Nat} {M : mx_Mem} (hr : r ≤ 6) (hP : ∀ k : Nat, k < 12 → isP (M.1 58 k)) : mx_Met l G yX8_sum cX8_sum 7 ((some FieldType.int)) 1 23 [.ref 46, .int 1, .int (nI r), .int 1, .int 0, .int 4, .int 5] M (mx_F (some (.int (msm M 1 r 1 0 4 5))) M) := by
  refine mx_enter (own := RX8) (L := [.ref 46, .int 1, .int (nI r), .int 1, .int 0, .int 4, .int 5]) (by decide +kernel) rfl rfl rfl ?_
  intro X hlX hX hR hT
  refine r_aload_n 1 hX dX8_sum_0 rfl ?_
  refine r_iload_n 2 hX dX8_sum_1 rfl ?_
  refine r_aload_n 3 hX dX8_sum_2 rfl ?_
  refine r_iload_n 4 hX dX8_sum_3 rfl ?_
  refine r_iload 6 hX dX8_sum_4 rfl ?_
  refine r_iload_n 7 hX dX8_sum_6 rfl ?_
  refine r_cV3F 10 hX hR (tX8_later_1 (p := 0) (r := r) (by omega)) dX8_sum_7 kX8_later lX8_164 rfl rfl rfl rfl rfl rfl ?_
  refine r_iload_n 11 hX dX8_sum_10 rfl ?_
  refine r_cV3F 14 hX hR (tX8_skillOfP (t := 1) (w := 1) (by decide) (by decide) (hP _ (by omega))) dX8_sum_11 kX8_skillOf lX8_78 rfl rfl rfl rfl rfl rfl ?_
  refine r_aload_n 15 hX dX8_sum_14 rfl ?_
  refine r_iload_n 16 hX dX8_sum_15 rfl ?_
  refine r_aload_n 17 hX dX8_sum_16 rfl ?_
  refine r_iload_n 18 hX dX8_sum_17 rfl ?_
  refine r_iload 20 hX dX8_sum_18 rfl ?_
  refine r_iload_n 21 hX dX8_sum_20 rfl ?_
  refine r_cV3F 24 hX hR (tX8_later_1 (p := 4) (r := r) (by omega)) dX8_sum_21 kX8_later lX8_164 rfl rfl rfl rfl rfl rfl ?_
  refine r_iload_n 25 hX dX8_sum_24 rfl ?_
  refine r_cV3F 28 hX hR (tX8_skillOfP (t := 1) (w := 1) (by decide) (by decide) (hP _ (by omega))) dX8_sum_25 kX8_skillOf lX8_78 rfl rfl rfl rfl rfl rfl ?_
  refine r_iadd 29 hX dX8_sum_28 ?_
  refine r_aload_n 30 hX dX8_sum_29 rfl ?_
  refine r_iload_n 31 hX dX8_sum_30 rfl ?_
  refine r_aload_n 32 hX dX8_sum_31 rfl ?_
  refine r_iload_n 33 hX dX8_sum_32 rfl ?_
  refine r_iload 35 hX dX8_sum_33 rfl ?_
  refine r_iload_n 36 hX dX8_sum_35 rfl ?_
  refine r_cV3F 39 hX hR (tX8_later_1 (p := 5) (r := r) (by omega)) dX8_sum_36 kX8_later lX8_164 rfl rfl rfl rfl rfl rfl ?_
  refine r_iload_n 40 hX dX8_sum_39 rfl ?_
  refine r_cV3F 43 hX hR (tX8_skillOfP (t := 1) (w := 1) (by decide) (by decide) (hP _ (by omega))) dX8_sum_40 kX8_skillOf lX8_78 rfl rfl rfl rfl rfl rfl ?_
  refine r_iadd 44 hX dX8_sum_43 ?_
  refine r_iret hX hT dX8_sum_44 ?_
  exact ⟨rfl, rfl⟩
set_option maxRecDepth 100000 in
set_option maxHeartbeats 4000000 in
theorem tX8_sum_1_3 {l : Launch} {G : mx_G} {r : Nat} {M : mx_Mem} (hr : r ≤ 6) (hP : ∀ k : Nat, k < 12 → isP (M.1 58 k)) : mx_Met l G yX8_sum cX8_sum 7 ((some FieldType.int)) 1 23 [.ref 46, .int 1, .int (nI r), .int 3, .int 1, .int 2, .int 3] M (mx_F (some (.int (msm M 1 r 3 1 2 3))) M) := by
  refine mx_enter (own := RX8) (L := [.ref 46, .int 1, .int (nI r), .int 3, .int 1, .int 2, .int 3]) (by decide +kernel) rfl rfl rfl ?_
  intro X hlX hX hR hT
  refine r_aload_n 1 hX dX8_sum_0 rfl ?_
  refine r_iload_n 2 hX dX8_sum_1 rfl ?_
  refine r_aload_n 3 hX dX8_sum_2 rfl ?_
  refine r_iload_n 4 hX dX8_sum_3 rfl ?_
  refine r_iload 6 hX dX8_sum_4 rfl ?_
  refine r_iload_n 7 hX dX8_sum_6 rfl ?_
  refine r_cV3F 10 hX hR (tX8_later_1 (p := 1) (r := r) (by omega)) dX8_sum_7 kX8_later lX8_164 rfl rfl rfl rfl rfl rfl ?_
  refine r_iload_n 11 hX dX8_sum_10 rfl ?_
  refine r_cV3F 14 hX hR (tX8_skillOfP (t := 1) (w := 3) (by decide) (by decide) (hP _ (by omega))) dX8_sum_11 kX8_skillOf lX8_78 rfl rfl rfl rfl rfl rfl ?_
  refine r_aload_n 15 hX dX8_sum_14 rfl ?_
  refine r_iload_n 16 hX dX8_sum_15 rfl ?_
  refine r_aload_n 17 hX dX8_sum_16 rfl ?_
  refine r_iload_n 18 hX dX8_sum_17 rfl ?_
  refine r_iload 20 hX dX8_sum_18 rfl ?_
  refine r_iload_n 21 hX dX8_sum_20 rfl ?_
  refine r_cV3F 24 hX hR (tX8_later_1 (p := 2) (r := r) (by omega)) dX8_sum_21 kX8_later lX8_164 rfl rfl rfl rfl rfl rfl ?_
  refine r_iload_n 25 hX dX8_sum_24 rfl ?_
  refine r_cV3F 28 hX hR (tX8_skillOfP (t := 1) (w := 3) (by decide) (by decide) (hP _ (by omega))) dX8_sum_25 kX8_skillOf lX8_78 rfl rfl rfl rfl rfl rfl ?_
  refine r_iadd 29 hX dX8_sum_28 ?_
  refine r_aload_n 30 hX dX8_sum_29 rfl ?_
  refine r_iload_n 31 hX dX8_sum_30 rfl ?_
  refine r_aload_n 32 hX dX8_sum_31 rfl ?_
  refine r_iload_n 33 hX dX8_sum_32 rfl ?_
  refine r_iload 35 hX dX8_sum_33 rfl ?_
  refine r_iload_n 36 hX dX8_sum_35 rfl ?_
  refine r_cV3F 39 hX hR (tX8_later_1 (p := 3) (r := r) (by omega)) dX8_sum_36 kX8_later lX8_164 rfl rfl rfl rfl rfl rfl ?_
  refine r_iload_n 40 hX dX8_sum_39 rfl ?_
  refine r_cV3F 43 hX hR (tX8_skillOfP (t := 1) (w := 3) (by decide) (by decide) (hP _ (by omega))) dX8_sum_40 kX8_skillOf lX8_78 rfl rfl rfl rfl rfl rfl ?_
  refine r_iadd 44 hX dX8_sum_43 ?_
  refine r_iret hX hT dX8_sum_44 ?_
  exact ⟨rfl, rfl⟩
set_option maxRecDepth 100000 in
set_option maxHeartbeats 4000000 in
theorem tX8_sum_1_2 {l : Launch} {G : mx_G} {r : Nat} {M : mx_Mem} (hr : r ≤ 6) (hP : ∀ k : Nat, k < 12 → isP (M.1 58 k)) : mx_Met l G yX8_sum cX8_sum 7 ((some FieldType.int)) 1 23 [.ref 46, .int 1, .int (nI r), .int 2, .int 1, .int 2, .int 3] M (mx_F (some (.int (msm M 1 r 2 1 2 3))) M) := by
  refine mx_enter (own := RX8) (L := [.ref 46, .int 1, .int (nI r), .int 2, .int 1, .int 2, .int 3]) (by decide +kernel) rfl rfl rfl ?_
  intro X hlX hX hR hT
  refine r_aload_n 1 hX dX8_sum_0 rfl ?_
  refine r_iload_n 2 hX dX8_sum_1 rfl ?_
  refine r_aload_n 3 hX dX8_sum_2 rfl ?_
  refine r_iload_n 4 hX dX8_sum_3 rfl ?_
  refine r_iload 6 hX dX8_sum_4 rfl ?_
  refine r_iload_n 7 hX dX8_sum_6 rfl ?_
  refine r_cV3F 10 hX hR (tX8_later_1 (p := 1) (r := r) (by omega)) dX8_sum_7 kX8_later lX8_164 rfl rfl rfl rfl rfl rfl ?_
  refine r_iload_n 11 hX dX8_sum_10 rfl ?_
  refine r_cV3F 14 hX hR (tX8_skillOfP (t := 1) (w := 2) (by decide) (by decide) (hP _ (by omega))) dX8_sum_11 kX8_skillOf lX8_78 rfl rfl rfl rfl rfl rfl ?_
  refine r_aload_n 15 hX dX8_sum_14 rfl ?_
  refine r_iload_n 16 hX dX8_sum_15 rfl ?_
  refine r_aload_n 17 hX dX8_sum_16 rfl ?_
  refine r_iload_n 18 hX dX8_sum_17 rfl ?_
  refine r_iload 20 hX dX8_sum_18 rfl ?_
  refine r_iload_n 21 hX dX8_sum_20 rfl ?_
  refine r_cV3F 24 hX hR (tX8_later_1 (p := 2) (r := r) (by omega)) dX8_sum_21 kX8_later lX8_164 rfl rfl rfl rfl rfl rfl ?_
  refine r_iload_n 25 hX dX8_sum_24 rfl ?_
  refine r_cV3F 28 hX hR (tX8_skillOfP (t := 1) (w := 2) (by decide) (by decide) (hP _ (by omega))) dX8_sum_25 kX8_skillOf lX8_78 rfl rfl rfl rfl rfl rfl ?_
  refine r_iadd 29 hX dX8_sum_28 ?_
  refine r_aload_n 30 hX dX8_sum_29 rfl ?_
  refine r_iload_n 31 hX dX8_sum_30 rfl ?_
  refine r_aload_n 32 hX dX8_sum_31 rfl ?_
  refine r_iload_n 33 hX dX8_sum_32 rfl ?_
  refine r_iload 35 hX dX8_sum_33 rfl ?_
  refine r_iload_n 36 hX dX8_sum_35 rfl ?_
  refine r_cV3F 39 hX hR (tX8_later_1 (p := 3) (r := r) (by omega)) dX8_sum_36 kX8_later lX8_164 rfl rfl rfl rfl rfl rfl ?_
  refine r_iload_n 40 hX dX8_sum_39 rfl ?_
  refine r_cV3F 43 hX hR (tX8_skillOfP (t := 1) (w := 2) (by decide) (by decide) (hP _ (by omega))) dX8_sum_40 kX8_skillOf lX8_78 rfl rfl rfl rfl rfl rfl ?_
  refine r_iadd 44 hX dX8_sum_43 ?_
  refine r_iret hX hT dX8_sum_44 ?_
  exact ⟨rfl, rfl⟩
def mrc (M : mx_Mem) (t i j : Nat) : Int32 := clp (380 + ms M t ((0 + if t = 0 then i else j) % 6) 0 - msm M (1 - t) (if t = 0 then j else i) 1 0 4 5 / 3 + msm M t (if t = 0 then i else j) 3 1 2 3 / 3 - msm M (1 - t) (if t = 0 then j else i) 2 1 2 3 / 3)
set_option maxRecDepth 100000 in
set_option maxHeartbeats 4000000 in
theorem tX8_oddsOf_0 {l : Launch} {G : mx_G} {i j : Nat} {M : mx_Mem} (hi : i ≤ 6) (hj : j ≤ 6) (hP : ∀ k : Nat, k < 12 → isP (M.1 58 k)) : mx_Met l G yX8_oddsOf cX8_oddsOf 7 ((some FieldType.int)) 2 49 [.ref 46, .int (nI i), .int (nI j), .int 0] M (mx_F (some (.int (mrc M 0 i j))) M) := by
  refine mx_enter (own := RX8) (L := [.ref 46, .int (nI i), .int (nI j), .int 0, .null, .null, .null]) (by decide +kernel) rfl rfl rfl ?_
  intro X hlX hX hR hT
  refine r_iload_n 1 hX dX8_oddsOf_0 rfl ?_
  refine r_if_ne 4 8 hX dX8_oddsOf_1 (fun c => absurd c (by decide)) (fun _ => ?_)
  refine r_iload_n 5 hX dX8_oddsOf_4 rfl ?_
  refine r_goto 9 hX dX8_oddsOf_5 ?_
  refine r_istore 11 hX dX8_oddsOf_9 rfl ?_
  refine r_iload_n 12 hX dX8_oddsOf_11 rfl ?_
  refine r_if_ne 15 19 hX dX8_oddsOf_12 (fun c => absurd c (by decide)) (fun _ => ?_)
  refine r_iload_n 16 hX dX8_oddsOf_15 rfl ?_
  refine r_goto 20 hX dX8_oddsOf_16 ?_
  refine r_istore 22 hX dX8_oddsOf_20 rfl ?_
  refine r_sipush 25 hX dX8_oddsOf_22 (v := 380) (by decide) ?_
  refine r_aload_n 26 hX dX8_oddsOf_25 rfl ?_
  refine r_iload_n 27 hX dX8_oddsOf_26 rfl ?_
  refine r_aload_n 28 hX dX8_oddsOf_27 rfl ?_
  refine r_iload_n 29 hX dX8_oddsOf_28 rfl ?_
  refine r_iconst 30 hX dX8_oddsOf_29 (v := 0) (by decide) ?_
  refine r_iload 32 hX dX8_oddsOf_30 rfl ?_
  refine r_cV3F 35 hX hR (tX8_later_0 (p := 0) (r := i) (by omega)) dX8_oddsOf_32 kX8_later lX8_164 rfl rfl rfl rfl rfl rfl ?_
  refine r_iconst 36 hX dX8_oddsOf_35 (v := 0) (by decide) ?_
  refine r_cV3F 39 hX hR (tX8_skillOfP (t := 0) (w := 0) (by decide) (by decide) (hP _ (by omega))) dX8_oddsOf_36 kX8_skillOf lX8_78 rfl rfl rfl rfl rfl rfl ?_
  refine r_iadd 40 hX dX8_oddsOf_39 ?_
  refine r_aload_n 41 hX dX8_oddsOf_40 rfl ?_
  refine r_iconst 42 hX dX8_oddsOf_41 (v := 1) (by decide) ?_
  refine r_iload_n 43 hX dX8_oddsOf_42 rfl ?_
  refine r_isubK 44 hX dX8_oddsOf_43 (w := 1) (by decide) ?_
  refine r_iload 46 hX dX8_oddsOf_44 rfl ?_
  refine r_iconst 47 hX dX8_oddsOf_46 (v := 1) (by decide) ?_
  refine r_iconst 48 hX dX8_oddsOf_47 (v := 0) (by decide) ?_
  refine r_iconst 49 hX dX8_oddsOf_48 (v := 4) (by decide) ?_
  refine r_iconst 50 hX dX8_oddsOf_49 (v := 5) (by decide) ?_
  refine r_cV6F 53 hX hR (tX8_sum_1_1 (r := j) (by omega) hP) dX8_oddsOf_50 kX8_sum lX8_167 rfl rfl rfl rfl rfl rfl ?_
  refine r_iconst 54 hX dX8_oddsOf_53 (v := 3) (by decide) ?_
  refine r_idiv 55 hX dX8_oddsOf_54 (by decide) ?_
  refine r_isub 56 hX dX8_oddsOf_55 ?_
  refine r_aload_n 57 hX dX8_oddsOf_56 rfl ?_
  refine r_iload_n 58 hX dX8_oddsOf_57 rfl ?_
  refine r_iload 60 hX dX8_oddsOf_58 rfl ?_
  refine r_iconst 61 hX dX8_oddsOf_60 (v := 3) (by decide) ?_
  refine r_iconst 62 hX dX8_oddsOf_61 (v := 1) (by decide) ?_
  refine r_iconst 63 hX dX8_oddsOf_62 (v := 2) (by decide) ?_
  refine r_iconst 64 hX dX8_oddsOf_63 (v := 3) (by decide) ?_
  refine r_cV6F 67 hX hR (tX8_sum_0_3 (r := i) (by omega) hP) dX8_oddsOf_64 kX8_sum lX8_167 rfl rfl rfl rfl rfl rfl ?_
  refine r_iconst 68 hX dX8_oddsOf_67 (v := 3) (by decide) ?_
  refine r_idiv 69 hX dX8_oddsOf_68 (by decide) ?_
  refine r_iadd 70 hX dX8_oddsOf_69 ?_
  refine r_aload_n 71 hX dX8_oddsOf_70 rfl ?_
  refine r_iconst 72 hX dX8_oddsOf_71 (v := 1) (by decide) ?_
  refine r_iload_n 73 hX dX8_oddsOf_72 rfl ?_
  refine r_isubK 74 hX dX8_oddsOf_73 (w := 1) (by decide) ?_
  refine r_iload 76 hX dX8_oddsOf_74 rfl ?_
  refine r_iconst 77 hX dX8_oddsOf_76 (v := 2) (by decide) ?_
  refine r_iconst 78 hX dX8_oddsOf_77 (v := 1) (by decide) ?_
  refine r_iconst 79 hX dX8_oddsOf_78 (v := 2) (by decide) ?_
  refine r_iconst 80 hX dX8_oddsOf_79 (v := 3) (by decide) ?_
  refine r_cV6F 83 hX hR (tX8_sum_1_2 (r := j) (by omega) hP) dX8_oddsOf_80 kX8_sum lX8_167 rfl rfl rfl rfl rfl rfl ?_
  refine r_iconst 84 hX dX8_oddsOf_83 (v := 3) (by decide) ?_
  refine r_idiv 85 hX dX8_oddsOf_84 (by decide) ?_
  refine r_isub 86 hX dX8_oddsOf_85 ?_
  refine r_istore 88 hX dX8_oddsOf_86 rfl ?_
  refine (show mx_WW G X 88 [_, _, _, _, _, _, _] _ _ from ?_)
  refine r_bipush 90 hX dX8_oddsOf_88 (v := 50) (by decide) ?_
  refine r_sipush 93 hX dX8_oddsOf_90 (v := 950) (by decide) ?_
  refine r_iload 95 hX dX8_oddsOf_93 rfl ?_
  refine r_mmin 98 hX hR dX8_oddsOf_95 lX8_147 rfl rfl rfl ?_
  refine r_mmax 101 hX hR dX8_oddsOf_98 lX8_171 rfl rfl rfl ?_
  refine r_iret hX hT dX8_oddsOf_101 ?_
  exact ⟨rfl, rfl⟩
set_option maxRecDepth 100000 in
set_option maxHeartbeats 4000000 in
theorem tX8_oddsOf_1 {l : Launch} {G : mx_G} {i j : Nat} {M : mx_Mem} (hi : i ≤ 6) (hj : j ≤ 6) (hP : ∀ k : Nat, k < 12 → isP (M.1 58 k)) : mx_Met l G yX8_oddsOf cX8_oddsOf 7 ((some FieldType.int)) 2 49 [.ref 46, .int (nI i), .int (nI j), .int 1] M (mx_F (some (.int (mrc M 1 i j))) M) := by
  refine mx_enter (own := RX8) (L := [.ref 46, .int (nI i), .int (nI j), .int 1, .null, .null, .null]) (by decide +kernel) rfl rfl rfl ?_
  intro X hlX hX hR hT
  refine r_iload_n 1 hX dX8_oddsOf_0 rfl ?_
  refine r_if_ne 4 8 hX dX8_oddsOf_1 (fun _ => ?_) (fun c => absurd c (by decide))
  refine r_iload_n 9 hX dX8_oddsOf_8 rfl ?_
  refine r_istore 11 hX dX8_oddsOf_9 rfl ?_
  refine r_iload_n 12 hX dX8_oddsOf_11 rfl ?_
  refine r_if_ne 15 19 hX dX8_oddsOf_12 (fun _ => ?_) (fun c => absurd c (by decide))
  refine r_iload_n 20 hX dX8_oddsOf_19 rfl ?_
  refine r_istore 22 hX dX8_oddsOf_20 rfl ?_
  refine r_sipush 25 hX dX8_oddsOf_22 (v := 380) (by decide) ?_
  refine r_aload_n 26 hX dX8_oddsOf_25 rfl ?_
  refine r_iload_n 27 hX dX8_oddsOf_26 rfl ?_
  refine r_aload_n 28 hX dX8_oddsOf_27 rfl ?_
  refine r_iload_n 29 hX dX8_oddsOf_28 rfl ?_
  refine r_iconst 30 hX dX8_oddsOf_29 (v := 0) (by decide) ?_
  refine r_iload 32 hX dX8_oddsOf_30 rfl ?_
  refine r_cV3F 35 hX hR (tX8_later_1 (p := 0) (r := j) (by omega)) dX8_oddsOf_32 kX8_later lX8_164 rfl rfl rfl rfl rfl rfl ?_
  refine r_iconst 36 hX dX8_oddsOf_35 (v := 0) (by decide) ?_
  refine r_cV3F 39 hX hR (tX8_skillOfP (t := 1) (w := 0) (by decide) (by decide) (hP _ (by omega))) dX8_oddsOf_36 kX8_skillOf lX8_78 rfl rfl rfl rfl rfl rfl ?_
  refine r_iadd 40 hX dX8_oddsOf_39 ?_
  refine r_aload_n 41 hX dX8_oddsOf_40 rfl ?_
  refine r_iconst 42 hX dX8_oddsOf_41 (v := 1) (by decide) ?_
  refine r_iload_n 43 hX dX8_oddsOf_42 rfl ?_
  refine r_isubK 44 hX dX8_oddsOf_43 (w := 0) (by decide) ?_
  refine r_iload 46 hX dX8_oddsOf_44 rfl ?_
  refine r_iconst 47 hX dX8_oddsOf_46 (v := 1) (by decide) ?_
  refine r_iconst 48 hX dX8_oddsOf_47 (v := 0) (by decide) ?_
  refine r_iconst 49 hX dX8_oddsOf_48 (v := 4) (by decide) ?_
  refine r_iconst 50 hX dX8_oddsOf_49 (v := 5) (by decide) ?_
  refine r_cV6F 53 hX hR (tX8_sum_0_1 (r := i) (by omega) hP) dX8_oddsOf_50 kX8_sum lX8_167 rfl rfl rfl rfl rfl rfl ?_
  refine r_iconst 54 hX dX8_oddsOf_53 (v := 3) (by decide) ?_
  refine r_idiv 55 hX dX8_oddsOf_54 (by decide) ?_
  refine r_isub 56 hX dX8_oddsOf_55 ?_
  refine r_aload_n 57 hX dX8_oddsOf_56 rfl ?_
  refine r_iload_n 58 hX dX8_oddsOf_57 rfl ?_
  refine r_iload 60 hX dX8_oddsOf_58 rfl ?_
  refine r_iconst 61 hX dX8_oddsOf_60 (v := 3) (by decide) ?_
  refine r_iconst 62 hX dX8_oddsOf_61 (v := 1) (by decide) ?_
  refine r_iconst 63 hX dX8_oddsOf_62 (v := 2) (by decide) ?_
  refine r_iconst 64 hX dX8_oddsOf_63 (v := 3) (by decide) ?_
  refine r_cV6F 67 hX hR (tX8_sum_1_3 (r := j) (by omega) hP) dX8_oddsOf_64 kX8_sum lX8_167 rfl rfl rfl rfl rfl rfl ?_
  refine r_iconst 68 hX dX8_oddsOf_67 (v := 3) (by decide) ?_
  refine r_idiv 69 hX dX8_oddsOf_68 (by decide) ?_
  refine r_iadd 70 hX dX8_oddsOf_69 ?_
  refine r_aload_n 71 hX dX8_oddsOf_70 rfl ?_
  refine r_iconst 72 hX dX8_oddsOf_71 (v := 1) (by decide) ?_
  refine r_iload_n 73 hX dX8_oddsOf_72 rfl ?_
  refine r_isubK 74 hX dX8_oddsOf_73 (w := 0) (by decide) ?_
  refine r_iload 76 hX dX8_oddsOf_74 rfl ?_
  refine r_iconst 77 hX dX8_oddsOf_76 (v := 2) (by decide) ?_
  refine r_iconst 78 hX dX8_oddsOf_77 (v := 1) (by decide) ?_
  refine r_iconst 79 hX dX8_oddsOf_78 (v := 2) (by decide) ?_
  refine r_iconst 80 hX dX8_oddsOf_79 (v := 3) (by decide) ?_
  refine r_cV6F 83 hX hR (tX8_sum_0_2 (r := i) (by omega) hP) dX8_oddsOf_80 kX8_sum lX8_167 rfl rfl rfl rfl rfl rfl ?_
  refine r_iconst 84 hX dX8_oddsOf_83 (v := 3) (by decide) ?_
  refine r_idiv 85 hX dX8_oddsOf_84 (by decide) ?_
  refine r_isub 86 hX dX8_oddsOf_85 ?_
  refine r_istore 88 hX dX8_oddsOf_86 rfl ?_
  refine (show mx_WW G X 88 [_, _, _, _, _, _, _] _ _ from ?_)
  refine r_bipush 90 hX dX8_oddsOf_88 (v := 50) (by decide) ?_
  refine r_sipush 93 hX dX8_oddsOf_90 (v := 950) (by decide) ?_
  refine r_iload 95 hX dX8_oddsOf_93 rfl ?_
  refine r_mmin 98 hX hR dX8_oddsOf_95 lX8_147 rfl rfl rfl ?_
  refine r_mmax 101 hX hR dX8_oddsOf_98 lX8_171 rfl rfl rfl ?_
  refine r_iret hX hT dX8_oddsOf_101 ?_
  exact ⟨rfl, rfl⟩
def ceN (a b s i j : Nat) : Nat := (((a * 31 + b) * 2 + s) * 6 + i) * 6 + j
set_option maxRecDepth 100000 in
set_option maxHeartbeats 4000000 in
theorem tX8_cell {l : Launch} {G : mx_G} {a b s i j : Nat} {M : mx_Mem} : mx_Met l G yX8_cell cX8_cell 5 ((some FieldType.int)) 0 0 [.int (nI a), .int (nI b), .int (nI s), .int (nI i), .int (nI j)] M (mx_F (some (.int (nI (ceN a b s i j)))) M) := by
  refine mx_enter (own := RX8) (L := [.int (nI a), .int (nI b), .int (nI s), .int (nI i), .int (nI j)]) (by decide +kernel) rfl rfl rfl ?_
  intro X hlX hX hR hT
  refine r_iload_n 1 hX dX8_cell_0 rfl ?_
  refine r_bipush 3 hX dX8_cell_1 (v := 31) (by decide) ?_
  refine r_imul 4 hX dX8_cell_3 ?_
  refine r_iload_n 5 hX dX8_cell_4 rfl ?_
  refine r_iadd 6 hX dX8_cell_5 ?_
  refine r_iconst 7 hX dX8_cell_6 (v := 2) (by decide) ?_
  refine r_imul 8 hX dX8_cell_7 ?_
  refine r_iload_n 9 hX dX8_cell_8 rfl ?_
  refine r_iadd 10 hX dX8_cell_9 ?_
  refine r_bipush 12 hX dX8_cell_10 (v := 6) (by decide) ?_
  refine r_imul 13 hX dX8_cell_12 ?_
  refine r_iload_n 14 hX dX8_cell_13 rfl ?_
  refine r_iadd 15 hX dX8_cell_14 ?_
  refine r_bipush 17 hX dX8_cell_15 (v := 6) (by decide) ?_
  refine r_imul 18 hX dX8_cell_17 ?_
  refine r_iload 20 hX dX8_cell_18 rfl ?_
  refine r_iadd 21 hX dX8_cell_20 ?_
  refine r_iret hX hT dX8_cell_21 ?_
  exact ⟨by rw [show (31 : Int32) = nI 31 from rfl, show (2 : Int32) = nI 2 from rfl, show (6 : Int32) = nI 6 from rfl, pk_mul, nI_add, pk_mul, nI_add, pk_mul, nI_add, pk_mul, nI_add]; rfl, rfl⟩
theorem avg_l {c a b : Nat} (hc : c ≤ 1000) (ha : a ≤ 1000000000) (hb : b ≤ 1000000000) : ((nI c).toInt64 * lN a + (1000 - nI c).toInt64 * lN b) / 1000 = lN (avg c a b) := by
  have := avg_sum hc ha hb
  rw [show (1000 : Int32) - nI c = nI (1000 - c) from pk_sub hc, nI_l (by omega), nI_l (by omega), show (1000 : Int64) = lN 1000 from rfl, lN_mul, lN_mul, lN_add, pk_lDiv (by omega) (by omega) (by omega)]
  rfl
set_option maxRecDepth 100000 in
set_option maxHeartbeats 4000000 in
theorem tX8_mean {l : Launch} {G : mx_G} {c a b : Nat} {M : mx_Mem} (hc : c ≤ 1000) (ha : a ≤ 1000000000) (hb : b ≤ 1000000000) : mx_Met l G yX8_mean cX8_mean 5 ((some FieldType.long)) 0 0 [.int (nI c), .long (lN a), .long (lN b)] M (mx_F (some (.long (lN (avg c a b)))) M) := by
  refine mx_enter (own := RX8) (L := [.int (nI c), .long (lN a), .null, .long (lN b), .null]) (by decide +kernel) rfl rfl rfl ?_
  intro X hlX hX hR hT
  have g := avg_l hc ha hb
  refine r_iload_n 1 hX dX8_mean_0 rfl ?_
  refine r_i2l 2 hX dX8_mean_1 ?_
  refine r_lload_n 3 hX dX8_mean_2 rfl ?_
  refine r_lmul 4 hX dX8_mean_3 ?_
  refine r_sipush 7 hX dX8_mean_4 (v := 1000) (by decide) ?_
  refine r_iload_n 8 hX dX8_mean_7 rfl ?_
  refine r_isub 9 hX dX8_mean_8 ?_
  refine r_i2l 10 hX dX8_mean_9 ?_
  refine r_lload_n 11 hX dX8_mean_10 rfl ?_
  refine r_lmul 12 hX dX8_mean_11 ?_
  refine r_ladd 13 hX dX8_mean_12 ?_
  refine r_ldc2 16 hX dX8_mean_13 qX8_192 ?_
  refine r_ldiv 17 hX dX8_mean_16 (by decide) ?_
  rw [g]
  refine r_lret hX hT dX8_mean_17 ?_
  exact ⟨rfl, rfl⟩

/-! chances of the model: the odds by turns -/
theorem mrc_congr {M N : mx_Mem} (h1 : N.1 47 = M.1 47) (h2 : N.1 58 = M.1 58) (t i j : Nat) : mrc N t i j = mrc M t i j := by
  unfold mrc msm ms msk
  rw [h1, h2]
theorem od_ix (s i j : Nat) {K : Int32} (hK : nI (s * 6) = K) : (K + nI i) * 6 + nI j = nI ((s * 6 + i) * 6 + j) := by
  rw [← hK, nI_add, show (6 : Int32) = nI 6 from rfl, pk_mul, nI_add]
def odI (M : mx_Mem) (i j : Nat) (N : mx_Mem) : Prop := ((∀ k, k ≠ 59 → N.1 k = M.1 k) ∧ N.2 = M.2) ∧ ∀ i' j' s, (i' < i ∨ (i' = i ∧ j' < j)) → j' < 6 → s < 2 → N.1 59 ((s * 6 + i') * 6 + j') = mrc M s i' j'
theorem odI_s {M N : mx_Mem} {i j : Nat} (h : odI M i j N) (hi : i < 6) (hj : j < 6) : odI M i (j + 1) (mI (mI N 59 ((0 * 6 + i) * 6 + j) (mrc M 0 i j)) 59 ((1 * 6 + i) * 6 + j) (mrc M 1 i j)) := by
  obtain ⟨⟨h1, h2⟩, h3⟩ := h
  refine ⟨⟨fun k hk => ?_, h2⟩, fun i' j' s hd hj' hs => ?_⟩
  · funext x
    rw [mI_ne _ _ _ _ hk, mI_ne _ _ _ _ hk, h1 k hk]
  · rw [mI_ap, mI_ap]
    by_cases e : i' = i ∧ j' = j
    · obtain ⟨rfl, rfl⟩ := e
      have : s = 0 ∨ s = 1 := by omega
      rcases this with rfl | rfl
      · rw [if_neg (by omega), if_pos ⟨rfl, rfl⟩]
      · rw [if_pos ⟨rfl, rfl⟩]
    · rw [if_neg (by omega), if_neg (by omega)]
      exact h3 i' j' s (by omega) hj' hs
theorem odI_i {M N : mx_Mem} {i : Nat} (h : odI M i 6 N) : odI M (i + 1) 0 N := ⟨h.1, fun i' j' s hd hj hs => h.2 i' j' s (by omega) hj hs⟩
theorem odl {G : mx_G} {X : mx_X} {M : mx_Mem} {g : Int32} {w5 w6 w7 w8 w9 : Value} (hX : mx_OK G X RX8 cX8_fill 10) (hR : mx_RM X 3 75) (hP : ∀ k : Nat, k < 12 → isP (M.1 58 k)) (hE : ∀ N w3 w4, odI M 6 0 N → mx_WW G X 68 [.ref 46, .int g, .int 6, w3, w4, w5, w6, w7, w8, w9] [] N) : ∀ N w3 w4, odI M 0 0 N → mx_WW G X 2 [.ref 46, .int g, .int (nI 0), w3, w4, w5, w6, w7, w8, w9] [] N := by
  refine mx_back (P := fun i => ∀ N w3 w4, odI M i 0 N → mx_WW G X 2 [.ref 46, .int g, .int (nI i), w3, w4, w5, w6, w7, w8, w9] [] N) 6 (fun i hi ih => ?_) ?_
  · intro N w3 w4 hI
    have g1 : ¬ 6 ≤ nI i := nI_ge (b := 6) hi (by decide)
    refine r_iload_n 3 hX dX8_fill_2 rfl ?_
    refine r_bipush 5 hX dX8_fill_3 (v := 6) (by decide) ?_
    refine r_icmp_ge 8 68 hX dX8_fill_5 (fun c1 => absurd c1 g1) (fun c1 => ?_)
    refine r_iconst 9 hX dX8_fill_8 (v := 0) (by decide) ?_
    refine r_istore_n 10 hX dX8_fill_9 rfl ?_
    skip
    refine mx_back (P := fun j => ∀ N w4, odI M i j N → mx_WW G X 10 [.ref 46, .int g, .int (nI i), .int (nI j), w4, w5, w6, w7, w8, w9] [] N) 6 (fun j hj ihj => ?_) ?_ N w4 hI
    · intro N w4 hI
      have hF := hI.1.1
      have hPN : ∀ k : Nat, k < 12 → isP (N.1 58 k) := fun k hk => by rw [hF 58 (by decide)]; exact hP k hk
      have g2 : ¬ 6 ≤ nI j := nI_ge (b := 6) hj (by decide)
      refine r_iload_n 11 hX dX8_fill_10 rfl ?_
      refine r_bipush 13 hX dX8_fill_11 (v := 6) (by decide) ?_
      refine r_icmp_ge 16 62 hX dX8_fill_13 (fun c1 => absurd c1 g2) (fun c1 => ?_)
      refine r_iconst 17 hX dX8_fill_16 (v := 0) (by decide) ?_
      refine r_istore 19 hX dX8_fill_17 rfl ?_
      refine r_iload 21 hX dX8_fill_19 rfl ?_
      refine r_iconst 22 hX dX8_fill_21 (v := 2) (by decide) ?_
      refine r_icmp_ge 25 56 hX dX8_fill_22 (fun c => absurd c (by decide)) (fun _ => ?_)
      refine r_aload_n 26 hX dX8_fill_25 rfl ?_
      refine r_getR 29 hX dX8_fill_26 fX8_48 rfl rfl rfl ?_
      refine r_iload 31 hX dX8_fill_29 rfl ?_
      refine r_bipush 33 hX dX8_fill_31 (v := 6) (by decide) ?_
      refine r_imulK 34 hX dX8_fill_33 (w := 0) (by decide) ?_
      refine r_iload_n 35 hX dX8_fill_34 rfl ?_
      refine r_iadd 36 hX dX8_fill_35 ?_
      refine r_bipush 38 hX dX8_fill_36 (v := 6) (by decide) ?_
      refine r_imul 39 hX dX8_fill_38 ?_
      refine r_iload_n 40 hX dX8_fill_39 rfl ?_
      refine r_iadd 41 hX dX8_fill_40 ?_
      refine mx_top (od_ix 0 i j (by decide)) ?_
      refine r_aload_n 42 hX dX8_fill_41 rfl ?_
      refine r_iload_n 43 hX dX8_fill_42 rfl ?_
      refine r_iload_n 44 hX dX8_fill_43 rfl ?_
      refine r_iload 46 hX dX8_fill_44 rfl ?_
      refine r_cV3F 49 hX hR (tX8_oddsOf_0 (i := i) (j := j) (by omega) (by omega) (by first | exact hPN | (intro k hk; rw [mI_ne _ _ _ _ (by decide)]; exact hPN k hk))) dX8_fill_46 kX8_oddsOf lX8_177 rfl rfl rfl rfl rfl rfl ?_
      refine mx_top (y := mrc M 0 i j) (by apply mrc_congr <;> first | exact hF 47 (by decide) | exact hF 58 (by decide) | (funext j'; rw [mI_ne _ _ _ _ (by decide)]; exact congrFun (hF _ (by decide)) j')) ?_
      refine r_iastK 50 hX dX8_fill_49 rfl rfl (vp_in_nI (show (0 * 6 + i) * 6 + j < 72 by omega) (by decide)) (j := (0 * 6 + i) * 6 + j) (nI_clamp (by omega)) ?_
      refine r_iincK 53 hX dX8_fill_50 rfl (w := 1) (by decide) rfl ?_
      refine r_goto 19 hX dX8_fill_53 ?_
      refine r_iload 21 hX dX8_fill_19 rfl ?_
      refine r_iconst 22 hX dX8_fill_21 (v := 2) (by decide) ?_
      refine r_icmp_ge 25 56 hX dX8_fill_22 (fun c => absurd c (by decide)) (fun _ => ?_)
      refine r_aload_n 26 hX dX8_fill_25 rfl ?_
      refine r_getR 29 hX dX8_fill_26 fX8_48 rfl rfl rfl ?_
      refine r_iload 31 hX dX8_fill_29 rfl ?_
      refine r_bipush 33 hX dX8_fill_31 (v := 6) (by decide) ?_
      refine r_imulK 34 hX dX8_fill_33 (w := 6) (by decide) ?_
      refine r_iload_n 35 hX dX8_fill_34 rfl ?_
      refine r_iadd 36 hX dX8_fill_35 ?_
      refine r_bipush 38 hX dX8_fill_36 (v := 6) (by decide) ?_
      refine r_imul 39 hX dX8_fill_38 ?_
      refine r_iload_n 40 hX dX8_fill_39 rfl ?_
      refine r_iadd 41 hX dX8_fill_40 ?_
      refine mx_top (od_ix 1 i j (by decide)) ?_
      refine r_aload_n 42 hX dX8_fill_41 rfl ?_
      refine r_iload_n 43 hX dX8_fill_42 rfl ?_
      refine r_iload_n 44 hX dX8_fill_43 rfl ?_
      refine r_iload 46 hX dX8_fill_44 rfl ?_
      refine r_cV3F 49 hX hR (tX8_oddsOf_1 (i := i) (j := j) (by omega) (by omega) (by first | exact hPN | (intro k hk; rw [mI_ne _ _ _ _ (by decide)]; exact hPN k hk))) dX8_fill_46 kX8_oddsOf lX8_177 rfl rfl rfl rfl rfl rfl ?_
      refine mx_top (y := mrc M 1 i j) (by apply mrc_congr <;> first | exact hF 47 (by decide) | exact hF 58 (by decide) | (funext j'; rw [mI_ne _ _ _ _ (by decide)]; exact congrFun (hF _ (by decide)) j')) ?_
      refine r_iastK 50 hX dX8_fill_49 rfl rfl (vp_in_nI (show (1 * 6 + i) * 6 + j < 72 by omega) (by decide)) (j := (1 * 6 + i) * 6 + j) (nI_clamp (by omega)) ?_
      refine r_iincK 53 hX dX8_fill_50 rfl (w := 2) (by decide) rfl ?_
      refine (show mx_WW G X 53 [_, _, _, _, _, _, _, _, _, _] _ _ from ?_)
      refine r_goto 19 hX dX8_fill_53 ?_
      refine r_iload 21 hX dX8_fill_19 rfl ?_
      refine r_iconst 22 hX dX8_fill_21 (v := 2) (by decide) ?_
      refine r_icmp_ge 25 56 hX dX8_fill_22 (fun _ => ?_) (fun c => absurd c (by decide))
      refine r_iinc 59 hX dX8_fill_56 rfl (v := 1) (by decide) rfl ?_
      refine r_goto 10 hX dX8_fill_59 ?_
      rw [nI_1]
      exact ihj _ _ (odI_s hI hi hj)
    · intro N w4 hI
      show mx_WW G X 10 [.ref 46, .int g, .int (nI i), .int 6, w4, w5, w6, w7, w8, w9] [] N
      refine r_iload_n 11 hX dX8_fill_10 rfl ?_
      refine r_bipush 13 hX dX8_fill_11 (v := 6) (by decide) ?_
      refine r_icmp_ge 16 62 hX dX8_fill_13 (fun _ => ?_) (fun c => absurd c (by decide))
      refine r_iinc 65 hX dX8_fill_62 rfl (v := 1) (by decide) rfl ?_
      refine r_goto 2 hX dX8_fill_65 ?_
      rw [nI_1]
      exact ih _ _ _ (odI_i hI)
  · intro N w3 w4 hI
    show mx_WW G X 2 [.ref 46, .int g, .int 6, w3, w4, w5, w6, w7, w8, w9] [] N
    refine r_iload_n 3 hX dX8_fill_2 rfl ?_
    refine r_bipush 5 hX dX8_fill_3 (v := 6) (by decide) ?_
    refine r_icmp_ge 8 68 hX dX8_fill_5 (fun _ => ?_) (fun c => absurd c (by decide))
    exact hE _ _ _ hI

/-! chances of the class: chance, weight, odds, replace, chanceAfter -/
set_option maxRecDepth 100000 in
set_option maxHeartbeats 4000000 in
theorem tX7_chance_off {l : Launch} {G : mx_G} {M : mx_Mem} (ho : M.1 19 1 = 0) : mx_Met l G yX7_chance cX7_chance 1 ((some FieldType.int)) 6 154 [.ref 0] M (mx_F (some (.int (-1))) M) := by
  refine mx_enter (own := RX7) (L := [.ref 0]) (by decide +kernel) rfl rfl rfl ?_
  intro X hlX hX hR hT
  refine r_aload_n 1 hX dX7_chance_0 rfl ?_
  refine r_getR 4 hX dX7_chance_1 fX7_39 rfl rfl rfl ?_
  refine r_getI 7 hX dX7_chance_4 fX7_102 rfl rfl rfl ?_
  refine r_if_ne 10 12 hX dX7_chance_7 (fun c1 => absurd ho c1) (fun c1 => ?_)
  refine r_iconst 11 hX dX7_chance_10 (v := -1) (by decide) ?_
  refine r_iret hX hT dX7_chance_11 ?_
  exact ⟨rfl, rfl⟩
set_option maxRecDepth 100000 in
set_option maxHeartbeats 4000000 in
theorem tX7_weight_off {l : Launch} {G : mx_G} {M : mx_Mem} (ho : M.1 19 1 = 0) : mx_Met l G yX7_weight cX7_weight 1 ((some FieldType.int)) 6 154 [.ref 0] M (mx_F (some (.int (-1))) M) := by
  refine mx_enter (own := RX7) (L := [.ref 0]) (by decide +kernel) rfl rfl rfl ?_
  intro X hlX hX hR hT
  refine r_aload_n 1 hX dX7_weight_0 rfl ?_
  refine r_getR 4 hX dX7_weight_1 fX7_39 rfl rfl rfl ?_
  refine r_getI 7 hX dX7_weight_4 fX7_102 rfl rfl rfl ?_
  refine r_if_ne 10 12 hX dX7_weight_7 (fun c1 => absurd ho c1) (fun c1 => ?_)
  refine r_iconst 11 hX dX7_weight_10 (v := -1) (by decide) ?_
  refine r_iret hX hT dX7_weight_11 ?_
  exact ⟨rfl, rfl⟩
/-- the cells that the chances keep -/
def frC (M N : mx_Mem) : Prop := (∀ k, k < 39 ∨ 46 ≤ k → N.1 k = M.1 k) ∧ N.2 = M.2
theorem frC_sc {M N : mx_Mem} {tg cap f p1 a lo : Nat} {c : Nat → Nat} (h : scI M tg cap c f p1 a lo N) : frC M N := ⟨fun k hk => h.1.1 k (by omega) (by omega), h.1.2⟩
theorem frC_fp (M : mx_Mem) (t : Nat) : frC M (fpM M t 12) := ⟨fun k hk => fpM_ne M t (by omega) (by omega) 12, fpM_2 M t 12⟩
theorem frC_tk (M : mx_Mem) : frC M (tkC M) := ⟨fun k hk => tkC_ne M (by omega) (by omega), rfl⟩
theorem frC_tr {A B C : mx_Mem} (h : frC A B) (g : frC B C) : frC A C := ⟨fun k hk => (g.1 k hk).trans (h.1 k hk), g.2.trans h.2⟩
def chV (M : mx_Mem) (s p0 p1 tg cap : Nat) : Nat := VV tg cap (phN M s) s p0 p1 0
set_option maxRecDepth 100000 in
set_option maxHeartbeats 4000000 in
theorem tX7_chance_0 {l : Launch} {G : mx_G} {p0 p1 tg cap : Nat} {M : mx_Mem} (ho : ¬ M.1 19 1 = 0) (hS : SO M 0 p0 p1 tg cap) : mx_Met l G yX7_chance cX7_chance 1 ((some FieldType.int)) 6 154 [.ref 0] M ((fun r N => r = some (.int (nI (chV (tkC M) 0 p0 p1 tg cap))) ∧ frC M N)) := by
  refine mx_enter (own := RX7) (L := [.ref 0]) (by decide +kernel) rfl rfl rfl ?_
  intro X hlX hX hR hT
  refine r_aload_n 1 hX dX7_chance_0 rfl ?_
  refine r_getR 4 hX dX7_chance_1 fX7_39 rfl rfl rfl ?_
  refine r_getI 7 hX dX7_chance_4 fX7_102 rfl rfl rfl ?_
  refine r_if_ne 10 12 hX dX7_chance_7 (fun c1 => ?_) (fun c1 => absurd c1 ho)
  refine r_aload_n 13 hX dX7_chance_12 rfl ?_
  refine r_cV0G 16 hX hR (tX7_chanceNow_0 hS) dX7_chance_13 kX7_chanceNow lX7_258 rfl rfl rfl rfl rfl rfl (fun r9 M9 hp9 => ?_)
  obtain ⟨rfl, hI9⟩ := hp9
  show mx_WW G X 16 _ (.int _ :: []) M9
  refine r_iret hX hT dX7_chance_16 ?_
  exact ⟨rfl, frC_tr (frC_tr (frC_tk M) (frC_fp _ _)) (frC_sc hI9)⟩
set_option maxRecDepth 100000 in
set_option maxHeartbeats 4000000 in
theorem tX7_weight_0 {l : Launch} {G : mx_G} {p0 p1 tg cap : Nat} {M : mx_Mem} (ho : ¬ M.1 19 1 = 0) (hS : SO M 0 p0 p1 tg cap) (h0 : p0 + 1 ≤ cap) (h1 : p1 + 1 ≤ cap) : mx_Met l G yX7_weight cX7_weight 1 ((some FieldType.int)) 6 154 [.ref 0] M ((fun r N => r = some (.int (nI (VV tg cap (phN (tkC M) 0) 0 (p0 + 1) p1 0) - nI (VV tg cap (phN (tkC M) 0) 0 p0 (p1 + 1) 1))) ∧ frC M N)) := by
  refine mx_enter (own := RX7) (L := [.ref 0]) (by decide +kernel) rfl rfl rfl ?_
  intro X hlX hX hR hT
  have hcp := hS.2.2.2.1
  refine r_aload_n 1 hX dX7_weight_0 rfl ?_
  refine r_getR 4 hX dX7_weight_1 fX7_39 rfl rfl rfl ?_
  refine r_getI 7 hX dX7_weight_4 fX7_102 rfl rfl rfl ?_
  refine r_if_ne 10 12 hX dX7_weight_7 (fun c1 => ?_) (fun c1 => absurd c1 ho)
  refine r_aload_n 13 hX dX7_weight_12 rfl ?_
  refine r_cV0G 16 hX hR (tX7_chanceNow_0 hS) dX7_weight_13 kX7_chanceNow lX7_258 rfl rfl rfl rfl rfl rfl (fun r9 M9 hp9 => ?_)
  obtain ⟨rfl, hI9⟩ := hp9
  show mx_WW G X 16 _ (.int _ :: []) M9
  have fr := frC_tr (frC_tr (frC_tk M) (frC_fp _ _)) (frC_sc hI9)
  obtain ⟨⟨e1, e2, e3⟩, _⟩ := SO_fr (fun k hk => fr.1 k (Or.inl hk)) hS
  have e4 : M9.1 39 4 = 0 := by rw [hI9.1.1 39 (by decide) (by decide)]; exact fpM_39 _ 0 12
  refine r_pop 17 hX dX7_weight_16 rfl ?_
  refine r_aload_n 18 hX dX7_weight_17 rfl ?_
  refine r_getR 21 hX dX7_weight_18 fX7_72 rfl rfl rfl ?_
  refine r_aload_n 22 hX dX7_weight_21 rfl ?_
  refine r_getR 25 hX dX7_weight_22 fX7_29 rfl rfl rfl ?_
  refine r_getI 28 hX dX7_weight_25 fX7_202 rfl rfl rfl ?_
  rw [e2]
  refine r_aload_n 29 hX dX7_weight_28 rfl ?_
  refine r_getR 32 hX dX7_weight_29 fX7_33 rfl rfl rfl ?_
  refine r_getI 35 hX dX7_weight_32 fX7_202 rfl rfl rfl ?_
  rw [e3]
  refine r_cV2F 38 hX hR (tX0_weightOfRally_0 (a := p0) (b := p1) e4 (by omega) (by omega)) dX7_weight_35 kX0_weightOfRally lX7_261 rfl rfl rfl rfl rfl rfl ?_
  refine r_iret hX hT dX7_weight_38 ?_
  refine ⟨?_, fr⟩
  rw [hI9.2.1 h0 p1 (Nat.le_refl _) (by omega) 0 (by decide), hI9.2.2 (p1 + 1) (by omega) h1 1 (by decide)]
set_option maxRecDepth 100000 in
set_option maxHeartbeats 4000000 in
theorem tX7_chance_1 {l : Launch} {G : mx_G} {p0 p1 tg cap : Nat} {M : mx_Mem} (ho : ¬ M.1 19 1 = 0) (hS : SO M 1 p0 p1 tg cap) : mx_Met l G yX7_chance cX7_chance 1 ((some FieldType.int)) 6 154 [.ref 0] M ((fun r N => r = some (.int (nI (chV (tkC M) 1 p0 p1 tg cap))) ∧ frC M N)) := by
  refine mx_enter (own := RX7) (L := [.ref 0]) (by decide +kernel) rfl rfl rfl ?_
  intro X hlX hX hR hT
  refine r_aload_n 1 hX dX7_chance_0 rfl ?_
  refine r_getR 4 hX dX7_chance_1 fX7_39 rfl rfl rfl ?_
  refine r_getI 7 hX dX7_chance_4 fX7_102 rfl rfl rfl ?_
  refine r_if_ne 10 12 hX dX7_chance_7 (fun c1 => ?_) (fun c1 => absurd c1 ho)
  refine r_aload_n 13 hX dX7_chance_12 rfl ?_
  refine r_cV0G 16 hX hR (tX7_chanceNow_1 hS) dX7_chance_13 kX7_chanceNow lX7_258 rfl rfl rfl rfl rfl rfl (fun r9 M9 hp9 => ?_)
  obtain ⟨rfl, hI9⟩ := hp9
  show mx_WW G X 16 _ (.int _ :: []) M9
  refine r_iret hX hT dX7_chance_16 ?_
  exact ⟨rfl, frC_tr (frC_tr (frC_tk M) (frC_fp _ _)) (frC_sc hI9)⟩
set_option maxRecDepth 100000 in
set_option maxHeartbeats 4000000 in
theorem tX7_weight_1 {l : Launch} {G : mx_G} {p0 p1 tg cap : Nat} {M : mx_Mem} (ho : ¬ M.1 19 1 = 0) (hS : SO M 1 p0 p1 tg cap) (h0 : p0 + 1 ≤ cap) (h1 : p1 + 1 ≤ cap) : mx_Met l G yX7_weight cX7_weight 1 ((some FieldType.int)) 6 154 [.ref 0] M ((fun r N => r = some (.int (nI (VV tg cap (phN (tkC M) 1) 1 (p0 + 1) p1 1) - nI (VV tg cap (phN (tkC M) 1) 1 p0 (p1 + 1) 0))) ∧ frC M N)) := by
  refine mx_enter (own := RX7) (L := [.ref 0]) (by decide +kernel) rfl rfl rfl ?_
  intro X hlX hX hR hT
  have hcp := hS.2.2.2.1
  refine r_aload_n 1 hX dX7_weight_0 rfl ?_
  refine r_getR 4 hX dX7_weight_1 fX7_39 rfl rfl rfl ?_
  refine r_getI 7 hX dX7_weight_4 fX7_102 rfl rfl rfl ?_
  refine r_if_ne 10 12 hX dX7_weight_7 (fun c1 => ?_) (fun c1 => absurd c1 ho)
  refine r_aload_n 13 hX dX7_weight_12 rfl ?_
  refine r_cV0G 16 hX hR (tX7_chanceNow_1 hS) dX7_weight_13 kX7_chanceNow lX7_258 rfl rfl rfl rfl rfl rfl (fun r9 M9 hp9 => ?_)
  obtain ⟨rfl, hI9⟩ := hp9
  show mx_WW G X 16 _ (.int _ :: []) M9
  have fr := frC_tr (frC_tr (frC_tk M) (frC_fp _ _)) (frC_sc hI9)
  obtain ⟨⟨e1, e2, e3⟩, _⟩ := SO_fr (fun k hk => fr.1 k (Or.inl hk)) hS
  have e4 : M9.1 39 4 = 1 := by rw [hI9.1.1 39 (by decide) (by decide)]; exact fpM_39 _ 1 12
  refine r_pop 17 hX dX7_weight_16 rfl ?_
  refine r_aload_n 18 hX dX7_weight_17 rfl ?_
  refine r_getR 21 hX dX7_weight_18 fX7_72 rfl rfl rfl ?_
  refine r_aload_n 22 hX dX7_weight_21 rfl ?_
  refine r_getR 25 hX dX7_weight_22 fX7_29 rfl rfl rfl ?_
  refine r_getI 28 hX dX7_weight_25 fX7_202 rfl rfl rfl ?_
  rw [e2]
  refine r_aload_n 29 hX dX7_weight_28 rfl ?_
  refine r_getR 32 hX dX7_weight_29 fX7_33 rfl rfl rfl ?_
  refine r_getI 35 hX dX7_weight_32 fX7_202 rfl rfl rfl ?_
  rw [e3]
  refine r_cV2F 38 hX hR (tX0_weightOfRally_1 (a := p0) (b := p1) e4 (by omega) (by omega)) dX7_weight_35 kX0_weightOfRally lX7_261 rfl rfl rfl rfl rfl rfl ?_
  refine r_iret hX hT dX7_weight_38 ?_
  refine ⟨?_, fr⟩
  rw [hI9.2.1 h0 p1 (Nat.le_refl _) (by omega) 1 (by decide), hI9.2.2 (p1 + 1) (by omega) h1 0 (by decide)]
set_option maxRecDepth 100000 in
set_option maxHeartbeats 4000000 in
theorem tX7_odds_no {l : Launch} {G : mx_G} {i j t : Int32} {M : mx_Mem} (hn : ¬ (isT t ∧ 0 ≤ i ∧ ¬ 6 ≤ i ∧ 0 ≤ j ∧ ¬ 6 ≤ j ∧ ¬ M.1 19 1 = 0)) : mx_Met l G yX7_odds cX7_odds 4 ((some FieldType.int)) 3 81 [.ref 0, .int i, .int j, .int t] M (mx_F (some (.int (-1))) M) := by
  refine mx_enter (own := RX7) (L := [.ref 0, .int i, .int j, .int t]) (by decide +kernel) rfl rfl rfl ?_
  intro X hlX hX hR hT
  refine r_iload_n 1 hX dX7_odds_0 rfl ?_
  refine r_cS1F 4 hX hR tX7_isTeam dX7_odds_1 kX7_isTeam lX7_83 rfl rfl rfl ?_
  refine r_Beq 7 37 hX dX7_odds_4 (fun c1 => ?_) (fun c1 => ?_)
  · refine r_iconst 38 hX dX7_odds_37 (v := -1) (by decide) ?_
    refine r_iret hX hT dX7_odds_38 ?_
    exact ⟨rfl, rfl⟩
  · refine r_iload_n 8 hX dX7_odds_7 rfl ?_
    refine r_If_lt 11 37 hX dX7_odds_8 (fun c2 => ?_) (fun c2 => ?_)
    · refine r_iconst 38 hX dX7_odds_37 (v := -1) (by decide) ?_
      refine r_iret hX hT dX7_odds_38 ?_
      exact ⟨rfl, rfl⟩
    · refine r_iload_n 12 hX dX7_odds_11 rfl ?_
      refine r_bipush 14 hX dX7_odds_12 (v := 6) (by decide) ?_
      refine r_icmp_ge 17 37 hX dX7_odds_14 (fun c3 => ?_) (fun c3 => ?_)
      · refine r_iconst 38 hX dX7_odds_37 (v := -1) (by decide) ?_
        refine r_iret hX hT dX7_odds_38 ?_
        exact ⟨rfl, rfl⟩
      · refine r_iload_n 18 hX dX7_odds_17 rfl ?_
        refine r_If_lt 21 37 hX dX7_odds_18 (fun c4 => ?_) (fun c4 => ?_)
        · refine r_iconst 38 hX dX7_odds_37 (v := -1) (by decide) ?_
          refine r_iret hX hT dX7_odds_38 ?_
          exact ⟨rfl, rfl⟩
        · refine r_iload_n 22 hX dX7_odds_21 rfl ?_
          refine r_bipush 24 hX dX7_odds_22 (v := 6) (by decide) ?_
          refine r_icmp_ge 27 37 hX dX7_odds_24 (fun c5 => ?_) (fun c5 => ?_)
          · refine r_iconst 38 hX dX7_odds_37 (v := -1) (by decide) ?_
            refine r_iret hX hT dX7_odds_38 ?_
            exact ⟨rfl, rfl⟩
          · refine r_aload_n 28 hX dX7_odds_27 rfl ?_
            refine r_getR 31 hX dX7_odds_28 fX7_39 rfl rfl rfl ?_
            refine r_getI 34 hX dX7_odds_31 fX7_102 rfl rfl rfl ?_
            refine r_if_ne 37 39 hX dX7_odds_34 (fun c6 => ?_) (fun c6 => ?_)
            · simp_all
            · refine r_iconst 38 hX dX7_odds_37 (v := -1) (by decide) ?_
              refine r_iret hX hT dX7_odds_38 ?_
              exact ⟨rfl, rfl⟩
set_option maxRecDepth 100000 in
set_option maxHeartbeats 4000000 in
theorem tX7_odds_0 {l : Launch} {G : mx_G} {i j : Nat} {M : mx_Mem} (hi : i < 6) (hj : j < 6) (ho : ¬ M.1 19 1 = 0) : mx_Met l G yX7_odds cX7_odds 4 ((some FieldType.int)) 3 81 [.ref 0, .int (nI i), .int (nI j), .int 0] M (mx_F (some (.int (rcF ((tkC M).1 4) ((tkC M).1 7) ((tkC M).1 40) ((tkC M).1 41) i j))) (tkC M)) := by
  refine mx_enter (own := RX7) (L := [.ref 0, .int (nI i), .int (nI j), .int 0]) (by decide +kernel) rfl rfl rfl ?_
  intro X hlX hX hR hT
  have g1 : 0 ≤ nI i := nI_pos' (by omega)
  have g2 : ¬ 6 ≤ nI i := nI_ge (b := 6) hi (by decide)
  have g3 : 0 ≤ nI j := nI_pos' (by omega)
  have g4 : ¬ 6 ≤ nI j := nI_ge (b := 6) hj (by decide)
  refine r_iload_n 1 hX dX7_odds_0 rfl ?_
  refine r_cS1F 4 hX hR tX7_isTeam_0 dX7_odds_1 kX7_isTeam lX7_83 rfl rfl rfl ?_
  refine r_if_eq 7 37 hX dX7_odds_4 (fun c => absurd c (by decide)) (fun _ => ?_)
  refine r_iload_n 8 hX dX7_odds_7 rfl ?_
  refine r_If_lt 11 37 hX dX7_odds_8 (fun c1 => absurd g1 c1) (fun c1 => ?_)
  refine r_iload_n 12 hX dX7_odds_11 rfl ?_
  refine r_bipush 14 hX dX7_odds_12 (v := 6) (by decide) ?_
  refine r_icmp_ge 17 37 hX dX7_odds_14 (fun c2 => absurd c2 g2) (fun c2 => ?_)
  refine r_iload_n 18 hX dX7_odds_17 rfl ?_
  refine r_If_lt 21 37 hX dX7_odds_18 (fun c3 => absurd g3 c3) (fun c3 => ?_)
  refine r_iload_n 22 hX dX7_odds_21 rfl ?_
  refine r_bipush 24 hX dX7_odds_22 (v := 6) (by decide) ?_
  refine r_icmp_ge 27 37 hX dX7_odds_24 (fun c4 => absurd c4 g4) (fun c4 => ?_)
  refine r_aload_n 28 hX dX7_odds_27 rfl ?_
  refine r_getR 31 hX dX7_odds_28 fX7_39 rfl rfl rfl ?_
  refine r_getI 34 hX dX7_odds_31 fX7_102 rfl rfl rfl ?_
  refine r_if_ne 37 39 hX dX7_odds_34 (fun c5 => ?_) (fun c5 => absurd c5 ho)
  refine r_aload_n 40 hX dX7_odds_39 rfl ?_
  refine r_cV0U 43 hX hR tX7_takeCourts dX7_odds_40 kX7_takeCourts lX7_251 rfl rfl rfl rfl rfl rfl ?_
  refine r_aload_n 44 hX dX7_odds_43 rfl ?_
  refine r_getR 47 hX dX7_odds_44 fX7_72 rfl rfl rfl ?_
  refine r_aload_n 48 hX dX7_odds_47 rfl ?_
  refine r_getR 51 hX dX7_odds_48 fX7_19 rfl rfl rfl ?_
  refine r_aload_n 52 hX dX7_odds_51 rfl ?_
  refine r_getR 55 hX dX7_odds_52 fX7_23 rfl rfl rfl ?_
  refine r_iload_n 56 hX dX7_odds_55 rfl ?_
  refine r_iload_n 57 hX dX7_odds_56 rfl ?_
  refine r_iload_n 58 hX dX7_odds_57 rfl ?_
  refine r_cV5F 61 hX hR (tX0_rallyChance_0 (by omega) (by omega)) dX7_odds_58 kX0_rallyChance lX7_254 rfl rfl rfl rfl rfl rfl ?_
  refine r_iret hX hT dX7_odds_61 ?_
  exact ⟨rfl, rfl⟩
set_option maxRecDepth 100000 in
set_option maxHeartbeats 4000000 in
theorem tX7_odds_1 {l : Launch} {G : mx_G} {i j : Nat} {M : mx_Mem} (hi : i < 6) (hj : j < 6) (ho : ¬ M.1 19 1 = 0) : mx_Met l G yX7_odds cX7_odds 4 ((some FieldType.int)) 3 81 [.ref 0, .int (nI i), .int (nI j), .int 1] M (mx_F (some (.int (rcF ((tkC M).1 7) ((tkC M).1 4) ((tkC M).1 41) ((tkC M).1 40) j i))) (tkC M)) := by
  refine mx_enter (own := RX7) (L := [.ref 0, .int (nI i), .int (nI j), .int 1]) (by decide +kernel) rfl rfl rfl ?_
  intro X hlX hX hR hT
  have g1 : 0 ≤ nI i := nI_pos' (by omega)
  have g2 : ¬ 6 ≤ nI i := nI_ge (b := 6) hi (by decide)
  have g3 : 0 ≤ nI j := nI_pos' (by omega)
  have g4 : ¬ 6 ≤ nI j := nI_ge (b := 6) hj (by decide)
  refine r_iload_n 1 hX dX7_odds_0 rfl ?_
  refine r_cS1F 4 hX hR tX7_isTeam_1 dX7_odds_1 kX7_isTeam lX7_83 rfl rfl rfl ?_
  refine r_if_eq 7 37 hX dX7_odds_4 (fun c => absurd c (by decide)) (fun _ => ?_)
  refine r_iload_n 8 hX dX7_odds_7 rfl ?_
  refine r_If_lt 11 37 hX dX7_odds_8 (fun c1 => absurd g1 c1) (fun c1 => ?_)
  refine r_iload_n 12 hX dX7_odds_11 rfl ?_
  refine r_bipush 14 hX dX7_odds_12 (v := 6) (by decide) ?_
  refine r_icmp_ge 17 37 hX dX7_odds_14 (fun c2 => absurd c2 g2) (fun c2 => ?_)
  refine r_iload_n 18 hX dX7_odds_17 rfl ?_
  refine r_If_lt 21 37 hX dX7_odds_18 (fun c3 => absurd g3 c3) (fun c3 => ?_)
  refine r_iload_n 22 hX dX7_odds_21 rfl ?_
  refine r_bipush 24 hX dX7_odds_22 (v := 6) (by decide) ?_
  refine r_icmp_ge 27 37 hX dX7_odds_24 (fun c4 => absurd c4 g4) (fun c4 => ?_)
  refine r_aload_n 28 hX dX7_odds_27 rfl ?_
  refine r_getR 31 hX dX7_odds_28 fX7_39 rfl rfl rfl ?_
  refine r_getI 34 hX dX7_odds_31 fX7_102 rfl rfl rfl ?_
  refine r_if_ne 37 39 hX dX7_odds_34 (fun c5 => ?_) (fun c5 => absurd c5 ho)
  refine r_aload_n 40 hX dX7_odds_39 rfl ?_
  refine r_cV0U 43 hX hR tX7_takeCourts dX7_odds_40 kX7_takeCourts lX7_251 rfl rfl rfl rfl rfl rfl ?_
  refine r_aload_n 44 hX dX7_odds_43 rfl ?_
  refine r_getR 47 hX dX7_odds_44 fX7_72 rfl rfl rfl ?_
  refine r_aload_n 48 hX dX7_odds_47 rfl ?_
  refine r_getR 51 hX dX7_odds_48 fX7_19 rfl rfl rfl ?_
  refine r_aload_n 52 hX dX7_odds_51 rfl ?_
  refine r_getR 55 hX dX7_odds_52 fX7_23 rfl rfl rfl ?_
  refine r_iload_n 56 hX dX7_odds_55 rfl ?_
  refine r_iload_n 57 hX dX7_odds_56 rfl ?_
  refine r_iload_n 58 hX dX7_odds_57 rfl ?_
  refine r_cV5F 61 hX hR (tX0_rallyChance_1 (by omega) (by omega)) dX7_odds_58 kX0_rallyChance lX7_254 rfl rfl rfl rfl rfl rfl ?_
  refine r_iret hX hT dX7_odds_61 ?_
  exact ⟨rfl, rfl⟩

/-! pairs of calls: line-ups; chances -/
set_option maxRecDepth 100000 in
set_option maxHeartbeats 4000000 in
theorem tX8_lineUp_n {l : Launch} {G : mx_G} {t a b c d e f : Int32} {M : mx_Mem} (ht : ¬ isT t) : mx_Met l G yX8_lineUp cX8_lineUp 10 ((some FieldType.boolean)) 2 42 [.ref 46, .int t, .int a, .int b, .int c, .int d, .int e, .int f] M (mx_F (some (.int 0)) (six6 M a b c d e f)) := by
  refine mx_enter (own := RX8) (L := [.ref 46, .int t, .int a, .int b, .int c, .int d, .int e, .int f, .null, .null]) (by decide +kernel) rfl rfl rfl ?_
  intro X hlX hX hR hT
  refine r_aload_n 1 hX dX8_lineUp_0 rfl ?_
  refine r_iconst 2 hX dX8_lineUp_1 (v := 0) (by decide) ?_
  refine r_putI 5 hX dX8_lineUp_2 fX8_63 fp8_13 rfl rfl rfl ?_
  refine r_aload_n 6 hX dX8_lineUp_5 rfl ?_
  refine r_getR 9 hX dX8_lineUp_6 fX8_42 rfl rfl rfl ?_
  refine r_iconst 10 hX dX8_lineUp_9 (v := 0) (by decide) ?_
  refine r_iload_n 11 hX dX8_lineUp_10 rfl ?_
  refine r_iastK 12 hX dX8_lineUp_11 rfl rfl (vpK rfl) (j := 0) (by decide) ?_
  refine r_aload_n 13 hX dX8_lineUp_12 rfl ?_
  refine r_getR 16 hX dX8_lineUp_13 fX8_42 rfl rfl rfl ?_
  refine r_iconst 17 hX dX8_lineUp_16 (v := 1) (by decide) ?_
  refine r_iload_n 18 hX dX8_lineUp_17 rfl ?_
  refine r_iastK 19 hX dX8_lineUp_18 rfl rfl (vpK rfl) (j := 1) (by decide) ?_
  refine r_aload_n 20 hX dX8_lineUp_19 rfl ?_
  refine r_getR 23 hX dX8_lineUp_20 fX8_42 rfl rfl rfl ?_
  refine r_iconst 24 hX dX8_lineUp_23 (v := 2) (by decide) ?_
  refine r_iload 26 hX dX8_lineUp_24 rfl ?_
  refine r_iastK 27 hX dX8_lineUp_26 rfl rfl (vpK rfl) (j := 2) (by decide) ?_
  refine r_aload_n 28 hX dX8_lineUp_27 rfl ?_
  refine r_getR 31 hX dX8_lineUp_28 fX8_42 rfl rfl rfl ?_
  refine r_iconst 32 hX dX8_lineUp_31 (v := 3) (by decide) ?_
  refine r_iload 34 hX dX8_lineUp_32 rfl ?_
  refine r_iastK 35 hX dX8_lineUp_34 rfl rfl (vpK rfl) (j := 3) (by decide) ?_
  refine r_aload_n 36 hX dX8_lineUp_35 rfl ?_
  refine r_getR 39 hX dX8_lineUp_36 fX8_42 rfl rfl rfl ?_
  refine r_iconst 40 hX dX8_lineUp_39 (v := 4) (by decide) ?_
  refine r_iload 42 hX dX8_lineUp_40 rfl ?_
  refine r_iastK 43 hX dX8_lineUp_42 rfl rfl (vpK rfl) (j := 4) (by decide) ?_
  refine r_aload_n 44 hX dX8_lineUp_43 rfl ?_
  refine r_getR 47 hX dX8_lineUp_44 fX8_42 rfl rfl rfl ?_
  refine r_iconst 48 hX dX8_lineUp_47 (v := 5) (by decide) ?_
  refine r_iload 50 hX dX8_lineUp_48 rfl ?_
  refine r_iastK 51 hX dX8_lineUp_50 rfl rfl (vpK rfl) (j := 5) (by decide) ?_
  refine r_iload_n 52 hX dX8_lineUp_51 rfl ?_
  refine r_cS1F 55 hX hR tX8_isTeam dX8_lineUp_52 kX8_isTeam lX8_71 rfl rfl rfl ?_
  refine r_Beq 58 75 hX dX8_lineUp_55 (fun c1 => ?_) (fun c1 => absurd c1 ht)
  refine r_iconst 76 hX dX8_lineUp_75 (v := 0) (by decide) ?_
  refine r_zret hX hT dX8_lineUp_76 (by first | assumption | decide) ?_
  exact ⟨rfl, rfl⟩
theorem frC_k {A A' : mx_Mem} (h : frC A A') : ∀ k, 46 ≤ k → A'.1 k = A.1 k := fun k hk => h.1 k (Or.inr hk)
theorem frM_k {A A' : mx_Mem} (h : frM A A') {k : Nat} (hk : k < 46) : A'.1 k = A.1 k := h.1 k (by omega) (by omega)
section
variable {l : Launch} {G : mx_G} {n : Nat} {M : mx_Mem}
theorem P_lineUp (t a b c d e f : Int32) (h : RR n M M) : PR l G n yX7_lineUp cX7_lineUp 10 ((some FieldType.boolean)) 2 40 [.ref 0, .int t, .int a, .int b, .int c, .int d, .int e, .int f] yX8_lineUp cX8_lineUp 10 ((some FieldType.boolean)) 2 42 [.ref 46, .int t, .int a, .int b, .int c, .int d, .int e, .int f] M := by
  by_cases h0 : t = 0
  · subst h0; exact P_lineUp_0 h a b c d e f
  · by_cases h1 : t = 1
    · subst h1; exact P_lineUp_1 h a b c d e f
    · have ht : ¬ isT t := fun q => q.elim h0 h1
      have k6 : ∀ j, j ≠ 57 → (six6 M a b c d e f).1 j = (mI M 46 13 0).1 j := fun j hj => funext fun i => by
        unfold six6
        rw [mI_ne _ _ _ _ hj, mI_ne _ _ _ _ hj, mI_ne _ _ _ _ hj, mI_ne _ _ _ _ hj, mI_ne _ _ _ _ hj, mI_ne _ _ _ _ hj]
      have h2 := RR_cg (RR_th h 0) (A' := M) (B' := six6 M a b c d e f) (fun _ _ => rfl) (fun _ _ _ => ⟨rfl, rfl⟩) (fun _ _ => ⟨rfl, rfl⟩) (fun _ _ _ _ => rfl) (fun _ _ => rfl) h.2.1.2.1.1.2.1 (fun k _ => k6 k (by omega)) (fun j _ => by rw [k6 46 (by decide)]) (fun j _ => by rw [k6 52 (by decide)])
      exact PR_F (tX7_lineUp_n ht) (tX8_lineUp_n ht) rfl h2 (fun j hj => by rw [k6 j (by omega), th_k _ _ hj])
/-- relational ends: what the class kept, what the model kept -/
theorem PR_R {y1 : MethodName} {c1 : ByteArray} {m1 : Nat} {r1 : Option FieldType} {f1 o1 : Nat} {a1 : List Value} {y2 : MethodName} {c2 : ByteArray} {m2 : Nat} {r2 : Option FieldType} {f2 o2 : Nat} {a2 : List Value} {v : Int32} {A1 : mx_Mem} (B1 : mx_Mem → mx_Mem) (hC : mx_Met l G y1 c1 m1 r1 f1 o1 a1 M (fun r N => r = some (.int v) ∧ frC A1 N)) (hkA : ∀ k, 46 ≤ k → A1.1 k = M.1 k) (hM : ∀ M1, frC A1 M1 → (∀ k, 46 ≤ k → M1.1 k = M.1 k) → mx_Met l G y2 c2 m2 r2 f2 o2 a2 M1 (fun r N => r = some (.int v) ∧ frM (B1 M1) N) ∧ RR n A1 (B1 M1) ∧ ∀ k, k < 46 → (B1 M1).1 k = M1.1 k) : PR l G n y1 c1 m1 r1 f1 o1 a1 y2 c2 m2 r2 f2 o2 a2 M := by
  refine ⟨v, fun N => frC A1 N, hC, fun M1 h1 => ?_⟩
  obtain ⟨g1, g2, g3⟩ := hM M1 h1 (fun k hk => (frC_k h1 k hk).trans (hkA k hk))
  refine mx_mono g1 (fun r M2 q => ⟨q.1, ?_⟩)
  have h3 : RR n M1 M2 := RR_fr g2 h1 q.2
  exact RR_dg h3 (fun k hk => (frM_k q.2 hk).trans (g3 k hk))
theorem P_odds (i j t : Int32) (hn : n ≤ 1000) (h : RR n M M) : PR l G n yX7_odds cX7_odds 4 ((some FieldType.int)) 3 81 [.ref 0, .int i, .int j, .int t] yX8_odds cX8_odds 4 ((some FieldType.int)) 3 75 [.ref 46, .int i, .int j, .int t] M := by
  have hon := on_R h
  by_cases hc : isT t ∧ 0 ≤ i ∧ ¬ 6 ≤ i ∧ 0 ≤ j ∧ ¬ 6 ≤ j ∧ ¬ M.1 19 1 = 0
  · obtain ⟨ht, hi0, hi1, hj0, hj1, ho⟩ := hc
    have ho1 := (isB_ne h.2.1.2.1.1.1.1).mp ho
    obtain ⟨i', hi, rfl⟩ := in6 ⟨hi0, hi1⟩
    obtain ⟨j', hj, rfl⟩ := in6 ⟨hj0, hj1⟩
    have kA : ∀ k, 46 ≤ k → (tkC M).1 k = M.1 k := fun k hk => tkC_ne M (by omega) (by omega)
    have h1 := RR_ml h (M1 := tkC M) (fun k hk _ => kA k hk)
    have hE := EC_now hn (RR_th h1 0) ho1
    have o1 : (tkC M).1 52 1 = 1 := by rw [kA 52 (by omega)]; exact h.1.1.2.1.1.2.1.symm.trans ho1
    have hfr : RR n (tkC M) (cnM (mI (tkC M) 46 13 0)) := RR_fr (RR_th h1 0) (frC_tk M) (frM_cn _)
    have kk : ∀ k, k < 46 → (cnM (mI (tkC M) 46 13 0)).1 k = (tkC M).1 k := fun k hk => by rw [cnM_ne _ (by omega), th_k _ _ hk]
    rcases ht with rfl | rfl
    · refine PR_F (tX7_odds_0 hi hj ho) (tX8_odds_0 hi hj o1 hE.2.2) ?_ hfr kk
      rw [rcE0 hE, show i' % 6 = i' by omega, show j' % 6 = j' by omega]
    · refine PR_F (tX7_odds_1 hi hj ho) (tX8_odds_1 hi hj o1 hE.2.2) ?_ hfr kk
      rw [rcE1 hE, show i' % 6 = i' by omega, show j' % 6 = j' by omega]
  · refine PR_S h (tX7_odds_no hc) (tX8_odds_no (fun q => hc ⟨q.2.2.2, q.2.1.1, (le5 i).mp q.2.1.2, q.2.2.1.1, (le5 j).mp q.2.2.1.2, fun w => hon.mp w q.1⟩)) rfl
theorem P_chance (hn : n ≤ 1000) (h : RR n M M) : PR l G n yX7_chance cX7_chance 1 ((some FieldType.int)) 6 154 [.ref 0] yX8_chance cX8_chance 1 ((some FieldType.int)) 4 104 [.ref 46] M := by
  have hon := on_R h
  by_cases ho : M.1 19 1 = 0
  · exact PR_S h (tX7_chance_off ho) (tX8_chance_off (hon.mp ho)) rfl
  · have ho1 := (isB_ne h.2.1.2.1.1.1.1).mp ho
    obtain ⟨s, p0, p1, tg, cap, hs, hS, hMO, -, -⟩ := RR_SO h ho1
    have hC : mx_Met l G yX7_chance cX7_chance 1 ((some FieldType.int)) 6 154 [.ref 0] M (fun r N => r = some (.int (nI (chV (tkC M) s p0 p1 tg cap))) ∧ frC M N) := by
      rcases hs with rfl | rfl
      · exact tX7_chance_0 ho hS
      · exact tX7_chance_1 ho hS
    refine PR_R (fun M1 => mI M1 46 13 0) hC (fun _ _ => rfl) (fun M1 h1 kA => ?_)
    have h2 := RR_th (RR_ml h (M1 := M1) (fun k hk _ => kA k hk)) 0
    have hE := EC_now hn h2 ho1
    have hMO1 : MO (mI M1 46 13 0) s p0 p1 tg cap := by
      have e52 : (mI M1 46 13 0).1 52 = M.1 52 := kA 52 (by omega)
      have e49 : (mI M1 46 13 0).1 49 = M.1 49 := kA 49 (by omega)
      unfold MO tgM at hMO ⊢
      rw [e52, e49]
      exact hMO
    have o1 : M1.1 52 1 = 1 := by rw [kA 52 (by omega)]; exact h.1.1.2.1.1.2.1.symm.trans ho1
    refine ⟨?_, h2, fun k hk => th_k _ _ hk⟩
    rw [VU0 hE (by omega)]
    exact tX8_chance_on o1 hMO1 hE.2.2
theorem P_weight (hn : n ≤ 1000) (h : RR n M M) : PR l G n yX7_weight cX7_weight 1 ((some FieldType.int)) 6 154 [.ref 0] yX8_weight cX8_weight 8 ((some FieldType.int)) 4 104 [.ref 46] M := by
  have hon := on_R h
  by_cases ho : M.1 19 1 = 0
  · exact PR_S h (tX7_weight_off ho) (tX8_weight_off (hon.mp ho)) rfl
  · have ho1 := (isB_ne h.2.1.2.1.1.1.1).mp ho
    obtain ⟨s, p0, p1, tg, cap, hs, hS, hMO, hp0, hp1⟩ := RR_SO h ho1
    have lsub : ∀ a b : Nat, (lN a - lN b).toInt32 = nI a - nI b := fun a b => by rw [Int64.toInt32_sub, lN_i, lN_i]
    rcases hs with rfl | rfl
    · refine PR_R (fun M1 => mI M1 46 13 0) (tX7_weight_0 ho hS (by omega) (by omega)) (fun _ _ => rfl) (fun M1 h1 kA => ?_)
      have h2 := RR_th (RR_ml h (M1 := M1) (fun k hk _ => kA k hk)) 0
      have hE := EC_now hn h2 ho1
      have hMO1 : MO (mI M1 46 13 0) 0 p0 p1 tg cap := by
        have e52 : (mI M1 46 13 0).1 52 = M.1 52 := kA 52 (by omega)
        have e49 : (mI M1 46 13 0).1 49 = M.1 49 := kA 49 (by omega)
        unfold MO tgM at hMO ⊢
        rw [e52, e49]
        exact hMO
      have o1 : M1.1 52 1 = 1 := by rw [kA 52 (by omega)]; exact h.1.1.2.1.1.2.1.symm.trans ho1
      refine ⟨?_, h2, fun k hk => th_k _ _ hk⟩
      have w := tX8_weight_0 (l := l) (G := G) o1 hMO1 (by omega) (by omega) hE.2.2
      rw [lsub] at w
      rw [VU hE (by decide) tg cap (p0 + 1) p1 (ph := 0) (by decide), VU hE (by decide) tg cap p0 (p1 + 1) (ph := 1) (by decide)]
      exact w
    · refine PR_R (fun M1 => mI M1 46 13 0) (tX7_weight_1 ho hS (by omega) (by omega)) (fun _ _ => rfl) (fun M1 h1 kA => ?_)
      have h2 := RR_th (RR_ml h (M1 := M1) (fun k hk _ => kA k hk)) 0
      have hE := EC_now hn h2 ho1
      have hMO1 : MO (mI M1 46 13 0) 1 p0 p1 tg cap := by
        have e52 : (mI M1 46 13 0).1 52 = M.1 52 := kA 52 (by omega)
        have e49 : (mI M1 46 13 0).1 49 = M.1 49 := kA 49 (by omega)
        unfold MO tgM at hMO ⊢
        rw [e52, e49]
        exact hMO
      have o1 : M1.1 52 1 = 1 := by rw [kA 52 (by omega)]; exact h.1.1.2.1.1.2.1.symm.trans ho1
      refine ⟨?_, h2, fun k hk => th_k _ _ hk⟩
      have w := tX8_weight_1 (l := l) (G := G) o1 hMO1 (by omega) (by omega) hE.2.2
      rw [lsub] at w
      rw [VU hE (by decide) tg cap (p0 + 1) p1 (ph := 1) (by decide), VU hE (by decide) tg cap p0 (p1 + 1) (ph := 0) (by decide)]
      exact w
theorem P_turn_0_0 (h : RR n M M) (h3 : M.1 3 3 = 1) (h6 : M.1 6 3 = 1) : PR l G n yX7_turn cX7_turn 7 ((some FieldType.int)) 5 134 [.ref 0, .int 0, .int 0] yX8_turn_ cX8_turn_ 9 ((some FieldType.int)) 4 104 [.ref 46, .int 0, .int 0] M := by
  have hon := on_R h
  have n3 : ¬ M.1 3 3 = 0 := by rw [h3]; decide
  have n6 : ¬ M.1 6 3 = 0 := by rw [h6]; decide
  have hoff : ¬ M.1 19 1 = 1 := fun q => absurd (h3.symm.trans (h.2.1.2.1.2.2.2.2.1 q).1) (by decide)
  have hoff2 : ¬ M.1 52 1 = 1 := fun q => hoff (h.1.1.2.1.1.2.1.trans q)
  obtain ⟨tg, t1, t2⟩ := tgt_n h.2.1.1 (M.1 9 8) (M.1 14 8)
  obtain ⟨gg, cap, la, sn, ⟨w0, w1, w2, w3⟩, w4, w5, w6, w7⟩ := h.2.1.1
  have hfr : RR n (mI (mI M 0 13 1) 0 14 (tuF 0 (tuW M 0 0 tg cap) 6).2) (mI (mI M 46 11 (tuF 0 (tuW M 0 0 tg cap) 6).2) 46 12 1) := row_RR h _
  have hC := tX7_turn_0_0 (l := l) (G := G) (M := M) n3 n6 t2 w1 (by omega) (by omega)
  have hW : ∀ r, r < 6 → tuW M 0 0 tg cap r = mtW M 0 0 tg cap r := fun r _ => tuW_R h h3 h6 _ _ _ _ (by decide) r
  have kA : ∀ k, 46 ≤ k → (mI (mI M 0 13 1) 0 14 (tuF 0 (tuW M 0 0 tg cap) 6).2).1 k = M.1 k := fun k hk => funext fun j => by rw [mI_ne _ _ _ _ (by omega), mI_ne _ _ _ _ (by omega)]
  refine PR_R (fun M1 => mI (mI (mI M1 46 13 0) 46 11 (tuF 0 (tuW M 0 0 tg cap) 6).2) 46 12 1) hC kA (fun M1 h1 kB => ?_)
  have h2 := RR_ml h (M1 := M1) (fun k hk _ => kB k hk)
  have e : tuF 0 (tuW M 0 0 tg cap) 6 = tuF 0 (mtW M1 0 0 tg cap) 6 := tuF_cg _ 6 (by decide) (fun r _ => tuW_R h2 h3 h6 _ _ _ _ (by decide) r)
  have g50 : ∀ k, k < 12 → isP (M1.1 50 k) := fun k hk => by
    have s6 := h2.1.1.1.2.2.1
    by_cases q : k < 6
    · rw [← (s6 k q).1]; exact (h.2.1.2.1.2.2.2.1.1 h3).1 k q
    · have := s6 (k - 6) (by omega)
      rw [show 6 + (k - 6) = k by omega] at this
      rw [← this.2]; exact (h.2.1.2.1.2.2.2.1.2 h6).1 _ (by omega)
  refine ⟨?_, ?_, fun k hk => ?_⟩
  · rw [e]
    refine tX8_turn__0_0 ?_ ?_ ?_ ?_ ?_ (by omega) (by omega) g50
    · rw [kB 52 (by omega)]; exact hoff2
    · rw [kB 51 (by omega), ← h.1.1.1.2.1.2.1]; exact n3
    · rw [kB 51 (by omega), ← h.1.1.1.2.1.2.2]; exact n6
    · exact (tgE h2.1 h2.2.1.1).trans t2
    · rw [← h2.1.1.1.1.1 1 (by decide)]; exact w1
  · exact row_RR (RR_th h2 0) _
  · exact funext fun j => by rw [mI_ne _ _ _ _ (by omega), mI_ne _ _ _ _ (by omega), th_k _ _ hk]
theorem P_turn_1_0 (h : RR n M M) (h3 : M.1 3 3 = 1) (h6 : M.1 6 3 = 1) : PR l G n yX7_turn cX7_turn 7 ((some FieldType.int)) 5 134 [.ref 0, .int 1, .int 0] yX8_turn_ cX8_turn_ 9 ((some FieldType.int)) 4 104 [.ref 46, .int 1, .int 0] M := by
  have hon := on_R h
  have n3 : ¬ M.1 3 3 = 0 := by rw [h3]; decide
  have n6 : ¬ M.1 6 3 = 0 := by rw [h6]; decide
  have hoff : ¬ M.1 19 1 = 1 := fun q => absurd (h3.symm.trans (h.2.1.2.1.2.2.2.2.1 q).1) (by decide)
  have hoff2 : ¬ M.1 52 1 = 1 := fun q => hoff (h.1.1.2.1.1.2.1.trans q)
  obtain ⟨tg, t1, t2⟩ := tgt_n h.2.1.1 (M.1 9 8) (M.1 14 8)
  obtain ⟨gg, cap, la, sn, ⟨w0, w1, w2, w3⟩, w4, w5, w6, w7⟩ := h.2.1.1
  have hfr : RR n (mI (mI M 0 13 1) 0 14 (tuF 1 (tuW M 1 0 tg cap) 6).2) (mI (mI M 46 11 (tuF 1 (tuW M 1 0 tg cap) 6).2) 46 12 1) := row_RR h _
  have hC := tX7_turn_1_0 (l := l) (G := G) (M := M) n3 n6 t2 w1 (by omega) (by omega)
  have hW : ∀ r, r < 6 → tuW M 1 0 tg cap r = mtW M 1 0 tg cap r := fun r _ => tuW_R h h3 h6 _ _ _ _ (by decide) r
  have kA : ∀ k, 46 ≤ k → (mI (mI M 0 13 1) 0 14 (tuF 1 (tuW M 1 0 tg cap) 6).2).1 k = M.1 k := fun k hk => funext fun j => by rw [mI_ne _ _ _ _ (by omega), mI_ne _ _ _ _ (by omega)]
  refine PR_R (fun M1 => mI (mI (mI M1 46 13 0) 46 11 (tuF 1 (tuW M 1 0 tg cap) 6).2) 46 12 1) hC kA (fun M1 h1 kB => ?_)
  have h2 := RR_ml h (M1 := M1) (fun k hk _ => kB k hk)
  have e : tuF 1 (tuW M 1 0 tg cap) 6 = tuF 1 (mtW M1 1 0 tg cap) 6 := tuF_cg _ 6 (by decide) (fun r _ => tuW_R h2 h3 h6 _ _ _ _ (by decide) r)
  have g50 : ∀ k, k < 12 → isP (M1.1 50 k) := fun k hk => by
    have s6 := h2.1.1.1.2.2.1
    by_cases q : k < 6
    · rw [← (s6 k q).1]; exact (h.2.1.2.1.2.2.2.1.1 h3).1 k q
    · have := s6 (k - 6) (by omega)
      rw [show 6 + (k - 6) = k by omega] at this
      rw [← this.2]; exact (h.2.1.2.1.2.2.2.1.2 h6).1 _ (by omega)
  refine ⟨?_, ?_, fun k hk => ?_⟩
  · rw [e]
    refine tX8_turn__1_0 ?_ ?_ ?_ ?_ ?_ (by omega) (by omega) g50
    · rw [kB 52 (by omega)]; exact hoff2
    · rw [kB 51 (by omega), ← h.1.1.1.2.1.2.1]; exact n3
    · rw [kB 51 (by omega), ← h.1.1.1.2.1.2.2]; exact n6
    · exact (tgE h2.1 h2.2.1.1).trans t2
    · rw [← h2.1.1.1.1.1 1 (by decide)]; exact w1
  · exact row_RR (RR_th h2 0) _
  · exact funext fun j => by rw [mI_ne _ _ _ _ (by omega), mI_ne _ _ _ _ (by omega), th_k _ _ hk]
theorem P_turn_0_1 (h : RR n M M) (h3 : M.1 3 3 = 1) (h6 : M.1 6 3 = 1) : PR l G n yX7_turn cX7_turn 7 ((some FieldType.int)) 5 134 [.ref 0, .int 0, .int 1] yX8_turn_ cX8_turn_ 9 ((some FieldType.int)) 4 104 [.ref 46, .int 0, .int 1] M := by
  have hon := on_R h
  have n3 : ¬ M.1 3 3 = 0 := by rw [h3]; decide
  have n6 : ¬ M.1 6 3 = 0 := by rw [h6]; decide
  have hoff : ¬ M.1 19 1 = 1 := fun q => absurd (h3.symm.trans (h.2.1.2.1.2.2.2.2.1 q).1) (by decide)
  have hoff2 : ¬ M.1 52 1 = 1 := fun q => hoff (h.1.1.2.1.1.2.1.trans q)
  obtain ⟨tg, t1, t2⟩ := tgt_n h.2.1.1 (M.1 9 8) (M.1 14 8)
  obtain ⟨gg, cap, la, sn, ⟨w0, w1, w2, w3⟩, w4, w5, w6, w7⟩ := h.2.1.1
  have hfr : RR n (mI (mI M 0 13 1) 0 14 (tuF 0 (tuW M 0 1 tg cap) 6).2) (mI (mI M 46 11 (tuF 0 (tuW M 0 1 tg cap) 6).2) 46 12 1) := row_RR h _
  have hC := tX7_turn_0_1 (l := l) (G := G) (M := M) n3 n6 t2 w1 (by omega) (by omega)
  have hW : ∀ r, r < 6 → tuW M 0 1 tg cap r = mtW M 0 1 tg cap r := fun r _ => tuW_R h h3 h6 _ _ _ _ (by decide) r
  have kA : ∀ k, 46 ≤ k → (mI (mI M 0 13 1) 0 14 (tuF 0 (tuW M 0 1 tg cap) 6).2).1 k = M.1 k := fun k hk => funext fun j => by rw [mI_ne _ _ _ _ (by omega), mI_ne _ _ _ _ (by omega)]
  refine PR_R (fun M1 => mI (mI (mI M1 46 13 0) 46 11 (tuF 0 (tuW M 0 1 tg cap) 6).2) 46 12 1) hC kA (fun M1 h1 kB => ?_)
  have h2 := RR_ml h (M1 := M1) (fun k hk _ => kB k hk)
  have e : tuF 0 (tuW M 0 1 tg cap) 6 = tuF 0 (mtW M1 0 1 tg cap) 6 := tuF_cg _ 6 (by decide) (fun r _ => tuW_R h2 h3 h6 _ _ _ _ (by decide) r)
  have g50 : ∀ k, k < 12 → isP (M1.1 50 k) := fun k hk => by
    have s6 := h2.1.1.1.2.2.1
    by_cases q : k < 6
    · rw [← (s6 k q).1]; exact (h.2.1.2.1.2.2.2.1.1 h3).1 k q
    · have := s6 (k - 6) (by omega)
      rw [show 6 + (k - 6) = k by omega] at this
      rw [← this.2]; exact (h.2.1.2.1.2.2.2.1.2 h6).1 _ (by omega)
  refine ⟨?_, ?_, fun k hk => ?_⟩
  · rw [e]
    refine tX8_turn__0_1 ?_ ?_ ?_ ?_ ?_ (by omega) (by omega) g50
    · rw [kB 52 (by omega)]; exact hoff2
    · rw [kB 51 (by omega), ← h.1.1.1.2.1.2.1]; exact n3
    · rw [kB 51 (by omega), ← h.1.1.1.2.1.2.2]; exact n6
    · exact (tgE h2.1 h2.2.1.1).trans t2
    · rw [← h2.1.1.1.1.1 1 (by decide)]; exact w1
  · exact row_RR (RR_th h2 0) _
  · exact funext fun j => by rw [mI_ne _ _ _ _ (by omega), mI_ne _ _ _ _ (by omega), th_k _ _ hk]
theorem P_turn_1_1 (h : RR n M M) (h3 : M.1 3 3 = 1) (h6 : M.1 6 3 = 1) : PR l G n yX7_turn cX7_turn 7 ((some FieldType.int)) 5 134 [.ref 0, .int 1, .int 1] yX8_turn_ cX8_turn_ 9 ((some FieldType.int)) 4 104 [.ref 46, .int 1, .int 1] M := by
  have hon := on_R h
  have n3 : ¬ M.1 3 3 = 0 := by rw [h3]; decide
  have n6 : ¬ M.1 6 3 = 0 := by rw [h6]; decide
  have hoff : ¬ M.1 19 1 = 1 := fun q => absurd (h3.symm.trans (h.2.1.2.1.2.2.2.2.1 q).1) (by decide)
  have hoff2 : ¬ M.1 52 1 = 1 := fun q => hoff (h.1.1.2.1.1.2.1.trans q)
  obtain ⟨tg, t1, t2⟩ := tgt_n h.2.1.1 (M.1 9 8) (M.1 14 8)
  obtain ⟨gg, cap, la, sn, ⟨w0, w1, w2, w3⟩, w4, w5, w6, w7⟩ := h.2.1.1
  have hfr : RR n (mI (mI M 0 13 1) 0 14 (tuF 1 (tuW M 1 1 tg cap) 6).2) (mI (mI M 46 11 (tuF 1 (tuW M 1 1 tg cap) 6).2) 46 12 1) := row_RR h _
  have hC := tX7_turn_1_1 (l := l) (G := G) (M := M) n3 n6 t2 w1 (by omega) (by omega)
  have hW : ∀ r, r < 6 → tuW M 1 1 tg cap r = mtW M 1 1 tg cap r := fun r _ => tuW_R h h3 h6 _ _ _ _ (by decide) r
  have kA : ∀ k, 46 ≤ k → (mI (mI M 0 13 1) 0 14 (tuF 1 (tuW M 1 1 tg cap) 6).2).1 k = M.1 k := fun k hk => funext fun j => by rw [mI_ne _ _ _ _ (by omega), mI_ne _ _ _ _ (by omega)]
  refine PR_R (fun M1 => mI (mI (mI M1 46 13 0) 46 11 (tuF 1 (tuW M 1 1 tg cap) 6).2) 46 12 1) hC kA (fun M1 h1 kB => ?_)
  have h2 := RR_ml h (M1 := M1) (fun k hk _ => kB k hk)
  have e : tuF 1 (tuW M 1 1 tg cap) 6 = tuF 1 (mtW M1 1 1 tg cap) 6 := tuF_cg _ 6 (by decide) (fun r _ => tuW_R h2 h3 h6 _ _ _ _ (by decide) r)
  have g50 : ∀ k, k < 12 → isP (M1.1 50 k) := fun k hk => by
    have s6 := h2.1.1.1.2.2.1
    by_cases q : k < 6
    · rw [← (s6 k q).1]; exact (h.2.1.2.1.2.2.2.1.1 h3).1 k q
    · have := s6 (k - 6) (by omega)
      rw [show 6 + (k - 6) = k by omega] at this
      rw [← this.2]; exact (h.2.1.2.1.2.2.2.1.2 h6).1 _ (by omega)
  refine ⟨?_, ?_, fun k hk => ?_⟩
  · rw [e]
    refine tX8_turn__1_1 ?_ ?_ ?_ ?_ ?_ (by omega) (by omega) g50
    · rw [kB 52 (by omega)]; exact hoff2
    · rw [kB 51 (by omega), ← h.1.1.1.2.1.2.1]; exact n3
    · rw [kB 51 (by omega), ← h.1.1.1.2.1.2.2]; exact n6
    · exact (tgE h2.1 h2.2.1.1).trans t2
    · rw [← h2.1.1.1.1.1 1 (by decide)]; exact w1
  · exact row_RR (RR_th h2 0) _
  · exact funext fun j => by rw [mI_ne _ _ _ _ (by omega), mI_ne _ _ _ _ (by omega), th_k _ _ hk]
theorem P_turn (t f : Int32) (h : RR n M M) : PR l G n yX7_turn cX7_turn 7 ((some FieldType.int)) 5 134 [.ref 0, .int t, .int f] yX8_turn_ cX8_turn_ 9 ((some FieldType.int)) 4 104 [.ref 46, .int t, .int f] M := by
  have b9 := h.2.1.2.1.2.1.1.1
  have b10 := h.2.1.2.1.2.1.1.2
  by_cases hc : isT t ∧ isT f ∧ ¬ M.1 3 3 = 0 ∧ ¬ M.1 6 3 = 0
  · obtain ⟨ht, hf, h3, h6⟩ := hc
    have h3 := (isB_ne b9).mp h3
    have h6 := (isB_ne b10).mp h6
    rcases ht with rfl | rfl <;> rcases hf with rfl | rfl
    · exact P_turn_0_0 h h3 h6
    · exact P_turn_0_1 h h3 h6
    · exact P_turn_1_0 h h3 h6
    · exact P_turn_1_1 h h3 h6
  · exact PR_S h (tX7_turn_no hc) (tX8_turn__no (fun q => hc ⟨q.1, q.2.1, by rw [h.1.1.1.2.1.2.1]; exact q.2.2.2.1, by rw [h.1.1.1.2.1.2.2]; exact q.2.2.2.2⟩)) rfl
end

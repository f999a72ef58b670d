/-! pairs of calls: advice -/
section
variable {l : Launch} {G : mx_G} {n : Nat} {M : mx_Mem}
theorem P_advice_0 (hn : n ≤ 1000) (h : RR n M M) (ho1 : M.1 19 1 = 1) : PR l G n yX7_advice cX7_advice 7 ((some FieldType.int)) 6 158 [.ref 0, .int 0] yX8_advice cX8_advice 7 ((some FieldType.int)) 4 104 [.ref 46, .int 0] M := by
  have ho : ¬ M.1 19 1 = 0 := by rw [ho1]; decide
  obtain ⟨s, p0, p1, tg, cap, hs, hS, hMO, -, -⟩ := RR_SO h ho1
  have hC : mx_Met l G yX7_advice cX7_advice 7 ((some FieldType.int)) 6 158 [.ref 0, .int 0] M (fun r N => r = some (.int (adF 0 (adM M 9) (adW M 40 s p0 p1 tg cap) (nI (chV (tkC M) s p0 p1 tg cap)) 144).1) ∧ if (adF 0 (adM M 9) (adW M 40 s p0 p1 tg cap) (nI (chV (tkC M) s p0 p1 tg cap)) 144).1 = -2 then frC M N else frC (mI (mI M 0 13 1) 0 14 (adF 0 (adM M 9) (adW M 40 s p0 p1 tg cap) (nI (chV (tkC M) s p0 p1 tg cap)) 144).2) N) := by
    rcases hs with rfl | rfl
    · exact tX7_advice_0_0 ho hS
    · exact tX7_advice_0_1 ho hS
  have key : ∀ M1 : mx_Mem, (∀ k, 46 ≤ k → M1.1 k = M.1 k) → RR n M (mI M1 46 13 0) ∧ mx_Met l G yX8_advice cX8_advice 7 ((some FieldType.int)) 4 104 [.ref 46, .int 0] M1 (fun r N => r = some (.int (adF 0 (adM M 9) (adW M 40 s p0 p1 tg cap) (nI (chV (tkC M) s p0 p1 tg cap)) 144).1) ∧ if (adF 0 (adM M 9) (adW M 40 s p0 p1 tg cap) (nI (chV (tkC M) s p0 p1 tg cap)) 144).1 = -2 then frM (mI M1 46 13 0) N else frM (mI (mI (mI M1 46 13 0) 46 11 (adF 0 (adM M 9) (adW M 40 s p0 p1 tg cap) (nI (chV (tkC M) s p0 p1 tg cap)) 144).2) 46 12 1) N) := by
    intro M1 kA
    have h2 := RR_th (RR_ml h (M1 := M1) (fun k hk _ => kA k hk)) 0
    have hE := EC_now hn h2 ho1
    have hMO1 : MO (mI M1 46 13 0) s p0 p1 tg cap := by
      have e52 : (mI M1 46 13 0).1 52 = M.1 52 := kA 52 (by omega)
      have e49 : (mI M1 46 13 0).1 49 = M.1 49 := kA 49 (by omega)
      unfold MO tgM at hMO ⊢
      rw [e52, e49]
      exact hMO
    have o1 : M1.1 52 1 = 1 := by rw [kA 52 (by omega)]; exact h.1.1.2.1.1.2.1.symm.trans ho1
    have e : adF 0 (adM M 9) (adW M 40 s p0 p1 tg cap) (nI (chV (tkC M) s p0 p1 tg cap)) 144 = adF 0 (mmA_0 (mI M1 46 13 0)) (maW_0 (mI M1 46 13 0) s p0 p1 tg cap) (nI (UU tg cap (moN (cnM (mI M1 46 13 0))) p0 p1 s 0 0)) 144 := by
      rw [VU0 hE (by omega)]
      exact adF_cg _ _ (fun o i => adM_R_0 hn h2 o i) (fun o i _ hi hm => adW_R_0 hn h2 (by omega) hi hm) 144 (Nat.le_refl _)
    rw [e]
    exact ⟨h2, tX8_advice_0 o1 hMO1 hE.2.2⟩
  generalize adF 0 (adM M 9) (adW M 40 s p0 p1 tg cap) (nI (chV (tkC M) s p0 p1 tg cap)) 144 = A at hC key
  by_cases e2 : A.1 = -2
  · refine PR_R (fun M1 => mI M1 46 13 0) (v := A.1) (A1 := M) (mx_mono hC (fun r N q => ⟨q.1, ?_⟩)) (fun _ _ => rfl) (fun M1 h1 kA => ?_)
    · have q2 := q.2
      rw [if_pos e2] at q2
      exact q2
    · obtain ⟨g1, g2⟩ := key M1 kA
      refine ⟨mx_mono g2 (fun r N q => ⟨q.1, ?_⟩), g1, fun k hk => th_k _ _ hk⟩
      have q2 := q.2
      rw [if_pos e2] at q2
      exact q2
  · have kB : ∀ k, 46 ≤ k → (mI (mI M 0 13 1) 0 14 A.2).1 k = M.1 k := fun k hk => funext fun j => by rw [mI_ne _ _ _ _ (by omega), mI_ne _ _ _ _ (by omega)]
    refine PR_R (fun M1 => mI (mI (mI M1 46 13 0) 46 11 A.2) 46 12 1) (v := A.1) (A1 := mI (mI M 0 13 1) 0 14 A.2) (mx_mono hC (fun r N q => ⟨q.1, ?_⟩)) kB (fun M1 h1 kA => ?_)
    · have q2 := q.2
      rw [if_neg e2] at q2
      exact q2
    · obtain ⟨g1, g2⟩ := key M1 kA
      refine ⟨mx_mono g2 (fun r N q => ⟨q.1, ?_⟩), row_RR g1 _, fun k hk => funext fun j => by rw [mI_ne _ _ _ _ (by omega), mI_ne _ _ _ _ (by omega), th_k _ _ hk]⟩
      have q2 := q.2
      rw [if_neg e2] at q2
      exact q2
theorem P_advice_1 (hn : n ≤ 1000) (h : RR n M M) (ho1 : M.1 19 1 = 1) : PR l G n yX7_advice cX7_advice 7 ((some FieldType.int)) 6 158 [.ref 0, .int 1] yX8_advice cX8_advice 7 ((some FieldType.int)) 4 104 [.ref 46, .int 1] M := by
  have ho : ¬ M.1 19 1 = 0 := by rw [ho1]; decide
  obtain ⟨s, p0, p1, tg, cap, hs, hS, hMO, -, -⟩ := RR_SO h ho1
  have hC : mx_Met l G yX7_advice cX7_advice 7 ((some FieldType.int)) 6 158 [.ref 0, .int 1] M (fun r N => r = some (.int (adF 1 (adM M 14) (adW M 41 s p0 p1 tg cap) (nI (chV (tkC M) s p0 p1 tg cap)) 144).1) ∧ if (adF 1 (adM M 14) (adW M 41 s p0 p1 tg cap) (nI (chV (tkC M) s p0 p1 tg cap)) 144).1 = -2 then frC M N else frC (mI (mI M 0 13 1) 0 14 (adF 1 (adM M 14) (adW M 41 s p0 p1 tg cap) (nI (chV (tkC M) s p0 p1 tg cap)) 144).2) N) := by
    rcases hs with rfl | rfl
    · exact tX7_advice_1_0 ho hS
    · exact tX7_advice_1_1 ho hS
  have key : ∀ M1 : mx_Mem, (∀ k, 46 ≤ k → M1.1 k = M.1 k) → RR n M (mI M1 46 13 0) ∧ mx_Met l G yX8_advice cX8_advice 7 ((some FieldType.int)) 4 104 [.ref 46, .int 1] M1 (fun r N => r = some (.int (adF 1 (adM M 14) (adW M 41 s p0 p1 tg cap) (nI (chV (tkC M) s p0 p1 tg cap)) 144).1) ∧ if (adF 1 (adM M 14) (adW M 41 s p0 p1 tg cap) (nI (chV (tkC M) s p0 p1 tg cap)) 144).1 = -2 then frM (mI M1 46 13 0) N else frM (mI (mI (mI M1 46 13 0) 46 11 (adF 1 (adM M 14) (adW M 41 s p0 p1 tg cap) (nI (chV (tkC M) s p0 p1 tg cap)) 144).2) 46 12 1) N) := by
    intro M1 kA
    have h2 := RR_th (RR_ml h (M1 := M1) (fun k hk _ => kA k hk)) 0
    have hE := EC_now hn h2 ho1
    have hMO1 : MO (mI M1 46 13 0) s p0 p1 tg cap := by
      have e52 : (mI M1 46 13 0).1 52 = M.1 52 := kA 52 (by omega)
      have e49 : (mI M1 46 13 0).1 49 = M.1 49 := kA 49 (by omega)
      unfold MO tgM at hMO ⊢
      rw [e52, e49]
      exact hMO
    have o1 : M1.1 52 1 = 1 := by rw [kA 52 (by omega)]; exact h.1.1.2.1.1.2.1.symm.trans ho1
    have e : adF 1 (adM M 14) (adW M 41 s p0 p1 tg cap) (nI (chV (tkC M) s p0 p1 tg cap)) 144 = adF 1 (mmA_1 (mI M1 46 13 0)) (maW_1 (mI M1 46 13 0) s p0 p1 tg cap) (nI (UU tg cap (moN (cnM (mI M1 46 13 0))) p0 p1 s 0 0)) 144 := by
      rw [VU0 hE (by omega)]
      exact adF_cg _ _ (fun o i => adM_R_1 hn h2 o i) (fun o i _ hi hm => adW_R_1 hn h2 (by omega) hi hm) 144 (Nat.le_refl _)
    rw [e]
    exact ⟨h2, tX8_advice_1 o1 hMO1 hE.2.2⟩
  generalize adF 1 (adM M 14) (adW M 41 s p0 p1 tg cap) (nI (chV (tkC M) s p0 p1 tg cap)) 144 = A at hC key
  by_cases e2 : A.1 = -2
  · refine PR_R (fun M1 => mI M1 46 13 0) (v := A.1) (A1 := M) (mx_mono hC (fun r N q => ⟨q.1, ?_⟩)) (fun _ _ => rfl) (fun M1 h1 kA => ?_)
    · have q2 := q.2
      rw [if_pos e2] at q2
      exact q2
    · obtain ⟨g1, g2⟩ := key M1 kA
      refine ⟨mx_mono g2 (fun r N q => ⟨q.1, ?_⟩), g1, fun k hk => th_k _ _ hk⟩
      have q2 := q.2
      rw [if_pos e2] at q2
      exact q2
  · have kB : ∀ k, 46 ≤ k → (mI (mI M 0 13 1) 0 14 A.2).1 k = M.1 k := fun k hk => funext fun j => by rw [mI_ne _ _ _ _ (by omega), mI_ne _ _ _ _ (by omega)]
    refine PR_R (fun M1 => mI (mI (mI M1 46 13 0) 46 11 A.2) 46 12 1) (v := A.1) (A1 := mI (mI M 0 13 1) 0 14 A.2) (mx_mono hC (fun r N q => ⟨q.1, ?_⟩)) kB (fun M1 h1 kA => ?_)
    · have q2 := q.2
      rw [if_neg e2] at q2
      exact q2
    · obtain ⟨g1, g2⟩ := key M1 kA
      refine ⟨mx_mono g2 (fun r N q => ⟨q.1, ?_⟩), row_RR g1 _, fun k hk => funext fun j => by rw [mI_ne _ _ _ _ (by omega), mI_ne _ _ _ _ (by omega), th_k _ _ hk]⟩
      have q2 := q.2
      rw [if_neg e2] at q2
      exact q2
theorem P_advice (t : Int32) (hn : n ≤ 1000) (h : RR n M M) : PR l G n yX7_advice cX7_advice 7 ((some FieldType.int)) 6 158 [.ref 0, .int t] yX8_advice cX8_advice 7 ((some FieldType.int)) 4 104 [.ref 46, .int t] M := by
  have hon := on_R h
  by_cases hc : isT t ∧ ¬ M.1 19 1 = 0
  · obtain ⟨ht, ho⟩ := hc
    have ho1 := (isB_ne h.2.1.2.1.1.1.1).mp ho
    rcases ht with rfl | rfl
    · exact P_advice_0 hn h ho1
    · exact P_advice_1 hn h ho1
  · exact PR_S h (tX7_advice_no hc) (tX8_advice_no (fun q => hc ⟨q.1, fun w => hon.mp w q.2⟩)) rfl
end

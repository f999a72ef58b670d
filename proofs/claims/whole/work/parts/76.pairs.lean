/-! pairs of calls: rallies, pauses, FREE, changes, servers found wrong -/
theorem th_k (B : mx_Mem) (v : Int32) {k : Nat} (hk : k < 46) : (mI B 46 13 v).1 k = B.1 k := funext fun j => mI_ne _ _ _ _ (by omega)
theorem mdp_ne_0 (B : mx_Mem) {k : Nat} (hk : k ≠ 52) : (mdpM_0 B).1 k = B.1 k := by
  funext j
  unfold mdpM_0
  split
  · rfl
  · rw [mI_ne _ _ _ _ hk]
theorem mf_ne_0 (B : mx_Mem) (p : Int32) {k : Nat} (hk : k ≠ 52) : (mfM_0 B p).1 k = B.1 k := by
  funext j
  unfold mfM_0 mfF_0 mfN_0
  repeat' split
  all_goals simp only [mI_ne _ _ _ _ hk]
theorem mdc_ne_0 (B : mx_Mem) (x y : Int32) {k : Nat} (hk : k ≠ 52) : (if mmC_0 B x y = 0 then mdc_0 B x y else B).1 k = B.1 k := by
  funext j
  unfold mdc_0
  dsimp only
  split
  · simp only [mI_ne _ _ _ _ hk]
    split
    · simp only [mI_ne _ _ _ _ hk]
    · simp only [mI_ne _ _ _ _ hk]
  · rfl
theorem mdp_ne_1 (B : mx_Mem) {k : Nat} (hk : k ≠ 52) : (mdpM_1 B).1 k = B.1 k := by
  funext j
  unfold mdpM_1
  split
  · rfl
  · rw [mI_ne _ _ _ _ hk]
theorem mf_ne_1 (B : mx_Mem) (p : Int32) {k : Nat} (hk : k ≠ 52) : (mfM_1 B p).1 k = B.1 k := by
  funext j
  unfold mfM_1 mfF_1 mfN_1
  repeat' split
  all_goals simp only [mI_ne _ _ _ _ hk]
theorem mdc_ne_1 (B : mx_Mem) (x y : Int32) {k : Nat} (hk : k ≠ 52) : (if mmC_1 B x y = 0 then mdc_1 B x y else B).1 k = B.1 k := by
  funext j
  unfold mdc_1
  dsimp only
  split
  · simp only [mI_ne _ _ _ _ hk]
    split
    · simp only [mI_ne _ _ _ _ hk]
    · simp only [mI_ne _ _ _ _ hk]
  · rfl
section
variable {l : Launch} {G : mx_G} {n : Nat} {M : mx_Mem}
theorem P_pause_0 (h : RR n M M) : PR l G n yX7_pause cX7_pause 3 ((some FieldType.int)) 1 21 [.ref 0, .int 0] yX8_pause cX8_pause 2 ((some FieldType.int)) 2 44 [.ref 46, .int 0] M := by
  have h1 := RR_ml h (M1 := paM M 9) (fun k _ _ => pa_ne_0 M (Or.inr (by omega)))
  obtain ⟨e1, e2⟩ := pause_R_0 (RR_th h1 0)
  have hC : mx_Met l G yX7_pause cX7_pause 3 ((some FieldType.int)) 1 21 [.ref 0, .int 0] M (mx_F (some (.int (paR M 9))) (paM M 9)) := tX7_pause_0
  have hM : mx_Met l G yX8_pause cX8_pause 2 ((some FieldType.int)) 2 44 [.ref 46, .int 0] (paM M 9) (mx_F (some (.int (mdpR_0 (mI (paM M 9) 46 13 0)))) (mdpM_0 (mI (paM M 9) 46 13 0))) := tX8_pause_0
  exact PR_F hC hM e1 e2 (fun k hk => by rw [mdp_ne_0 _ (by omega), th_k _ _ hk])
theorem P_rally_0 (hn : n ≤ 1000) (h : RR n M M) : PR l G n yX7_rally cX7_rally 2 ((some FieldType.int)) 3 70 [.ref 0, .int 0] yX8_rally cX8_rally 2 ((some FieldType.int)) 4 85 [.ref 46, .int 0] M := by
  have h1 := RR_ml h (M1 := rlM M 9 14 0) (fun k _ _ => rl_ne_0 M (Or.inr (by omega)))
  obtain ⟨e1, e2⟩ := rally_R_0 hn (RR_th h1 0)
  have hO := h.2.1.2.1.2.2.1 0 (by decide)
  have hmi := RR_MI hn h1
  have hC : mx_Met l G yX7_rally cX7_rally 2 ((some FieldType.int)) 3 70 [.ref 0, .int 0] M (mx_F (some (.int (rlR M 9 14 0))) (rlM M 9 14 0)) := tX7_rally_0 (fun _ => hO.1)
  generalize rlM M 9 14 0 = A1 at h1 e1 e2 hmi hC
  have hM : mx_Met l G yX8_rally cX8_rally 2 ((some FieldType.int)) 4 85 [.ref 46, .int 0] A1 (mx_F (some (.int (if (mI A1 46 13 0).1 52 1 = 1 then ptR_0 (ptB_0 (mI A1 46 13 0)) (tgM (mI A1 46 13 0)) else -1))) (if (mI A1 46 13 0).1 52 1 = 1 then ptM_0 (ptB_0 (mI A1 46 13 0)) (tgM (mI A1 46 13 0)) else mI A1 46 13 0)) := tX8_rally_0 (fun q => (hmi q).1.1)
  refine PR_F hC hM e1 e2 (fun k hk => ?_)
  split
  · rw [mpt_ne_0 _ _ (by omega), th_k _ _ hk]
  · rw [th_k _ _ hk]
theorem P_change_0 (hn : n ≤ 1000) (h : RR n M M) (x y : Int32) : PR l G n yX7_change cX7_change 4 ((some FieldType.int)) 3 68 [.ref 0, .int 0, .int x, .int y] yX8_change cX8_change 4 ((some FieldType.int)) 3 70 [.ref 46, .int 0, .int x, .int y] M := by
  have h1 := RR_ml h (M1 := chM M 9 x y) (fun k _ _ => ch_ne_0 M x y (Or.inr (by omega)))
  obtain ⟨e1, e2⟩ := chg_R_0 hn (RR_th h1 0) x y
  have hC : mx_Met l G yX7_change cX7_change 4 ((some FieldType.int)) 3 68 [.ref 0, .int 0, .int x, .int y] M (mx_F (some (.int (chR M 9 x y))) (chM M 9 x y)) := tX7_change_0
  generalize chM M 9 x y = A1 at h1 e1 e2 hC
  exact PR_F hC tX8_change_0 e1 e2 (fun k hk => by rw [mdc_ne_0 _ _ _ (by omega), th_k _ _ hk])
theorem P_free_0 (hn : n ≤ 1000) (h : RR n M M) (p : Int32) : PR l G n yX7_free cX7_free 4 ((some FieldType.int)) 2 44 [.ref 0, .int 0, .int p] yX8_free cX8_free 3 ((some FieldType.int)) 3 68 [.ref 46, .int 0, .int p] M := by
  have h1 := RR_ml h (M1 := frM_0 M p) (fun k _ _ => fr_ne_0 M p (Or.inr (by omega)))
  obtain ⟨e1, e2⟩ := free_R_0 hn (RR_th h1 0) p
  have hmi := RR_MI hn h1
  have hC : mx_Met l G yX7_free cX7_free 4 ((some FieldType.int)) 2 44 [.ref 0, .int 0, .int p] M (mx_F (some (.int (frR_0 M p))) (frM_0 M p)) := tX7_free_0
  generalize frM_0 M p = A1 at h1 e1 e2 hmi hC
  by_cases ho : A1.1 52 1 = 1
  · exact PR_F hC (tX8_freeF_0 (hmi ho).2.1) e1 e2 (fun k hk => by rw [mf_ne_0 _ _ (by omega), th_k _ _ hk])
  · have hk : ¬ mfK_0 (mI A1 46 13 0) := fun q => ho q.1
    unfold mfR_0 at e1
    unfold mfM_0 at e2
    rw [if_neg hk] at e1 e2
    exact PR_F hC (tX8_free_off_0 ho) e1 e2 (fun k hk => th_k _ _ hk)
theorem P_may_0 (hn : n ≤ 1000) (h : RR n M M) (x y : Int32) : PR l G n yX7_may cX7_may 5 ((some FieldType.int)) 2 44 [.ref 0, .int 0, .int x, .int y] yX8_may cX8_may 4 ((some FieldType.int)) 3 70 [.ref 46, .int 0, .int x, .int y] M := PR_S h tX7_may_0 tX8_may_0 (may_R_0 hn h x y)
theorem P_pause_1 (h : RR n M M) : PR l G n yX7_pause cX7_pause 3 ((some FieldType.int)) 1 21 [.ref 0, .int 1] yX8_pause cX8_pause 2 ((some FieldType.int)) 2 44 [.ref 46, .int 1] M := by
  have h1 := RR_ml h (M1 := paM M 14) (fun k _ _ => pa_ne_1 M (Or.inr (by omega)))
  obtain ⟨e1, e2⟩ := pause_R_1 (RR_th h1 0)
  have hC : mx_Met l G yX7_pause cX7_pause 3 ((some FieldType.int)) 1 21 [.ref 0, .int 1] M (mx_F (some (.int (paR M 14))) (paM M 14)) := tX7_pause_1
  have hM : mx_Met l G yX8_pause cX8_pause 2 ((some FieldType.int)) 2 44 [.ref 46, .int 1] (paM M 14) (mx_F (some (.int (mdpR_1 (mI (paM M 14) 46 13 0)))) (mdpM_1 (mI (paM M 14) 46 13 0))) := tX8_pause_1
  exact PR_F hC hM e1 e2 (fun k hk => by rw [mdp_ne_1 _ (by omega), th_k _ _ hk])
theorem P_rally_1 (hn : n ≤ 1000) (h : RR n M M) : PR l G n yX7_rally cX7_rally 2 ((some FieldType.int)) 3 70 [.ref 0, .int 1] yX8_rally cX8_rally 2 ((some FieldType.int)) 4 85 [.ref 46, .int 1] M := by
  have h1 := RR_ml h (M1 := rlM M 14 9 1) (fun k _ _ => rl_ne_1 M (Or.inr (by omega)))
  obtain ⟨e1, e2⟩ := rally_R_1 hn (RR_th h1 0)
  have hO := h.2.1.2.1.2.2.1 0 (by decide)
  have hmi := RR_MI hn h1
  have hC : mx_Met l G yX7_rally cX7_rally 2 ((some FieldType.int)) 3 70 [.ref 0, .int 1] M (mx_F (some (.int (rlR M 14 9 1))) (rlM M 14 9 1)) := tX7_rally_1 (fun _ => hO.2)
  generalize rlM M 14 9 1 = A1 at h1 e1 e2 hmi hC
  have hM : mx_Met l G yX8_rally cX8_rally 2 ((some FieldType.int)) 4 85 [.ref 46, .int 1] A1 (mx_F (some (.int (if (mI A1 46 13 0).1 52 1 = 1 then ptR_1 (ptB_1 (mI A1 46 13 0)) (tgM (mI A1 46 13 0)) else -1))) (if (mI A1 46 13 0).1 52 1 = 1 then ptM_1 (ptB_1 (mI A1 46 13 0)) (tgM (mI A1 46 13 0)) else mI A1 46 13 0)) := tX8_rally_1 (fun q => (hmi q).1.2)
  refine PR_F hC hM e1 e2 (fun k hk => ?_)
  split
  · rw [mpt_ne_1 _ _ (by omega), th_k _ _ hk]
  · rw [th_k _ _ hk]
theorem P_change_1 (hn : n ≤ 1000) (h : RR n M M) (x y : Int32) : PR l G n yX7_change cX7_change 4 ((some FieldType.int)) 3 68 [.ref 0, .int 1, .int x, .int y] yX8_change cX8_change 4 ((some FieldType.int)) 3 70 [.ref 46, .int 1, .int x, .int y] M := by
  have h1 := RR_ml h (M1 := chM M 14 x y) (fun k _ _ => ch_ne_1 M x y (Or.inr (by omega)))
  obtain ⟨e1, e2⟩ := chg_R_1 hn (RR_th h1 0) x y
  have hC : mx_Met l G yX7_change cX7_change 4 ((some FieldType.int)) 3 68 [.ref 0, .int 1, .int x, .int y] M (mx_F (some (.int (chR M 14 x y))) (chM M 14 x y)) := tX7_change_1
  generalize chM M 14 x y = A1 at h1 e1 e2 hC
  exact PR_F hC tX8_change_1 e1 e2 (fun k hk => by rw [mdc_ne_1 _ _ _ (by omega), th_k _ _ hk])
theorem P_free_1 (hn : n ≤ 1000) (h : RR n M M) (p : Int32) : PR l G n yX7_free cX7_free 4 ((some FieldType.int)) 2 44 [.ref 0, .int 1, .int p] yX8_free cX8_free 3 ((some FieldType.int)) 3 68 [.ref 46, .int 1, .int p] M := by
  have h1 := RR_ml h (M1 := frM_1 M p) (fun k _ _ => fr_ne_1 M p (Or.inr (by omega)))
  obtain ⟨e1, e2⟩ := free_R_1 hn (RR_th h1 0) p
  have hmi := RR_MI hn h1
  have hC : mx_Met l G yX7_free cX7_free 4 ((some FieldType.int)) 2 44 [.ref 0, .int 1, .int p] M (mx_F (some (.int (frR_1 M p))) (frM_1 M p)) := tX7_free_1
  generalize frM_1 M p = A1 at h1 e1 e2 hmi hC
  by_cases ho : A1.1 52 1 = 1
  · exact PR_F hC (tX8_freeF_1 (hmi ho).2.2) e1 e2 (fun k hk => by rw [mf_ne_1 _ _ (by omega), th_k _ _ hk])
  · have hk : ¬ mfK_1 (mI A1 46 13 0) := fun q => ho q.1
    unfold mfR_1 at e1
    unfold mfM_1 at e2
    rw [if_neg hk] at e1 e2
    exact PR_F hC (tX8_free_off_1 ho) e1 e2 (fun k hk => th_k _ _ hk)
theorem P_may_1 (hn : n ≤ 1000) (h : RR n M M) (x y : Int32) : PR l G n yX7_may cX7_may 5 ((some FieldType.int)) 2 44 [.ref 0, .int 1, .int x, .int y] yX8_may cX8_may 4 ((some FieldType.int)) 3 70 [.ref 46, .int 1, .int x, .int y] M := PR_S h tX7_may_1 tX8_may_1 (may_R_1 hn h x y)
theorem P_pause (t : Int32) (h : RR n M M) : PR l G n yX7_pause cX7_pause 3 ((some FieldType.int)) 1 21 [.ref 0, .int t] yX8_pause cX8_pause 2 ((some FieldType.int)) 2 44 [.ref 46, .int t] M := by
  by_cases h0 : t = 0
  · subst h0; exact P_pause_0 h
  · by_cases h1 : t = 1
    · subst h1; exact P_pause_1 h
    · exact PR_S h (tX7_pause_n (fun q => q.elim h0 h1)) (tX8_pause_n (fun q => q.elim h0 h1)) rfl
theorem P_rally (t : Int32) (hn : n ≤ 1000) (h : RR n M M) : PR l G n yX7_rally cX7_rally 2 ((some FieldType.int)) 3 70 [.ref 0, .int t] yX8_rally cX8_rally 2 ((some FieldType.int)) 4 85 [.ref 46, .int t] M := by
  by_cases h0 : t = 0
  · subst h0; exact P_rally_0 hn h
  · by_cases h1 : t = 1
    · subst h1; exact P_rally_1 hn h
    · exact PR_S h (tX7_rally_n (fun q => q.elim h0 h1)) (tX8_rally_n (fun q => q.elim h0 h1)) rfl
theorem P_change (t x y : Int32) (hn : n ≤ 1000) (h : RR n M M) : PR l G n yX7_change cX7_change 4 ((some FieldType.int)) 3 68 [.ref 0, .int t, .int x, .int y] yX8_change cX8_change 4 ((some FieldType.int)) 3 70 [.ref 46, .int t, .int x, .int y] M := by
  by_cases h0 : t = 0
  · subst h0; exact P_change_0 hn h x y
  · by_cases h1 : t = 1
    · subst h1; exact P_change_1 hn h x y
    · exact PR_S h (tX7_change_n (fun q => q.elim h0 h1)) (tX8_change_n (fun q => q.elim h0 h1)) rfl
theorem P_may (t x y : Int32) (hn : n ≤ 1000) (h : RR n M M) : PR l G n yX7_may cX7_may 5 ((some FieldType.int)) 2 44 [.ref 0, .int t, .int x, .int y] yX8_may cX8_may 4 ((some FieldType.int)) 3 70 [.ref 46, .int t, .int x, .int y] M := by
  by_cases h0 : t = 0
  · subst h0; exact P_may_0 hn h x y
  · by_cases h1 : t = 1
    · subst h1; exact P_may_1 hn h x y
    · exact PR_S h (tX7_may_n (fun q => q.elim h0 h1)) (tX8_may_n (fun q => q.elim h0 h1)) rfl
theorem P_free (t p : Int32) (hn : n ≤ 1000) (h : RR n M M) : PR l G n yX7_free cX7_free 4 ((some FieldType.int)) 2 44 [.ref 0, .int t, .int p] yX8_free cX8_free 3 ((some FieldType.int)) 3 68 [.ref 46, .int t, .int p] M := by
  by_cases h0 : t = 0
  · subst h0; exact P_free_0 hn h p
  · by_cases h1 : t = 1
    · subst h1; exact P_free_1 hn h p
    · exact PR_S h (tX7_free_n (fun q => q.elim h0 h1)) (tX8_free_n (fun q => q.elim h0 h1)) rfl
end

/-! pairs of calls: servers found wrong; what is asked -/
theorem IT_0_of {A A' : mx_Mem} (h : IT_0 A) (f : ∀ k, k ≠ 9 → k ≠ 14 → A'.1 k = A.1 k) (g : ∀ j, j ≠ 7 → A'.1 9 j = A.1 9 j) : IT_0 A' := IT_cg_0 h (fun k _ _ => f k (by omega) (by omega)) (g 4 (by decide)) (g 5 (by decide)) (by rw [f 3 (by decide) (by decide)])
theorem IT_1_of {A A' : mx_Mem} (h : IT_1 A) (f : ∀ k, k ≠ 9 → k ≠ 14 → A'.1 k = A.1 k) (g : ∀ j, j ≠ 7 → A'.1 14 j = A.1 14 j) : IT_1 A' := IT_cg_1 h (fun k _ _ => f k (by omega) (by omega)) (g 4 (by decide)) (g 5 (by decide)) (by rw [f 6 (by decide) (by decide)])
/-- points fall: the streak isn't bounded by them till the next rally -/
theorem wrong_RG_0 {n : Nat} {A B : mx_Mem} (h : RR n A B) (ho : A.1 19 1 = 1) (hs : A.1 19 2 = 0) {k : Int32} (h0 : 0 ≤ k) (hk : k ≤ A.1 19 3) : RG False n (mI A 9 7 (A.1 9 7 - k)) (mI B 52 6 (B.1 52 6 - k)) := by
  obtain ⟨⟨⟨hS, hK, hF⟩, ⟨n0, a0, x0⟩, n1, a1, x1⟩, ⟨iN, iB, iP⟩, iQ⟩ := h
  obtain ⟨⟨t0, t1⟩, p0, p1, st, cap, ⟨P1, P2, P3, P4⟩, ⟨P5, P6, P7⟩, P8⟩ := iQ ho
  have hst : st ≤ p0 := by
    rcases P8 with ⟨e, w⟩ | ⟨e, w⟩
    · first | exact w trivial | exact absurd (e.symm.trans hs) (by decide)
    · first | exact w trivial | exact absurd (e.symm.trans hs) (by decide)
  obtain ⟨m, -, hm, em⟩ := le_n (a := 0) (b := st) (by omega) h0 (by rw [← P3]; exact hk) (by decide)
  have eN : EN_0 A B := by first | exact n0 | exact n1
  have ev : A.1 9 7 - k = B.1 52 6 - k := by rw [eN.1.1]
  rw [← ev]
  generalize hv : A.1 9 7 - k = v
  have hv2 : v = nI (p0 - m) := by rw [← hv, em, P1, pk_sub (by omega)]
  have fA : ∀ k, k ≠ 9 → (mI A 9 7 v).1 k = A.1 k := fun k hk => funext fun j => mI_ne _ _ _ _ hk
  have fc : ∀ j, j ≠ 7 → (mI A 9 7 v).1 9 j = A.1 9 j := fun j hj => mI_nj _ _ _ hj
  have fB : ∀ j, j ≠ 6 → (mI B 52 6 v).1 52 j = B.1 52 j := fun j hj => mI_nj _ _ _ hj
  have xN : EN_0 (mI A 9 7 v) (mI B 52 6 v) := by
    obtain ⟨⟨z1, z2, z3⟩, z4, z5, z6⟩ := eN
    exact ⟨⟨by rw [mI_self, mI_self], z2, z3⟩, z4, z5, z6⟩
  have xNo := EN_cg_1 n1 (A' := mI A 9 7 v) (B' := mI B 52 6 v) (fun j _ _ => by rw [fA 14 (by decide)]) (fun j hj => fB j (by omega))
  have xA0 := EA_cg_0 a0 (A' := mI A 9 7 v) (B' := mI B 52 6 v) (fun k _ _ => fA k (by omega)) (fun j _ _ => fB j (by omega))
  have xA1 := EA_cg_1 a1 (A' := mI A 9 7 v) (B' := mI B 52 6 v) (fun k _ _ => fA k (by omega)) (fun j _ _ => fB j (by omega))
  have xP0 := EP_cg_0 x0 (A' := mI A 9 7 v) (B' := mI B 52 6 v) rfl (fA 10 (by decide)) rfl rfl (fun j hj => fB j (by omega))
  have xP1 := EP_cg_1 x1 (A' := mI A 9 7 v) (B' := mI B 52 6 v) rfl (fA 15 (by decide)) rfl rfl (fun j hj => fB j (by omega))
  refine ⟨⟨⟨hS, hK, hF⟩, ⟨xN, xA0, xP0⟩, xNo, xA1, xP1⟩, ⟨iN, iB, iP⟩, fun _ => ⟨⟨IT_cg_0 t0 (fun k _ _ => fA k (by omega)) rfl rfl rfl, IT_cg_1 t1 (fun k _ _ => fA k (by omega)) rfl rfl rfl⟩, p0 - m, p1, st, cap, ⟨?_, ?_, P3, P4⟩, ⟨by omega, by omega, P7⟩, ?_⟩⟩
  · rw [mI_self]; exact hv2
  · exact P2
  · first | exact Or.inl ⟨hs, fun w => w.elim⟩ | exact Or.inr ⟨hs, fun w => w.elim⟩
section
variable {l : Launch} {G : mx_G} {n : Nat} {M : mx_Mem}
theorem P_wrong_0 (hn : n ≤ 1000) (h : RR n M M) (ho : M.1 19 1 = 1) (hs : M.1 19 2 = 0) (k : Int32) : PR l G n yX7_wrong cX7_wrong 2 ((some FieldType.int)) 3 70 [.ref 0, .int k] yX8_wrong cX8_wrong 3 ((some FieldType.int)) 4 85 [.ref 46, .int k] M := by
  have hO := h.2.1.2.1.2.2.1 0 (by decide)
  have hon0 : ¬ M.1 19 1 = 0 := by rw [ho]; decide
  have e52 : M.1 52 2 = 0 := by rw [h.1.1.2.1.2.1, if_pos ho, hs]
  have esi : M.1 52 11 = M.1 19 3 := by
    first
    | rw [h.1.1.2.1.2.2.1, if_pos hs]
    | rw [h.1.1.2.1.2.2.2, if_pos hs]
  have e1 : M.1 52 1 = 1 := h.1.1.2.1.1.2.1.symm.trans ho
  have hmi := RR_MI hn h e1
  by_cases hc : 0 ≤ k ∧ k ≤ M.1 19 3
  · have hcn : ¬ (M.1 19 1 = 0 ∨ ¬ 0 ≤ k ∨ ¬ k ≤ M.1 19 3) := fun w => w.elim hon0 (fun w => w.elim (fun w => w hc.1) (fun w => w hc.2))
    have hC : mx_Met l G yX7_wrong cX7_wrong 2 ((some FieldType.int)) 3 70 [.ref 0, .int k] M (mx_F (some (.int (clR (wgM_0 M k) 14 9))) (clM (wgM_0 M k) 14 9 1)) := by
      have w := tX7_wrong_0 (l := l) (G := G) (k := k) (M := M) hs hO.2
      rw [if_neg hcn, if_neg hcn] at w
      exact w
    have kA : ∀ j, 46 ≤ j → (clM (wgM_0 M k) 14 9 1).1 j = M.1 j := fun j hj => by
      rw [cl_ne_1 _ (Or.inr (by omega))]
      unfold wgM_0
      rw [wr_ne_1 _ (Or.inr (by omega))]
      exact funext fun i => mI_ne _ _ _ _ (by omega)
    have h1 := RR_ml h (M1 := clM (wgM_0 M k) 14 9 1) (fun j hj _ => kA j hj)
    have h2 := wrong_RG_0 (RR_th h1 0) ho hs hc.1 hc.2
    obtain ⟨w1, w2⟩ := point_R_1 (A := mI M 9 7 (M.1 9 7 - k)) hn (fun w => absurd (hs.symm.trans w) (by decide)) h2 ho
    generalize hA1 : clM (wgM_0 M k) 14 9 1 = A1 at kA h1 h2 hC w1 w2
    have hM : mx_Met l G yX8_wrong cX8_wrong 3 ((some FieldType.int)) 4 85 [.ref 46, .int k] A1 (mx_F (some (.int (ptR_1 (ptB_1 (mwg_0 A1 k)) (tgM (mwg_0 A1 k))))) (ptM_1 (ptB_1 (mwg_0 A1 k)) (tgM (mwg_0 A1 k)))) := by
      have w := tX8_wrong_0 (l := l) (G := G) (k := k) (M := A1) (by rw [kA 52 (by omega)]; exact e52) (by rw [kA 52 (by omega)]; exact hmi.1.2)
      have hcy : A1.1 52 1 = 1 ∧ 0 ≤ k ∧ k ≤ A1.1 52 11 := by
        rw [kA 52 (by omega)]
        exact ⟨e1, hc.1, by rw [esi]; exact hc.2⟩
      rw [if_pos hcy, if_pos hcy] at w
      exact w
    refine PR_F hC hM w1 ?_ (fun j hj => ?_)
    · rw [← hA1]
      rw [← hA1] at w2
      exact w2
    · rw [mpt_ne_1 _ _ (by omega)]
      unfold mwg_0
      rw [show (mI (mI A1 46 13 0) 52 6 (A1.1 52 6 - k)).1 j = (mI A1 46 13 0).1 j from funext fun i => mI_ne _ _ _ _ (by omega), th_k _ _ hj]
  · have hcn : M.1 19 1 = 0 ∨ ¬ 0 ≤ k ∨ ¬ k ≤ M.1 19 3 := by
      by_cases q : 0 ≤ k
      · exact Or.inr (Or.inr fun w => hc ⟨q, w⟩)
      · exact Or.inr (Or.inl q)
    have hC : mx_Met l G yX7_wrong cX7_wrong 2 ((some FieldType.int)) 3 70 [.ref 0, .int k] M (mx_F (some (.int (-1))) M) := by
      have w := tX7_wrong_0 (l := l) (G := G) (k := k) (M := M) hs hO.2
      rw [if_pos hcn, if_pos hcn] at w
      exact w
    have hM : mx_Met l G yX8_wrong cX8_wrong 3 ((some FieldType.int)) 4 85 [.ref 46, .int k] M (mx_F (some (.int (-1))) (mI M 46 13 0)) := by
      have w := tX8_wrong_0 (l := l) (G := G) (k := k) (M := M) e52 hmi.1.2
      have hcy : ¬ (M.1 52 1 = 1 ∧ 0 ≤ k ∧ k ≤ M.1 52 11) := fun w => hc ⟨w.2.1, by rw [← esi]; exact w.2.2⟩
      rw [if_neg hcy, if_neg hcy] at w
      exact w
    exact PR_S h hC hM rfl
end
/-- points fall: the streak isn't bounded by them till the next rally -/
theorem wrong_RG_1 {n : Nat} {A B : mx_Mem} (h : RR n A B) (ho : A.1 19 1 = 1) (hs : A.1 19 2 = 1) {k : Int32} (h0 : 0 ≤ k) (hk : k ≤ A.1 19 3) : RG False n (mI A 14 7 (A.1 14 7 - k)) (mI B 52 56 (B.1 52 56 - k)) := by
  obtain ⟨⟨⟨hS, hK, hF⟩, ⟨n0, a0, x0⟩, n1, a1, x1⟩, ⟨iN, iB, iP⟩, iQ⟩ := h
  obtain ⟨⟨t0, t1⟩, p0, p1, st, cap, ⟨P1, P2, P3, P4⟩, ⟨P5, P6, P7⟩, P8⟩ := iQ ho
  have hst : st ≤ p1 := by
    rcases P8 with ⟨e, w⟩ | ⟨e, w⟩
    · first | exact w trivial | exact absurd (e.symm.trans hs) (by decide)
    · first | exact w trivial | exact absurd (e.symm.trans hs) (by decide)
  obtain ⟨m, -, hm, em⟩ := le_n (a := 0) (b := st) (by omega) h0 (by rw [← P3]; exact hk) (by decide)
  have eN : EN_1 A B := by first | exact n0 | exact n1
  have ev : A.1 14 7 - k = B.1 52 56 - k := by rw [eN.1.1]
  rw [← ev]
  generalize hv : A.1 14 7 - k = v
  have hv2 : v = nI (p1 - m) := by rw [← hv, em, P2, pk_sub (by omega)]
  have fA : ∀ k, k ≠ 14 → (mI A 14 7 v).1 k = A.1 k := fun k hk => funext fun j => mI_ne _ _ _ _ hk
  have fc : ∀ j, j ≠ 7 → (mI A 14 7 v).1 14 j = A.1 14 j := fun j hj => mI_nj _ _ _ hj
  have fB : ∀ j, j ≠ 56 → (mI B 52 56 v).1 52 j = B.1 52 j := fun j hj => mI_nj _ _ _ hj
  have xN : EN_1 (mI A 14 7 v) (mI B 52 56 v) := by
    obtain ⟨⟨z1, z2, z3⟩, z4, z5, z6⟩ := eN
    exact ⟨⟨by rw [mI_self, mI_self], z2, z3⟩, z4, z5, z6⟩
  have xNo := EN_cg_0 n0 (A' := mI A 14 7 v) (B' := mI B 52 56 v) (fun j _ _ => by rw [fA 9 (by decide)]) (fun j hj => fB j (by omega))
  have xA0 := EA_cg_0 a0 (A' := mI A 14 7 v) (B' := mI B 52 56 v) (fun k _ _ => fA k (by omega)) (fun j _ _ => fB j (by omega))
  have xA1 := EA_cg_1 a1 (A' := mI A 14 7 v) (B' := mI B 52 56 v) (fun k _ _ => fA k (by omega)) (fun j _ _ => fB j (by omega))
  have xP0 := EP_cg_0 x0 (A' := mI A 14 7 v) (B' := mI B 52 56 v) rfl (fA 10 (by decide)) rfl rfl (fun j hj => fB j (by omega))
  have xP1 := EP_cg_1 x1 (A' := mI A 14 7 v) (B' := mI B 52 56 v) rfl (fA 15 (by decide)) rfl rfl (fun j hj => fB j (by omega))
  refine ⟨⟨⟨hS, hK, hF⟩, ⟨xNo, xA0, xP0⟩, xN, xA1, xP1⟩, ⟨iN, iB, iP⟩, fun _ => ⟨⟨IT_cg_0 t0 (fun k _ _ => fA k (by omega)) rfl rfl rfl, IT_cg_1 t1 (fun k _ _ => fA k (by omega)) rfl rfl rfl⟩, p0, p1 - m, st, cap, ⟨?_, ?_, P3, P4⟩, ⟨by omega, by omega, P7⟩, ?_⟩⟩
  · exact P1
  · rw [mI_self]; exact hv2
  · first | exact Or.inl ⟨hs, fun w => w.elim⟩ | exact Or.inr ⟨hs, fun w => w.elim⟩
section
variable {l : Launch} {G : mx_G} {n : Nat} {M : mx_Mem}
theorem P_wrong_1 (hn : n ≤ 1000) (h : RR n M M) (ho : M.1 19 1 = 1) (hs : M.1 19 2 = 1) (k : Int32) : PR l G n yX7_wrong cX7_wrong 2 ((some FieldType.int)) 3 70 [.ref 0, .int k] yX8_wrong cX8_wrong 3 ((some FieldType.int)) 4 85 [.ref 46, .int k] M := by
  have hO := h.2.1.2.1.2.2.1 0 (by decide)
  have hon0 : ¬ M.1 19 1 = 0 := by rw [ho]; decide
  have e52 : M.1 52 2 = 1 := by rw [h.1.1.2.1.2.1, if_pos ho, hs]
  have esi : M.1 52 61 = M.1 19 3 := by
    first
    | rw [h.1.1.2.1.2.2.1, if_pos hs]
    | rw [h.1.1.2.1.2.2.2, if_pos hs]
  have e1 : M.1 52 1 = 1 := h.1.1.2.1.1.2.1.symm.trans ho
  have hmi := RR_MI hn h e1
  by_cases hc : 0 ≤ k ∧ k ≤ M.1 19 3
  · have hcn : ¬ (M.1 19 1 = 0 ∨ ¬ 0 ≤ k ∨ ¬ k ≤ M.1 19 3) := fun w => w.elim hon0 (fun w => w.elim (fun w => w hc.1) (fun w => w hc.2))
    have hC : mx_Met l G yX7_wrong cX7_wrong 2 ((some FieldType.int)) 3 70 [.ref 0, .int k] M (mx_F (some (.int (clR (wgM_1 M k) 9 14))) (clM (wgM_1 M k) 9 14 0)) := by
      have w := tX7_wrong_1 (l := l) (G := G) (k := k) (M := M) hs hO.1
      rw [if_neg hcn, if_neg hcn] at w
      exact w
    have kA : ∀ j, 46 ≤ j → (clM (wgM_1 M k) 9 14 0).1 j = M.1 j := fun j hj => by
      rw [cl_ne_0 _ (Or.inr (by omega))]
      unfold wgM_1
      rw [wr_ne_0 _ (Or.inr (by omega))]
      exact funext fun i => mI_ne _ _ _ _ (by omega)
    have h1 := RR_ml h (M1 := clM (wgM_1 M k) 9 14 0) (fun j hj _ => kA j hj)
    have h2 := wrong_RG_1 (RR_th h1 0) ho hs hc.1 hc.2
    obtain ⟨w1, w2⟩ := point_R_0 (A := mI M 14 7 (M.1 14 7 - k)) hn (fun w => absurd (hs.symm.trans w) (by decide)) h2 ho
    generalize hA1 : clM (wgM_1 M k) 9 14 0 = A1 at kA h1 h2 hC w1 w2
    have hM : mx_Met l G yX8_wrong cX8_wrong 3 ((some FieldType.int)) 4 85 [.ref 46, .int k] A1 (mx_F (some (.int (ptR_0 (ptB_0 (mwg_1 A1 k)) (tgM (mwg_1 A1 k))))) (ptM_0 (ptB_0 (mwg_1 A1 k)) (tgM (mwg_1 A1 k)))) := by
      have w := tX8_wrong_1 (l := l) (G := G) (k := k) (M := A1) (by rw [kA 52 (by omega)]; exact e52) (by rw [kA 52 (by omega)]; exact hmi.1.1)
      have hcy : A1.1 52 1 = 1 ∧ 0 ≤ k ∧ k ≤ A1.1 52 61 := by
        rw [kA 52 (by omega)]
        exact ⟨e1, hc.1, by rw [esi]; exact hc.2⟩
      rw [if_pos hcy, if_pos hcy] at w
      exact w
    refine PR_F hC hM w1 ?_ (fun j hj => ?_)
    · rw [← hA1]
      rw [← hA1] at w2
      exact w2
    · rw [mpt_ne_0 _ _ (by omega)]
      unfold mwg_1
      rw [show (mI (mI A1 46 13 0) 52 56 (A1.1 52 56 - k)).1 j = (mI A1 46 13 0).1 j from funext fun i => mI_ne _ _ _ _ (by omega), th_k _ _ hj]
  · have hcn : M.1 19 1 = 0 ∨ ¬ 0 ≤ k ∨ ¬ k ≤ M.1 19 3 := by
      by_cases q : 0 ≤ k
      · exact Or.inr (Or.inr fun w => hc ⟨q, w⟩)
      · exact Or.inr (Or.inl q)
    have hC : mx_Met l G yX7_wrong cX7_wrong 2 ((some FieldType.int)) 3 70 [.ref 0, .int k] M (mx_F (some (.int (-1))) M) := by
      have w := tX7_wrong_1 (l := l) (G := G) (k := k) (M := M) hs hO.1
      rw [if_pos hcn, if_pos hcn] at w
      exact w
    have hM : mx_Met l G yX8_wrong cX8_wrong 3 ((some FieldType.int)) 4 85 [.ref 46, .int k] M (mx_F (some (.int (-1))) (mI M 46 13 0)) := by
      have w := tX8_wrong_1 (l := l) (G := G) (k := k) (M := M) e52 hmi.1.1
      have hcy : ¬ (M.1 52 1 = 1 ∧ 0 ≤ k ∧ k ≤ M.1 52 61) := fun w => hc ⟨w.2.1, by rw [← esi]; exact w.2.2⟩
      rw [if_neg hcy, if_neg hcy] at w
      exact w
    exact PR_S h hC hM rfl
end
section
variable {l : Launch} {G : mx_G} {n : Nat} {M : mx_Mem}
theorem P_wrong (k : Int32) (hn : n ≤ 1000) (h : RR n M M) : PR l G n yX7_wrong cX7_wrong 2 ((some FieldType.int)) 3 70 [.ref 0, .int k] yX8_wrong cX8_wrong 3 ((some FieldType.int)) 4 85 [.ref 46, .int k] M := by
  by_cases ho : M.1 19 1 = 0
  · exact PR_S h (tX7_wrong_off ho) (tX8_wrong_off ((on_R h).mp ho)) rfl
  · have ho1 := (isB_ne h.2.1.2.1.1.1.1).mp ho
    obtain ⟨-, p0, p1, st, cap, -, -, P8⟩ := h.2.2 ho1
    rcases P8 with ⟨e, -⟩ | ⟨e, -⟩
    · exact P_wrong_0 hn h ho1 e k
    · exact P_wrong_1 hn h ho1 e k
end

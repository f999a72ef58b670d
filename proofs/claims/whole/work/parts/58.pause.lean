/-! the coupling: pauses, FREE -/
theorem on_R {n : Nat} {A B : mx_Mem} (h : RR n A B) : (A.1 19 1 = 0 ↔ ¬ B.1 52 1 = 1) := by
  have h1 := h.2.1.2.1.1.1.1
  have h2 := h.1.1.2.1.1.2.1
  rw [← h2, isB_n1 h1]
theorem pause_R_0 {n : Nat} {A B : mx_Mem} (h : RR n A B) : paR A 9 = mdpR_0 B ∧ RR n (paM A 9) (mdpM_0 B) := by
  have hEN : EN_0 A B := by first | exact h.1.2.1.1 | exact h.1.2.2.1
  have hEA : EA_0 A B := by first | exact h.1.2.1.2.1 | exact h.1.2.2.2.1
  have hEP : EP_0 A B := by first | exact h.1.2.1.2.2 | exact h.1.2.2.2.2
  have q3 : A.1 9 10 = B.1 52 9 := hEN.2.1
  have e1 : (A.1 19 1 = 0 ∨ A.1 2 5 ≤ A.1 9 10) ↔ (¬ B.1 52 1 = 1 ∨ B.1 49 5 ≤ B.1 52 9) := by
    rw [on_R h, h.1.1.1.1.1 5 (by decide), q3]
  unfold paR mdpR_0 paM mdpM_0
  by_cases hc : A.1 19 1 = 0 ∨ A.1 2 5 ≤ A.1 9 10
  · rw [if_pos hc, if_pos (e1.mp hc), if_pos hc, if_pos (e1.mp hc)]
    exact ⟨rfl, h⟩
  · have hc2 := fun q => hc (e1.mpr q)
    rw [if_neg hc, if_neg hc2, if_neg hc, if_neg hc2, q3]
    refine ⟨rfl, ?_⟩
    generalize B.1 52 9 + 1 = v
    have fA : ∀ k, k ≠ 9 → (mI A 9 10 v).1 k = A.1 k := fun k hk => funext fun j => mI_ne _ _ _ _ hk
    have fB : ∀ j, j ≠ 9 → (mI B 52 9 v).1 52 j = B.1 52 j := fun j hj => mI_nj _ _ _ hj
    refine RR_team_0 h (fun k hk => fA k (by omega)) (fun k hk => funext fun j => mI_ne _ _ _ _ hk) (fun j hj => fB j (by omega)) (fB _ (by decide)) ?_ (EA_cg_0 hEA (fun k _ _ => fA k (by omega)) (fun j _ _ => fB j (by omega))) (EP_cg_0 hEP (by rw [fA 19 (by decide)]) (fA _ (by decide)) rfl rfl (fun j hj => fB j (by omega))) ?_ ?_ (fun k hk => ?_) (fun ho => ?_) rfl
    · obtain ⟨⟨z1, z2, z3⟩, z4, z5, z6⟩ := hEN
      exact ⟨⟨z1, z2, z3⟩, by rw [mI_self, mI_self], z5, z6⟩
    · first | exact h.2.1.2.1.1.1.2.1 | exact h.2.1.2.1.1.1.2.2
    · first | exact h.2.1.2.1.1.2.2.1 | exact h.2.1.2.1.1.2.2.2
    · first | exact (h.2.1.2.1.2.2.1 k hk).1 | exact (h.2.1.2.1.2.2.1 k hk).2
    · have hT : IT_0 A := by first | exact (h.2.2 ho).1.1 | exact (h.2.2 ho).1.2
      exact IT_cg_0 hT (fun k _ _ => fA k (by omega)) rfl rfl (by rw [fA 3 (by decide)])
theorem free_R_0 {n : Nat} {A B : mx_Mem} (hn : n ≤ 1000) (h : RR n A B) (p : Int32) : frR_0 A p = mfR_0 B p ∧ RR n (frM_0 A p) (mfM_0 B p) := by
  have q1 := on_R h
  by_cases hoff : A.1 19 1 = 0
  · have hk : ¬ mfK_0 B := fun q => q1.mp hoff q.1
    unfold frR_0 mfR_0 frM_0 mfM_0
    rw [if_pos (Or.inl hoff), if_neg hk, if_pos (Or.inl hoff), if_neg hk]
    exact ⟨rfl, h⟩
  · have ho : A.1 19 1 = 1 := (isB_ne h.2.1.2.1.1.1.1).mp hoff
    have hT : IT_0 A := by first | exact (h.2.2 ho).1.1 | exact (h.2.2 ho).1.2
    have hEN : EN_0 A B := by first | exact h.1.2.1.1 | exact h.1.2.2.1
    have hEA : EA_0 A B := by first | exact h.1.2.1.2.1 | exact h.1.2.2.2.1
    have hEP : EP_0 A B := by first | exact h.1.2.1.2.2 | exact h.1.2.2.2.2
    have q2 : A.1 9 6 = B.1 52 13 := hEN.2.2.2
    have q3 : A.1 3 2 = B.1 48 0 := by first | exact h.1.1.1.2.1.1.1 | exact h.1.1.1.2.1.1.2
    have q4 : isB (A.1 9 6) := by first | exact h.2.1.2.1.1.1.2.1 | exact h.2.1.2.1.1.1.2.2
    have q5 : A.1 9 4 = B.1 48 0 := hT.2.1.1.trans q3
    have hO : ∀ k, k < 6 → isP (A.1 10 k) := fun k hk => by first | exact (h.2.1.2.1.2.2.1 k hk).1 | exact (h.2.1.2.1.2.2.1 k hk).2
    have hz := plZ_0 h hn ho
    have hnn := RR_nn h hn ho
    have hpl := plE_0 h hn ho
    have hcnd : (A.1 19 1 = 0 ∨ ¬ A.1 9 6 = 0 ∨ A.1 9 4 = -1) ↔ ¬ mfK_0 B := by
      show _ ↔ ¬ (B.1 52 1 = 1 ∧ ¬ B.1 48 0 = -1 ∧ ¬ B.1 52 13 = 1)
      rw [q1, ← q2, ← q5, isB_ne q4]
      grind
    -- the state behind a move of FREE: place f (-1: none), and PLACE at k becomes w
    have step : ∀ (f : Int32) (k : Nat) (w g : Int32), k < 6 → isF f → (f = -1 ∨ ¬ A.1 9 4 = -1) → (g = if f = -1 then -1 else A.1 10 f.toNatClampNeg) → (∀ j, j < 6 → (if j = k then w else B.1 52 (14 + j)) = if f = nI j then A.1 9 4 else A.1 10 j) → RR n (mI (mI A 9 5 f) 9 6 1) (mI (mI (mI B 52 (k + 14) w) 52 10 g) 52 13 1) := by
      intro f k w g hk hf hf2 hg hw
      have fA : ∀ k, k ≠ 9 → (mI (mI A 9 5 f) 9 6 1).1 k = A.1 k := fun k hk => funext fun j => by rw [mI_ne _ _ _ _ hk, mI_ne _ _ _ _ hk]
      have fB : ∀ j, j ≠ k + 14 → j ≠ 10 → j ≠ 13 → (mI (mI (mI B 52 (k + 14) w) 52 10 g) 52 13 1).1 52 j = B.1 52 j := fun j h1 h2 h3 => by rw [mI_nj _ _ _ h3, mI_nj _ _ _ h2, mI_nj _ _ _ h1]
      refine RR_team_0 h (fun k hk => fA k (by omega)) (fun k hk => funext fun j => by rw [mI_ne _ _ _ _ hk, mI_ne _ _ _ _ hk, mI_ne _ _ _ _ hk]) (fun j hj => fB j (by omega) (by omega) (by omega)) (fB _ (by omega) (by decide) (by decide)) ?_ (EA_cg_0 hEA (fun k _ _ => fA k (by omega)) (fun j _ _ => fB j (by omega) (by omega) (by omega))) ?_ (Or.inr rfl) hf (fun k hk => hO k hk) (fun ho => ?_) rfl
      · obtain ⟨⟨z1, z2, z3⟩, z4, z5, z6⟩ := hEN
        refine ⟨⟨?_, ?_, ?_⟩, ?_, ?_, ?_⟩
        · rw [fB _ (by omega) (by decide) (by decide)]; exact z1
        · rw [fB _ (by omega) (by decide) (by decide)]; exact z2
        · rw [fB _ (by omega) (by decide) (by decide)]; exact z3
        · rw [fB _ (by omega) (by decide) (by decide)]; exact z4
        · rw [fB _ (by omega) (by decide) (by decide)]; exact z5
        · rw [mI_self, mI_self]
      · refine ⟨?_, fun _ j hj => ?_⟩
        · rw [mI_nj _ _ _ (by decide), mI_self]
          exact hg
        · have := hw j hj
          rw [mI_nj _ _ _ (by omega), mI_nj _ _ _ (by omega), mI_ap]
          show _ = if f = nI j then A.1 9 4 else A.1 10 j
          rw [← this]
          by_cases e : j = k
          · rw [if_pos e, if_pos ⟨rfl, by omega⟩]
          · rw [if_neg e, if_neg (by omega)]
      · refine ⟨hT.1, ⟨hT.2.1.1, hf2⟩, hT.2.2⟩
    by_cases hc : A.1 19 1 = 0 ∨ ¬ A.1 9 6 = 0 ∨ A.1 9 4 = -1
    · have hk := hcnd.mp hc
      unfold frR_0 mfR_0 frM_0 mfM_0
      rw [if_pos hc, if_neg hk, if_pos hc, if_neg hk]
      exact ⟨rfl, h⟩
    · have hk : mfK_0 B := Classical.not_not.mp fun q => hc (hcnd.mpr q)
      have hz4 : ¬ A.1 9 4 = -1 := fun q => hc (Or.inr (Or.inr q))
      unfold frR_0 mfR_0 frM_0 mfM_0
      rw [if_neg hc, if_pos hk, if_neg hc, if_pos hk]
      by_cases hp : p = -1
      · rw [if_pos hp, if_pos hp, if_pos hp, if_pos hp]
        rcases hpl with ⟨e1, e2, e3⟩ | ⟨f, hf, e1, e4, e5, e6, e7, e8⟩
        · rw [e1, if_pos e2, if_pos rfl, if_pos e2]
          exact ⟨rfl, h⟩
        · have g1 : ¬ B.1 52 10 = -1 := by rw [e6]; exact isP_m1 (hO f hf)
          have g2 : ¬ A.1 9 5 = -1 := by rw [e1]; exact nI_m1 (by omega)
          rw [if_neg g1, if_neg g2, if_neg g1, ← q5, hz]
          refine ⟨rfl, ?_⟩
          unfold mfF_0
          rw [← q5, hz, e1, nI_clamp (by omega), e6]
          refine step (-1) f _ (-1) hf (Or.inl rfl) (Or.inl rfl) (by rw [if_pos rfl]) (fun j hj => ?_)
          rw [if_neg (show ¬ (-1 : Int32) = nI j from fun q => nI_m1 (k := j) (by omega) q.symm)]
          by_cases e : j = f
          · rw [if_pos e, e]
          · rw [if_neg e]; exact e8 j hj e
      · rw [if_neg hp, if_neg hp, if_neg hp, if_neg hp]
        rcases hpl with ⟨e1, e2, e3⟩ | ⟨f, hf, e1, e4, e5, e6, e7, e8⟩
        · have hpc := plc_congr e3 p
          have hJ : mfJ_0 B p ↔ (plc (A.1 10) p = 4 ∨ plc (A.1 10) p = 5) := by
            show (isP p ∧ B.1 52 10 = -1 ∧ (plc (mpl_0 B) p = 4 ∨ plc (mpl_0 B) p = 5)) ↔ _
            rw [hpc]
            refine ⟨fun q => q.2.2, fun q => ⟨?_, e2, q⟩⟩
            rcases plc_c (f := A.1 10) p with ⟨w1, -⟩ | ⟨k, hk, -, w2⟩
            · rw [w1] at q; rcases q with q | q <;> exact absurd q (by decide)
            · rw [← w2]; exact hO k hk
          have go : ∀ k, k < 6 → (nI k = 4 ∨ nI k = 5) → plc (A.1 10) p = nI k → RR n (mI (mI A 9 5 (nI k)) 9 6 1) (mfN_0 B p) := by
            intro k hk hk4 hkp
            unfold mfN_0
            rw [hpc, hkp, nI_clamp (by omega)]
            have hpk : A.1 10 k = p := by
              rcases plc_c (f := A.1 10) p with ⟨w1, -⟩ | ⟨k', hk', w1, w2⟩
              · rw [hkp] at w1; exact absurd w1 (nI_m1 (by omega))
              · rw [hkp, nI_k (by omega) (by omega)] at w1; rw [w1]; exact w2
            refine step (nI k) k _ p hk (Or.inr hk4) (Or.inr hz4) (by rw [if_neg (nI_m1 (by omega)), nI_clamp (by omega), hpk]) (fun j hj => ?_)
            by_cases e : j = k
            · rw [if_pos e, if_pos (by rw [e]), q5]
            · rw [if_neg e, if_neg (by rw [nI_k (by omega) (by omega)]; omega)]; exact e3 j hj
          rw [if_pos e1, if_pos e1]
          by_cases h4 : plc (A.1 10) p = 4
          · rw [if_pos h4, if_pos h4, if_pos (hJ.mpr (Or.inl h4)), if_pos (hJ.mpr (Or.inl h4)), hpc, h4]
            exact ⟨rfl, go 4 (by decide) (Or.inl rfl) h4⟩
          · by_cases h5 : plc (A.1 10) p = 5
            · rw [if_neg h4, if_neg h4, if_pos h5, if_pos h5, if_pos (hJ.mpr (Or.inr h5)), if_pos (hJ.mpr (Or.inr h5)), hpc, h5]
              exact ⟨rfl, go 5 (by decide) (Or.inr rfl) h5⟩
            · have hJ2 : ¬ mfJ_0 B p := fun q => (hJ.mp q).elim h4 h5
              rw [if_neg h4, if_neg h4, if_neg h5, if_neg h5, if_neg hJ2, if_neg hJ2]
              exact ⟨rfl, h⟩
        · have g1 : ¬ mfJ_0 B p := fun q => absurd q.2.1 (by rw [e6]; exact isP_m1 (hO f hf))
          have g2 : ¬ A.1 9 5 = -1 := by rw [e1]; exact nI_m1 (by omega)
          rw [if_neg g2, if_neg g2, if_neg g1, if_neg g1]
          exact ⟨rfl, h⟩
theorem pause_R_1 {n : Nat} {A B : mx_Mem} (h : RR n A B) : paR A 14 = mdpR_1 B ∧ RR n (paM A 14) (mdpM_1 B) := by
  have hEN : EN_1 A B := by first | exact h.1.2.1.1 | exact h.1.2.2.1
  have hEA : EA_1 A B := by first | exact h.1.2.1.2.1 | exact h.1.2.2.2.1
  have hEP : EP_1 A B := by first | exact h.1.2.1.2.2 | exact h.1.2.2.2.2
  have q3 : A.1 14 10 = B.1 52 59 := hEN.2.1
  have e1 : (A.1 19 1 = 0 ∨ A.1 2 5 ≤ A.1 14 10) ↔ (¬ B.1 52 1 = 1 ∨ B.1 49 5 ≤ B.1 52 59) := by
    rw [on_R h, h.1.1.1.1.1 5 (by decide), q3]
  unfold paR mdpR_1 paM mdpM_1
  by_cases hc : A.1 19 1 = 0 ∨ A.1 2 5 ≤ A.1 14 10
  · rw [if_pos hc, if_pos (e1.mp hc), if_pos hc, if_pos (e1.mp hc)]
    exact ⟨rfl, h⟩
  · have hc2 := fun q => hc (e1.mpr q)
    rw [if_neg hc, if_neg hc2, if_neg hc, if_neg hc2, q3]
    refine ⟨rfl, ?_⟩
    generalize B.1 52 59 + 1 = v
    have fA : ∀ k, k ≠ 14 → (mI A 14 10 v).1 k = A.1 k := fun k hk => funext fun j => mI_ne _ _ _ _ hk
    have fB : ∀ j, j ≠ 59 → (mI B 52 59 v).1 52 j = B.1 52 j := fun j hj => mI_nj _ _ _ hj
    refine RR_team_1 h (fun k hk => fA k (by omega)) (fun k hk => funext fun j => mI_ne _ _ _ _ hk) (fun j hj => fB j (by omega)) (fB _ (by decide)) ?_ (EA_cg_1 hEA (fun k _ _ => fA k (by omega)) (fun j _ _ => fB j (by omega))) (EP_cg_1 hEP (by rw [fA 19 (by decide)]) (fA _ (by decide)) rfl rfl (fun j hj => fB j (by omega))) ?_ ?_ (fun k hk => ?_) (fun ho => ?_) rfl
    · obtain ⟨⟨z1, z2, z3⟩, z4, z5, z6⟩ := hEN
      exact ⟨⟨z1, z2, z3⟩, by rw [mI_self, mI_self], z5, z6⟩
    · first | exact h.2.1.2.1.1.1.2.1 | exact h.2.1.2.1.1.1.2.2
    · first | exact h.2.1.2.1.1.2.2.1 | exact h.2.1.2.1.1.2.2.2
    · first | exact (h.2.1.2.1.2.2.1 k hk).1 | exact (h.2.1.2.1.2.2.1 k hk).2
    · have hT : IT_1 A := by first | exact (h.2.2 ho).1.1 | exact (h.2.2 ho).1.2
      exact IT_cg_1 hT (fun k _ _ => fA k (by omega)) rfl rfl (by rw [fA 6 (by decide)])
theorem free_R_1 {n : Nat} {A B : mx_Mem} (hn : n ≤ 1000) (h : RR n A B) (p : Int32) : frR_1 A p = mfR_1 B p ∧ RR n (frM_1 A p) (mfM_1 B p) := by
  have q1 := on_R h
  by_cases hoff : A.1 19 1 = 0
  · have hk : ¬ mfK_1 B := fun q => q1.mp hoff q.1
    unfold frR_1 mfR_1 frM_1 mfM_1
    rw [if_pos (Or.inl hoff), if_neg hk, if_pos (Or.inl hoff), if_neg hk]
    exact ⟨rfl, h⟩
  · have ho : A.1 19 1 = 1 := (isB_ne h.2.1.2.1.1.1.1).mp hoff
    have hT : IT_1 A := by first | exact (h.2.2 ho).1.1 | exact (h.2.2 ho).1.2
    have hEN : EN_1 A B := by first | exact h.1.2.1.1 | exact h.1.2.2.1
    have hEA : EA_1 A B := by first | exact h.1.2.1.2.1 | exact h.1.2.2.2.1
    have hEP : EP_1 A B := by first | exact h.1.2.1.2.2 | exact h.1.2.2.2.2
    have q2 : A.1 14 6 = B.1 52 63 := hEN.2.2.2
    have q3 : A.1 6 2 = B.1 48 1 := by first | exact h.1.1.1.2.1.1.1 | exact h.1.1.1.2.1.1.2
    have q4 : isB (A.1 14 6) := by first | exact h.2.1.2.1.1.1.2.1 | exact h.2.1.2.1.1.1.2.2
    have q5 : A.1 14 4 = B.1 48 1 := hT.2.1.1.trans q3
    have hO : ∀ k, k < 6 → isP (A.1 15 k) := fun k hk => by first | exact (h.2.1.2.1.2.2.1 k hk).1 | exact (h.2.1.2.1.2.2.1 k hk).2
    have hz := plZ_1 h hn ho
    have hnn := RR_nn h hn ho
    have hpl := plE_1 h hn ho
    have hcnd : (A.1 19 1 = 0 ∨ ¬ A.1 14 6 = 0 ∨ A.1 14 4 = -1) ↔ ¬ mfK_1 B := by
      show _ ↔ ¬ (B.1 52 1 = 1 ∧ ¬ B.1 48 1 = -1 ∧ ¬ B.1 52 63 = 1)
      rw [q1, ← q2, ← q5, isB_ne q4]
      grind
    -- the state behind a move of FREE: place f (-1: none), and PLACE at k becomes w
    have step : ∀ (f : Int32) (k : Nat) (w g : Int32), k < 6 → isF f → (f = -1 ∨ ¬ A.1 14 4 = -1) → (g = if f = -1 then -1 else A.1 15 f.toNatClampNeg) → (∀ j, j < 6 → (if j = k then w else B.1 52 (64 + j)) = if f = nI j then A.1 14 4 else A.1 15 j) → RR n (mI (mI A 14 5 f) 14 6 1) (mI (mI (mI B 52 (k + 64) w) 52 60 g) 52 63 1) := by
      intro f k w g hk hf hf2 hg hw
      have fA : ∀ k, k ≠ 14 → (mI (mI A 14 5 f) 14 6 1).1 k = A.1 k := fun k hk => funext fun j => by rw [mI_ne _ _ _ _ hk, mI_ne _ _ _ _ hk]
      have fB : ∀ j, j ≠ k + 64 → j ≠ 60 → j ≠ 63 → (mI (mI (mI B 52 (k + 64) w) 52 60 g) 52 63 1).1 52 j = B.1 52 j := fun j h1 h2 h3 => by rw [mI_nj _ _ _ h3, mI_nj _ _ _ h2, mI_nj _ _ _ h1]
      refine RR_team_1 h (fun k hk => fA k (by omega)) (fun k hk => funext fun j => by rw [mI_ne _ _ _ _ hk, mI_ne _ _ _ _ hk, mI_ne _ _ _ _ hk]) (fun j hj => fB j (by omega) (by omega) (by omega)) (fB _ (by omega) (by decide) (by decide)) ?_ (EA_cg_1 hEA (fun k _ _ => fA k (by omega)) (fun j _ _ => fB j (by omega) (by omega) (by omega))) ?_ (Or.inr rfl) hf (fun k hk => hO k hk) (fun ho => ?_) rfl
      · obtain ⟨⟨z1, z2, z3⟩, z4, z5, z6⟩ := hEN
        refine ⟨⟨?_, ?_, ?_⟩, ?_, ?_, ?_⟩
        · rw [fB _ (by omega) (by decide) (by decide)]; exact z1
        · rw [fB _ (by omega) (by decide) (by decide)]; exact z2
        · rw [fB _ (by omega) (by decide) (by decide)]; exact z3
        · rw [fB _ (by omega) (by decide) (by decide)]; exact z4
        · rw [fB _ (by omega) (by decide) (by decide)]; exact z5
        · rw [mI_self, mI_self]
      · refine ⟨?_, fun _ j hj => ?_⟩
        · rw [mI_nj _ _ _ (by decide), mI_self]
          exact hg
        · have := hw j hj
          rw [mI_nj _ _ _ (by omega), mI_nj _ _ _ (by omega), mI_ap]
          show _ = if f = nI j then A.1 14 4 else A.1 15 j
          rw [← this]
          by_cases e : j = k
          · rw [if_pos e, if_pos ⟨rfl, by omega⟩]
          · rw [if_neg e, if_neg (by omega)]
      · refine ⟨hT.1, ⟨hT.2.1.1, hf2⟩, hT.2.2⟩
    by_cases hc : A.1 19 1 = 0 ∨ ¬ A.1 14 6 = 0 ∨ A.1 14 4 = -1
    · have hk := hcnd.mp hc
      unfold frR_1 mfR_1 frM_1 mfM_1
      rw [if_pos hc, if_neg hk, if_pos hc, if_neg hk]
      exact ⟨rfl, h⟩
    · have hk : mfK_1 B := Classical.not_not.mp fun q => hc (hcnd.mpr q)
      have hz4 : ¬ A.1 14 4 = -1 := fun q => hc (Or.inr (Or.inr q))
      unfold frR_1 mfR_1 frM_1 mfM_1
      rw [if_neg hc, if_pos hk, if_neg hc, if_pos hk]
      by_cases hp : p = -1
      · rw [if_pos hp, if_pos hp, if_pos hp, if_pos hp]
        rcases hpl with ⟨e1, e2, e3⟩ | ⟨f, hf, e1, e4, e5, e6, e7, e8⟩
        · rw [e1, if_pos e2, if_pos rfl, if_pos e2]
          exact ⟨rfl, h⟩
        · have g1 : ¬ B.1 52 60 = -1 := by rw [e6]; exact isP_m1 (hO f hf)
          have g2 : ¬ A.1 14 5 = -1 := by rw [e1]; exact nI_m1 (by omega)
          rw [if_neg g1, if_neg g2, if_neg g1, ← q5, hz]
          refine ⟨rfl, ?_⟩
          unfold mfF_1
          rw [← q5, hz, e1, nI_clamp (by omega), e6]
          refine step (-1) f _ (-1) hf (Or.inl rfl) (Or.inl rfl) (by rw [if_pos rfl]) (fun j hj => ?_)
          rw [if_neg (show ¬ (-1 : Int32) = nI j from fun q => nI_m1 (k := j) (by omega) q.symm)]
          by_cases e : j = f
          · rw [if_pos e, e]
          · rw [if_neg e]; exact e8 j hj e
      · rw [if_neg hp, if_neg hp, if_neg hp, if_neg hp]
        rcases hpl with ⟨e1, e2, e3⟩ | ⟨f, hf, e1, e4, e5, e6, e7, e8⟩
        · have hpc := plc_congr e3 p
          have hJ : mfJ_1 B p ↔ (plc (A.1 15) p = 4 ∨ plc (A.1 15) p = 5) := by
            show (isP p ∧ B.1 52 60 = -1 ∧ (plc (mpl_1 B) p = 4 ∨ plc (mpl_1 B) p = 5)) ↔ _
            rw [hpc]
            refine ⟨fun q => q.2.2, fun q => ⟨?_, e2, q⟩⟩
            rcases plc_c (f := A.1 15) p with ⟨w1, -⟩ | ⟨k, hk, -, w2⟩
            · rw [w1] at q; rcases q with q | q <;> exact absurd q (by decide)
            · rw [← w2]; exact hO k hk
          have go : ∀ k, k < 6 → (nI k = 4 ∨ nI k = 5) → plc (A.1 15) p = nI k → RR n (mI (mI A 14 5 (nI k)) 14 6 1) (mfN_1 B p) := by
            intro k hk hk4 hkp
            unfold mfN_1
            rw [hpc, hkp, nI_clamp (by omega)]
            have hpk : A.1 15 k = p := by
              rcases plc_c (f := A.1 15) p with ⟨w1, -⟩ | ⟨k', hk', w1, w2⟩
              · rw [hkp] at w1; exact absurd w1 (nI_m1 (by omega))
              · rw [hkp, nI_k (by omega) (by omega)] at w1; rw [w1]; exact w2
            refine step (nI k) k _ p hk (Or.inr hk4) (Or.inr hz4) (by rw [if_neg (nI_m1 (by omega)), nI_clamp (by omega), hpk]) (fun j hj => ?_)
            by_cases e : j = k
            · rw [if_pos e, if_pos (by rw [e]), q5]
            · rw [if_neg e, if_neg (by rw [nI_k (by omega) (by omega)]; omega)]; exact e3 j hj
          rw [if_pos e1, if_pos e1]
          by_cases h4 : plc (A.1 15) p = 4
          · rw [if_pos h4, if_pos h4, if_pos (hJ.mpr (Or.inl h4)), if_pos (hJ.mpr (Or.inl h4)), hpc, h4]
            exact ⟨rfl, go 4 (by decide) (Or.inl rfl) h4⟩
          · by_cases h5 : plc (A.1 15) p = 5
            · rw [if_neg h4, if_neg h4, if_pos h5, if_pos h5, if_pos (hJ.mpr (Or.inr h5)), if_pos (hJ.mpr (Or.inr h5)), hpc, h5]
              exact ⟨rfl, go 5 (by decide) (Or.inr rfl) h5⟩
            · have hJ2 : ¬ mfJ_1 B p := fun q => (hJ.mp q).elim h4 h5
              rw [if_neg h4, if_neg h4, if_neg h5, if_neg h5, if_neg hJ2, if_neg hJ2]
              exact ⟨rfl, h⟩
        · have g1 : ¬ mfJ_1 B p := fun q => absurd q.2.1 (by rw [e6]; exact isP_m1 (hO f hf))
          have g2 : ¬ A.1 14 5 = -1 := by rw [e1]; exact nI_m1 (by omega)
          rw [if_neg g2, if_neg g2, if_neg g1, if_neg g1]
          exact ⟨rfl, h⟩

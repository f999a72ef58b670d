/-! pairs of calls: skills, numbers, line-ups, sets, sheets -/
theorem diL_k (e : Nat) {k : Nat} (hk : k < 9 ∨ 30 < k) : ∀ f M p q, (diL e f M p q).2.1 k = M.1 k
  | 0, M, p, q => rfl
  | f + 1, M, p, q => by
    rw [diL]
    repeat' split
    · rfl
    · show (rsM (diM M (nI p))).1 k = M.1 k
      unfold rsM
      rw [mCp7_ne _ (by omega), mCo_ne _ (by omega), mCo_ne _ (by omega), di_ne _ _ (by omega)]
    · rw [diL_k e hk f, di_ne _ _ (by omega)]
theorem mdL_k (e : Nat) {k : Nat} (hk : k ≠ 52) : ∀ f M p q, (mdL e f M p q).2.1 k = M.1 k
  | 0, M, p, q => rfl
  | f + 1, M, p, q => by
    rw [mdL]
    repeat' split
    · rfl
    · show (mcy 53 52 (mdiM M p) 106).1 k = M.1 k
      rw [mcy_ne _ _ _ hk, mdi_ne _ _ hk]
    · rw [mdL_k e hk f, mdi_ne _ _ hk]
theorem sheM_k (A : mx_Mem) (m : Nat) {k : Nat} (hk : 46 ≤ k) : (sheM A m).1 k = A.1 k := by
  have e : (mI A 37 1 0).1 k = A.1 k := funext fun j => mI_ne _ _ _ _ (by omega)
  unfold sheM
  repeat' split
  · exact e
  · rw [diL_k m (Or.inr (by omega))]
    unfold svM
    rw [mCp7_ne _ (by omega), mCo_ne _ (by omega), mCo_ne _ (by omega), e]
  · exact e
theorem mshV_k (B : mx_Mem) (m : Nat) {k : Nat} (hk : k < 46) : (mshV B m).2.1 k = B.1 k := by
  have e : (msM B).1 k = B.1 k := funext fun j => by rw [mI_ne _ _ _ _ (by omega), th_k _ _ hk]
  unfold mshV
  repeat' split
  · exact e
  · exact e
  · exact e
  · rw [mdL_k m (by omega), mcy_ne _ _ _ (by omega), e]
section
variable {l : Launch} {G : mx_G} {n : Nat} {M : mx_Mem}
theorem P_skill_0 (h : RR n M M) (p w v : Int32) : PR l G n yX7_skill cX7_skill 7 ((some FieldType.int)) 1 24 [.ref 0, .int 0, .int p, .int w, .int v] yX8_skill cX8_skill 6 ((some FieldType.int)) 2 42 [.ref 46, .int 0, .int p, .int w, .int v] M := by
  by_cases hc : skC p w v
  · obtain ⟨p', hp, rfl⟩ := isP_n hc.1
    obtain ⟨w', hw, rfl⟩ := vp_in_of (vp_in_of2 4 (by decide) rfl hc.2.1.1 hc.2.1.2) (by decide)
    have ei : nI p' * 4 + nI w' = nI (p' * 4 + w') := by rw [show (4 : Int32) = nI 4 from rfl, pk_mul, nI_add]
    have hin : 0 ≤ nI p' * 4 + nI w' ∧ ¬ 48 ≤ nI p' * 4 + nI w' := by rw [ei]; exact ⟨nI_pos' (by omega), nI_ge (b := 48) (by omega) (by decide)⟩
    have hC : mx_Met l G yX7_skill cX7_skill 7 ((some FieldType.int)) 1 24 [.ref 0, .int 0, .int (nI p'), .int (nI w'), .int v] M (mx_F (some (.int (M.1 4 (p' * 4 + w')))) (mI M 4 (p' * 4 + w') v)) := mx_mono tX7_skill_0 (fun r M' q => by
      rcases q with ⟨-, q1, q2⟩ | ⟨q0, -⟩
      · rw [if_pos hin, ei, nI_clamp (by omega)] at q2
        rw [sko_n _ hp hw] at q1
        exact ⟨q1, q2⟩
      · exact absurd hc q0)
    have kA : ∀ j, 46 ≤ j → (mI M 4 (p' * 4 + w') v).1 j = M.1 j := fun j hj => funext fun i => mI_ne _ _ _ _ (by omega)
    have h1 := RR_ml h (M1 := mI M 4 (p' * 4 + w') v) (fun j hj _ => kA j hj)
    have hM := tX8_skill_0 (l := l) (G := G) (p := p') (w := w') (v := v) (M := mI M 4 (p' * 4 + w') v) hp hw hc.2.2
    refine PR_F hC hM ?_ (skill_RR_0 (RR_th h1 0) hp hw v |> fun z => ?_) (fun j hj => funext fun i => by rw [mI_ne _ _ _ _ (by omega), th_k _ _ hj])
    · rw [kA 47 (by omega)]
      have w9 := h.1.1.1.1.2 (p' * 4 + w') (by omega)
      rw [w9.1, show (0 + p') * 4 + w' = p' * 4 + w' by omega]
    · have e9 : mI (mI M 4 (p' * 4 + w') v) 4 (p' * 4 + w') v = mI M 4 (p' * 4 + w') v := mI_idem _ _ _ _ _
      exact z
  · have hC : mx_Met l G yX7_skill cX7_skill 7 ((some FieldType.int)) 1 24 [.ref 0, .int 0, .int p, .int w, .int v] M (mx_F (some (.int (-1))) M) := mx_mono tX7_skill_0 (fun r M' q => by
      rcases q with ⟨q0, -⟩ | ⟨-, q1, q2⟩
      · exact absurd q0 hc
      · exact ⟨q1, q2⟩)
    exact PR_S h hC (tX8_skill_0_n (fun q => hc ⟨q.1, ⟨q.2.1.1, (le3 w).mp q.2.1.2⟩, q.2.2⟩)) rfl
theorem P_libre_0 (h : RR n M M) (p : Int32) : PR l G n yX7_libre cX7_libre 5 ((some FieldType.int)) 1 21 [.ref 0, .int 0, .int p] yX8_libre cX8_libre 4 ((some FieldType.int)) 2 42 [.ref 46, .int 0, .int p] M := by
  have hon := on_R h
  by_cases hc : lbC M p
  · have hC : mx_Met l G yX7_libre cX7_libre 5 ((some FieldType.int)) 1 21 [.ref 0, .int 0, .int p] M (mx_F (some (.int (M.1 3 2))) (mI M 3 2 p)) := mx_mono tX7_libre_0 (fun r M' q => by
      rcases q with ⟨-, q1, q2⟩ | ⟨q0, -⟩
      · exact ⟨q1, q2⟩
      · exact absurd hc q0)
    have kA : ∀ j, 46 ≤ j → (mI M 3 2 p).1 j = M.1 j := fun j hj => funext fun i => mI_ne _ _ _ _ (by omega)
    have h1 := RR_ml h (M1 := mI M 3 2 p) (fun j hj _ => kA j hj)
    have hm : (p = -1 ∨ isP p) ∧ ¬ (mI M 3 2 p).1 52 1 = 1 := ⟨hc.1, by rw [kA 52 (by omega)]; exact hon.mp hc.2⟩
    have hM := mx_mono (tX8_libre_0 (l := l) (G := G) (p := p) (M := mI M 3 2 p)) (Q := mx_F (some (.int ((mI M 3 2 p).1 48 0))) (mI (mI (mI M 3 2 p) 46 13 0) 48 0 p)) (fun r M' q => by
      rcases q with ⟨-, q1, q2⟩ | ⟨q0, -⟩
      · exact ⟨q1, q2⟩
      · exact absurd hm q0)
    have q3 : M.1 3 2 = M.1 48 0 := by first | exact h.1.1.1.2.1.1.1 | exact h.1.1.1.2.1.1.2
    exact PR_F hC hM (by rw [kA 48 (by omega)]; exact q3) (libre_RR_0 (RR_th h1 0) hc.1 hc.2) (fun j hj => funext fun i => by rw [mI_ne _ _ _ _ (by omega), th_k _ _ hj])
  · have hC : mx_Met l G yX7_libre cX7_libre 5 ((some FieldType.int)) 1 21 [.ref 0, .int 0, .int p] M (mx_F (some (.int (-2))) M) := mx_mono tX7_libre_0 (fun r M' q => by
      rcases q with ⟨q0, -⟩ | ⟨-, q1, q2⟩
      · exact absurd q0 hc
      · exact ⟨q1, q2⟩)
    have hm : ¬ ((p = -1 ∨ isP p) ∧ ¬ M.1 52 1 = 1) := fun w => hc ⟨w.1, hon.mpr w.2⟩
    have hM := mx_mono (tX8_libre_0 (l := l) (G := G) (p := p) (M := M)) (Q := mx_F (some (.int (-2))) (mI M 46 13 0)) (fun r M' q => by
      rcases q with ⟨q0, -⟩ | ⟨-, q1, q2⟩
      · exact absurd q0 hm
      · exact ⟨q1, q2⟩)
    exact PR_S h hC hM rfl
theorem lu_R_0 {a b c d e f : Int32} (h : RR n M M) : luC M (M.1 3 2) a b c d e f ↔ mluC M (M.1 48 0) a b c d e f := by
  have hon := on_R h
  have k4 := h.1.1.2.1.1.2.2.2.1
  have hz : isL (M.1 3 2) := by first | exact h.2.1.2.1.2.1.2.1 | exact h.2.1.2.1.2.1.2.2
  have q3 : M.1 3 2 = M.1 48 0 := by first | exact h.1.1.1.2.1.1.1 | exact h.1.1.1.2.1.1.2
  unfold luC mluC
  rw [lu_iff (M := M) hz, hon, k4, ← q3]
  simp only [alk, List.mem_cons, List.not_mem_nil, not_or, or_false, not_false_eq_true, and_true]
  constructor
  · rintro ⟨g, ⟨f1, ⟨f2, f3, f4, f5, f6⟩, e1, ⟨e2, e3, e4, e5⟩, d1, ⟨d2, d3, d4⟩, c1, ⟨c2, c3⟩, b1, b2, a1⟩, z1, z2, z3, z4, z5, z6⟩
    exact ⟨g, ⟨⟨a1, b1, c1⟩, d1, e1, f1⟩, ⟨⟨fun w => z6 w.symm, fun w => z5 w.symm, fun w => z4 w.symm⟩, fun w => z3 w.symm, fun w => z2 w.symm, fun w => z1 w.symm⟩, fun w => b2 w.symm, ⟨fun w => c3 w.symm, fun w => c2 w.symm⟩, ⟨fun w => d4 w.symm, fun w => d3 w.symm, fun w => d2 w.symm⟩, ⟨fun w => e5 w.symm, fun w => e4 w.symm, fun w => e3 w.symm, fun w => e2 w.symm⟩, fun w => f6 w.symm, fun w => f5 w.symm, fun w => f4 w.symm, fun w => f3 w.symm, fun w => f2 w.symm⟩
  · rintro ⟨g, ⟨⟨a1, b1, c1⟩, d1, e1, f1⟩, ⟨⟨z1, z2, z3⟩, z4, z5, z6⟩, y1, ⟨y2, y3⟩, ⟨y4, y5, y6⟩, ⟨y7, y8, y9, y10⟩, y11, y12, y13, y14, y15⟩
    exact ⟨g, ⟨f1, ⟨fun w => y15 w.symm, fun w => y14 w.symm, fun w => y13 w.symm, fun w => y12 w.symm, fun w => y11 w.symm⟩, e1, ⟨fun w => y10 w.symm, fun w => y9 w.symm, fun w => y8 w.symm, fun w => y7 w.symm⟩, d1, ⟨fun w => y6 w.symm, fun w => y5 w.symm, fun w => y4 w.symm⟩, c1, ⟨fun w => y3 w.symm, fun w => y2 w.symm⟩, b1, fun w => y1 w.symm, a1⟩, fun w => z6 w.symm, fun w => z5 w.symm, fun w => z4 w.symm, fun w => z3 w.symm, fun w => z2 w.symm, fun w => z1 w.symm⟩
theorem P_lineUp_0 (h : RR n M M) (a b c d e f : Int32) : PR l G n yX7_lineUp cX7_lineUp 10 ((some FieldType.boolean)) 2 40 [.ref 0, .int 0, .int a, .int b, .int c, .int d, .int e, .int f] yX8_lineUp cX8_lineUp 10 ((some FieldType.boolean)) 2 42 [.ref 46, .int 0, .int a, .int b, .int c, .int d, .int e, .int f] M := by
  have hiff := lu_R_0 (a := a) (b := b) (c := c) (d := d) (e := e) (f := f) h
  by_cases hc : luC M (M.1 3 2) a b c d e f
  · have hC : mx_Met l G yX7_lineUp cX7_lineUp 10 ((some FieldType.boolean)) 2 40 [.ref 0, .int 0, .int a, .int b, .int c, .int d, .int e, .int f] M (mx_F (some (.int 1)) (telM M 3 a b c d e f)) := mx_mono tX7_lineUp_0 (fun r M' q => by
      rcases q with ⟨-, q1, q2⟩ | ⟨q0, -⟩
      · exact ⟨q1, q2⟩
      · exact absurd hc q0)
    have kA : ∀ j, 46 ≤ j → (telM M 3 a b c d e f).1 j = M.1 j := fun j hj => funext fun i => by
      unfold telM
      rw [mI_ne _ _ _ _ (by omega), mI_ne _ _ _ _ (by omega), mI_ne _ _ _ _ (by omega), mI_ne _ _ _ _ (by omega), mI_ne _ _ _ _ (by omega), mI_ne _ _ _ _ (by omega), mI_ne _ _ _ _ (by omega)]
    have h1 := RR_ml h (M1 := telM M 3 a b c d e f) (fun j hj _ => kA j hj)
    have hm0 := hiff.mp hc
    have hm : mluC (telM M 3 a b c d e f) ((telM M 3 a b c d e f).1 48 0) a b c d e f := by
      unfold mluC at hm0 ⊢
      rw [kA 52 (by omega), kA 48 (by omega)]
      exact hm0
    have hM := mx_mono (tX8_lineUp_0 (l := l) (G := G) (a := a) (b := b) (c := c) (d := d) (e := e) (f := f) (M := telM M 3 a b c d e f)) (Q := mx_F (some (.int 1)) (mtl_0 (six6 (telM M 3 a b c d e f) a b c d e f) a b c d e f)) (fun r M' q => by
      rcases q with ⟨-, q1, q2⟩ | ⟨q0, -⟩
      · exact ⟨q1, q2⟩
      · exact absurd hm q0)
    refine PR_F hC hM rfl (tell_RR_0 h1 hm0.2.1 hm0.2.2.2 hc.1.1) (fun j hj => funext fun i => ?_)
    unfold mtl_0 six6
    simp only [mI_ne _ _ _ _ (show j ≠ 51 by omega), mI_ne _ _ _ _ (show j ≠ 50 by omega), mI_ne _ _ _ _ (show j ≠ 57 by omega), mI_ne _ _ _ _ (show j ≠ 46 by omega)]
  · have hC : mx_Met l G yX7_lineUp cX7_lineUp 10 ((some FieldType.boolean)) 2 40 [.ref 0, .int 0, .int a, .int b, .int c, .int d, .int e, .int f] M (mx_F (some (.int 0)) M) := mx_mono tX7_lineUp_0 (fun r M' q => by
      rcases q with ⟨q0, -⟩ | ⟨-, q1, q2⟩
      · exact absurd q0 hc
      · exact ⟨q1, q2⟩)
    have hM := mx_mono (tX8_lineUp_0 (l := l) (G := G) (a := a) (b := b) (c := c) (d := d) (e := e) (f := f) (M := M)) (Q := mx_F (some (.int 0)) (six6 M a b c d e f)) (fun r M' q => by
      rcases q with ⟨q0, -⟩ | ⟨-, q1, q2⟩
      · exact absurd (hiff.mpr q0) hc
      · exact ⟨q1, q2⟩)
    have k6 : ∀ j, j ≠ 57 → (six6 M a b c d e f).1 j = (mI M 46 13 0).1 j := fun j hj => funext fun i => by
      unfold six6
      rw [mI_ne _ _ _ _ hj, mI_ne _ _ _ _ hj, mI_ne _ _ _ _ hj, mI_ne _ _ _ _ hj, mI_ne _ _ _ _ hj, mI_ne _ _ _ _ hj]
    have h2 := RR_cg (RR_th h 0) (A' := M) (B' := six6 M a b c d e f) (fun _ _ => rfl) (fun _ _ _ => ⟨rfl, rfl⟩) (fun _ _ => ⟨rfl, rfl⟩) (fun _ _ _ _ => rfl) (fun _ _ => rfl) h.2.1.2.1.1.2.1 (fun k _ => k6 k (by omega)) (fun j _ => by rw [k6 46 (by decide)]) (fun j _ => by rw [k6 52 (by decide)])
    exact PR_F hC hM rfl h2 (fun j hj => by rw [k6 j (by omega), th_k _ _ hj])
theorem P_begin_0 (h : RR n M M) : PR l G n yX7_begin cX7_begin 2 ((some FieldType.int)) 2 80 [.ref 0, .int 0] yX8_begin cX8_begin 5 ((some FieldType.int)) 1 23 [.ref 46, .int 0] M := by
  obtain ⟨-, ⟨⟨b9, b10⟩, -⟩, -, ⟨b14, b15⟩, -⟩ := h.2.1.2.1
  have s6 := h.1.1.1.2.2.1
  have s4 := h.1.1.1.2.1.2
  have hC0 := tX7_begin_0 (l := l) (G := G) (M := M) b9 b10 (fun q => (b14 q).1) (fun q => (b15 q).1)
  have hmp : ∀ A1 : mx_Mem, (∀ j, 46 ≤ j → A1.1 j = M.1 j) → (¬ A1.1 51 0 = 0 → ∀ k : Nat, k < 6 → isP (A1.1 50 (0 + k))) ∧ (¬ A1.1 51 1 = 0 → ∀ k : Nat, k < 6 → isP (A1.1 50 (6 + k))) := fun A1 kA => by
    rw [kA 51 (by omega), kA 50 (by omega), ← s4.1, ← s4.2, isB_ne b9, isB_ne b10]
    exact ⟨fun q k hk => by rw [Nat.zero_add, ← (s6 k hk).1]; exact (b14 q).1 k hk, fun q k hk => by rw [← (s6 k hk).2]; exact (b15 q).1 k hk⟩
  by_cases hc : bgC M
  · have hC : mx_Met l G yX7_begin cX7_begin 2 ((some FieldType.int)) 2 80 [.ref 0, .int 0] M (mx_F (some (.int (M.1 19 0 + 1))) (bgM M 0)) := mx_mono hC0 (fun r M' q => by
      rcases q with ⟨-, q1, q2⟩ | ⟨q0, -⟩
      · exact ⟨q1, q2⟩
      · exact absurd hc q0)
    have kA : ∀ j, 46 ≤ j → (bgM M 0).1 j = M.1 j := fun j hj => funext fun i => by
      unfold bgM coS
      rw [mI_ne _ _ _ _ (by omega), mI_ne _ _ _ _ (by omega), mI_ne _ _ _ _ (by omega), mI_ne _ _ _ _ (by omega), mI_ne _ _ _ _ (by omega), mI_ne _ _ _ _ (by omega), (stF_at _ 34).2 j (by omega) (by omega), (stF_at _ 31).2 j (by omega) (by omega), mI_ne _ _ _ _ (by omega), mI_ne _ _ _ _ (by omega), bgS_n _ _ _ (by omega), bgS_n _ _ _ (by omega)]
    have h1 := RR_ml h (M1 := bgM M 0) (fun j hj _ => kA j hj)
    obtain ⟨e1, e2⟩ := begin_RR (t := 0) (by decide) h1 hc
    have hmc := (bg_iff h1).mp hc
    obtain ⟨g1, g2⟩ := hmp _ kA
    generalize bgM M 0 = A1 at hC kA h1 e1 e2 hmc g1 g2
    have hM := mx_mono (tX8_begin_0 (l := l) (G := G) (M := A1) g1 g2) (Q := mx_F (some (.int ((mbM A1 0).1 52 0))) (mbM A1 0)) (fun r M' q => by
      rcases q with ⟨-, q1, q2⟩ | ⟨q0, -⟩
      · exact ⟨q1, q2⟩
      · exact absurd hmc q0)
    refine PR_B hC hM e2 e1 (fun j hj => ?_)
    have kX : ∀ (N : mx_Mem) (b x : Nat), (mbX N b x).1 j = N.1 j := fun N b x => funext fun i => by
      unfold mbX
      rw [mI_ne _ _ _ _ (by omega), mb4_ne _ _ _ (by omega), mb3_ne _ _ (by omega), mb2_ne _ _ (by omega)]
    unfold mbM
    rw [mst_n _ (by omega) (by omega), kX, kX]
    exact funext fun i => by
      unfold mbH
      rw [mI_ne _ _ _ _ (by omega), mI_ne _ _ _ _ (by omega), mI_ne _ _ _ _ (by omega), mI_ne _ _ _ _ (by omega), mI_ne _ _ _ _ (by omega), th_k _ _ hj]
  · have hC : mx_Met l G yX7_begin cX7_begin 2 ((some FieldType.int)) 2 80 [.ref 0, .int 0] M (mx_F (some (.int (-1))) M) := mx_mono hC0 (fun r M' q => by
      rcases q with ⟨q0, -⟩ | ⟨-, q1, q2⟩
      · exact absurd q0 hc
      · exact ⟨q1, q2⟩)
    obtain ⟨g1, g2⟩ := hmp M (fun _ _ => rfl)
    have hM := mx_mono (tX8_begin_0 (l := l) (G := G) (M := M) g1 g2) (Q := mx_F (some (.int (-1))) (mI M 46 13 0)) (fun r M' q => by
      rcases q with ⟨q0, -⟩ | ⟨-, q1, q2⟩
      · exact absurd ((bg_iff h).mpr q0) hc
      · exact ⟨q1, q2⟩)
    exact PR_S h hC hM rfl
theorem P_skill_1 (h : RR n M M) (p w v : Int32) : PR l G n yX7_skill cX7_skill 7 ((some FieldType.int)) 1 24 [.ref 0, .int 1, .int p, .int w, .int v] yX8_skill cX8_skill 6 ((some FieldType.int)) 2 42 [.ref 46, .int 1, .int p, .int w, .int v] M := by
  by_cases hc : skC p w v
  · obtain ⟨p', hp, rfl⟩ := isP_n hc.1
    obtain ⟨w', hw, rfl⟩ := vp_in_of (vp_in_of2 4 (by decide) rfl hc.2.1.1 hc.2.1.2) (by decide)
    have ei : nI p' * 4 + nI w' = nI (p' * 4 + w') := by rw [show (4 : Int32) = nI 4 from rfl, pk_mul, nI_add]
    have hin : 0 ≤ nI p' * 4 + nI w' ∧ ¬ 48 ≤ nI p' * 4 + nI w' := by rw [ei]; exact ⟨nI_pos' (by omega), nI_ge (b := 48) (by omega) (by decide)⟩
    have hC : mx_Met l G yX7_skill cX7_skill 7 ((some FieldType.int)) 1 24 [.ref 0, .int 1, .int (nI p'), .int (nI w'), .int v] M (mx_F (some (.int (M.1 7 (p' * 4 + w')))) (mI M 7 (p' * 4 + w') v)) := mx_mono tX7_skill_1 (fun r M' q => by
      rcases q with ⟨-, q1, q2⟩ | ⟨q0, -⟩
      · rw [if_pos hin, ei, nI_clamp (by omega)] at q2
        rw [sko_n _ hp hw] at q1
        exact ⟨q1, q2⟩
      · exact absurd hc q0)
    have kA : ∀ j, 46 ≤ j → (mI M 7 (p' * 4 + w') v).1 j = M.1 j := fun j hj => funext fun i => mI_ne _ _ _ _ (by omega)
    have h1 := RR_ml h (M1 := mI M 7 (p' * 4 + w') v) (fun j hj _ => kA j hj)
    have hM := tX8_skill_1 (l := l) (G := G) (p := p') (w := w') (v := v) (M := mI M 7 (p' * 4 + w') v) hp hw hc.2.2
    refine PR_F hC hM ?_ (skill_RR_1 (RR_th h1 0) hp hw v |> fun z => ?_) (fun j hj => funext fun i => by rw [mI_ne _ _ _ _ (by omega), th_k _ _ hj])
    · rw [kA 47 (by omega)]
      have w9 := h.1.1.1.1.2 (p' * 4 + w') (by omega)
      rw [w9.2, show (12 + p') * 4 + w' = 48 + (p' * 4 + w') by omega]
    · have e9 : mI (mI M 7 (p' * 4 + w') v) 7 (p' * 4 + w') v = mI M 7 (p' * 4 + w') v := mI_idem _ _ _ _ _
      exact z
  · have hC : mx_Met l G yX7_skill cX7_skill 7 ((some FieldType.int)) 1 24 [.ref 0, .int 1, .int p, .int w, .int v] M (mx_F (some (.int (-1))) M) := mx_mono tX7_skill_1 (fun r M' q => by
      rcases q with ⟨q0, -⟩ | ⟨-, q1, q2⟩
      · exact absurd q0 hc
      · exact ⟨q1, q2⟩)
    exact PR_S h hC (tX8_skill_1_n (fun q => hc ⟨q.1, ⟨q.2.1.1, (le3 w).mp q.2.1.2⟩, q.2.2⟩)) rfl
theorem P_libre_1 (h : RR n M M) (p : Int32) : PR l G n yX7_libre cX7_libre 5 ((some FieldType.int)) 1 21 [.ref 0, .int 1, .int p] yX8_libre cX8_libre 4 ((some FieldType.int)) 2 42 [.ref 46, .int 1, .int p] M := by
  have hon := on_R h
  by_cases hc : lbC M p
  · have hC : mx_Met l G yX7_libre cX7_libre 5 ((some FieldType.int)) 1 21 [.ref 0, .int 1, .int p] M (mx_F (some (.int (M.1 6 2))) (mI M 6 2 p)) := mx_mono tX7_libre_1 (fun r M' q => by
      rcases q with ⟨-, q1, q2⟩ | ⟨q0, -⟩
      · exact ⟨q1, q2⟩
      · exact absurd hc q0)
    have kA : ∀ j, 46 ≤ j → (mI M 6 2 p).1 j = M.1 j := fun j hj => funext fun i => mI_ne _ _ _ _ (by omega)
    have h1 := RR_ml h (M1 := mI M 6 2 p) (fun j hj _ => kA j hj)
    have hm : (p = -1 ∨ isP p) ∧ ¬ (mI M 6 2 p).1 52 1 = 1 := ⟨hc.1, by rw [kA 52 (by omega)]; exact hon.mp hc.2⟩
    have hM := mx_mono (tX8_libre_1 (l := l) (G := G) (p := p) (M := mI M 6 2 p)) (Q := mx_F (some (.int ((mI M 6 2 p).1 48 1))) (mI (mI (mI M 6 2 p) 46 13 0) 48 1 p)) (fun r M' q => by
      rcases q with ⟨-, q1, q2⟩ | ⟨q0, -⟩
      · exact ⟨q1, q2⟩
      · exact absurd hm q0)
    have q3 : M.1 6 2 = M.1 48 1 := by first | exact h.1.1.1.2.1.1.1 | exact h.1.1.1.2.1.1.2
    exact PR_F hC hM (by rw [kA 48 (by omega)]; exact q3) (libre_RR_1 (RR_th h1 0) hc.1 hc.2) (fun j hj => funext fun i => by rw [mI_ne _ _ _ _ (by omega), th_k _ _ hj])
  · have hC : mx_Met l G yX7_libre cX7_libre 5 ((some FieldType.int)) 1 21 [.ref 0, .int 1, .int p] M (mx_F (some (.int (-2))) M) := mx_mono tX7_libre_1 (fun r M' q => by
      rcases q with ⟨q0, -⟩ | ⟨-, q1, q2⟩
      · exact absurd q0 hc
      · exact ⟨q1, q2⟩)
    have hm : ¬ ((p = -1 ∨ isP p) ∧ ¬ M.1 52 1 = 1) := fun w => hc ⟨w.1, hon.mpr w.2⟩
    have hM := mx_mono (tX8_libre_1 (l := l) (G := G) (p := p) (M := M)) (Q := mx_F (some (.int (-2))) (mI M 46 13 0)) (fun r M' q => by
      rcases q with ⟨q0, -⟩ | ⟨-, q1, q2⟩
      · exact absurd q0 hm
      · exact ⟨q1, q2⟩)
    exact PR_S h hC hM rfl
theorem lu_R_1 {a b c d e f : Int32} (h : RR n M M) : luC M (M.1 6 2) a b c d e f ↔ mluC M (M.1 48 1) a b c d e f := by
  have hon := on_R h
  have k4 := h.1.1.2.1.1.2.2.2.1
  have hz : isL (M.1 6 2) := by first | exact h.2.1.2.1.2.1.2.1 | exact h.2.1.2.1.2.1.2.2
  have q3 : M.1 6 2 = M.1 48 1 := by first | exact h.1.1.1.2.1.1.1 | exact h.1.1.1.2.1.1.2
  unfold luC mluC
  rw [lu_iff (M := M) hz, hon, k4, ← q3]
  simp only [alk, List.mem_cons, List.not_mem_nil, not_or, or_false, not_false_eq_true, and_true]
  constructor
  · rintro ⟨g, ⟨f1, ⟨f2, f3, f4, f5, f6⟩, e1, ⟨e2, e3, e4, e5⟩, d1, ⟨d2, d3, d4⟩, c1, ⟨c2, c3⟩, b1, b2, a1⟩, z1, z2, z3, z4, z5, z6⟩
    exact ⟨g, ⟨⟨a1, b1, c1⟩, d1, e1, f1⟩, ⟨⟨fun w => z6 w.symm, fun w => z5 w.symm, fun w => z4 w.symm⟩, fun w => z3 w.symm, fun w => z2 w.symm, fun w => z1 w.symm⟩, fun w => b2 w.symm, ⟨fun w => c3 w.symm, fun w => c2 w.symm⟩, ⟨fun w => d4 w.symm, fun w => d3 w.symm, fun w => d2 w.symm⟩, ⟨fun w => e5 w.symm, fun w => e4 w.symm, fun w => e3 w.symm, fun w => e2 w.symm⟩, fun w => f6 w.symm, fun w => f5 w.symm, fun w => f4 w.symm, fun w => f3 w.symm, fun w => f2 w.symm⟩
  · rintro ⟨g, ⟨⟨a1, b1, c1⟩, d1, e1, f1⟩, ⟨⟨z1, z2, z3⟩, z4, z5, z6⟩, y1, ⟨y2, y3⟩, ⟨y4, y5, y6⟩, ⟨y7, y8, y9, y10⟩, y11, y12, y13, y14, y15⟩
    exact ⟨g, ⟨f1, ⟨fun w => y15 w.symm, fun w => y14 w.symm, fun w => y13 w.symm, fun w => y12 w.symm, fun w => y11 w.symm⟩, e1, ⟨fun w => y10 w.symm, fun w => y9 w.symm, fun w => y8 w.symm, fun w => y7 w.symm⟩, d1, ⟨fun w => y6 w.symm, fun w => y5 w.symm, fun w => y4 w.symm⟩, c1, ⟨fun w => y3 w.symm, fun w => y2 w.symm⟩, b1, fun w => y1 w.symm, a1⟩, fun w => z6 w.symm, fun w => z5 w.symm, fun w => z4 w.symm, fun w => z3 w.symm, fun w => z2 w.symm, fun w => z1 w.symm⟩
theorem P_lineUp_1 (h : RR n M M) (a b c d e f : Int32) : PR l G n yX7_lineUp cX7_lineUp 10 ((some FieldType.boolean)) 2 40 [.ref 0, .int 1, .int a, .int b, .int c, .int d, .int e, .int f] yX8_lineUp cX8_lineUp 10 ((some FieldType.boolean)) 2 42 [.ref 46, .int 1, .int a, .int b, .int c, .int d, .int e, .int f] M := by
  have hiff := lu_R_1 (a := a) (b := b) (c := c) (d := d) (e := e) (f := f) h
  by_cases hc : luC M (M.1 6 2) a b c d e f
  · have hC : mx_Met l G yX7_lineUp cX7_lineUp 10 ((some FieldType.boolean)) 2 40 [.ref 0, .int 1, .int a, .int b, .int c, .int d, .int e, .int f] M (mx_F (some (.int 1)) (telM M 6 a b c d e f)) := mx_mono tX7_lineUp_1 (fun r M' q => by
      rcases q with ⟨-, q1, q2⟩ | ⟨q0, -⟩
      · exact ⟨q1, q2⟩
      · exact absurd hc q0)
    have kA : ∀ j, 46 ≤ j → (telM M 6 a b c d e f).1 j = M.1 j := fun j hj => funext fun i => by
      unfold telM
      rw [mI_ne _ _ _ _ (by omega), mI_ne _ _ _ _ (by omega), mI_ne _ _ _ _ (by omega), mI_ne _ _ _ _ (by omega), mI_ne _ _ _ _ (by omega), mI_ne _ _ _ _ (by omega), mI_ne _ _ _ _ (by omega)]
    have h1 := RR_ml h (M1 := telM M 6 a b c d e f) (fun j hj _ => kA j hj)
    have hm0 := hiff.mp hc
    have hm : mluC (telM M 6 a b c d e f) ((telM M 6 a b c d e f).1 48 1) a b c d e f := by
      unfold mluC at hm0 ⊢
      rw [kA 52 (by omega), kA 48 (by omega)]
      exact hm0
    have hM := mx_mono (tX8_lineUp_1 (l := l) (G := G) (a := a) (b := b) (c := c) (d := d) (e := e) (f := f) (M := telM M 6 a b c d e f)) (Q := mx_F (some (.int 1)) (mtl_1 (six6 (telM M 6 a b c d e f) a b c d e f) a b c d e f)) (fun r M' q => by
      rcases q with ⟨-, q1, q2⟩ | ⟨q0, -⟩
      · exact ⟨q1, q2⟩
      · exact absurd hm q0)
    refine PR_F hC hM rfl (tell_RR_1 h1 hm0.2.1 hm0.2.2.2 hc.1.1) (fun j hj => funext fun i => ?_)
    unfold mtl_1 six6
    simp only [mI_ne _ _ _ _ (show j ≠ 51 by omega), mI_ne _ _ _ _ (show j ≠ 50 by omega), mI_ne _ _ _ _ (show j ≠ 57 by omega), mI_ne _ _ _ _ (show j ≠ 46 by omega)]
  · have hC : mx_Met l G yX7_lineUp cX7_lineUp 10 ((some FieldType.boolean)) 2 40 [.ref 0, .int 1, .int a, .int b, .int c, .int d, .int e, .int f] M (mx_F (some (.int 0)) M) := mx_mono tX7_lineUp_1 (fun r M' q => by
      rcases q with ⟨q0, -⟩ | ⟨-, q1, q2⟩
      · exact absurd q0 hc
      · exact ⟨q1, q2⟩)
    have hM := mx_mono (tX8_lineUp_1 (l := l) (G := G) (a := a) (b := b) (c := c) (d := d) (e := e) (f := f) (M := M)) (Q := mx_F (some (.int 0)) (six6 M a b c d e f)) (fun r M' q => by
      rcases q with ⟨q0, -⟩ | ⟨-, q1, q2⟩
      · exact absurd (hiff.mpr q0) hc
      · exact ⟨q1, q2⟩)
    have k6 : ∀ j, j ≠ 57 → (six6 M a b c d e f).1 j = (mI M 46 13 0).1 j := fun j hj => funext fun i => by
      unfold six6
      rw [mI_ne _ _ _ _ hj, mI_ne _ _ _ _ hj, mI_ne _ _ _ _ hj, mI_ne _ _ _ _ hj, mI_ne _ _ _ _ hj, mI_ne _ _ _ _ hj]
    have h2 := RR_cg (RR_th h 0) (A' := M) (B' := six6 M a b c d e f) (fun _ _ => rfl) (fun _ _ _ => ⟨rfl, rfl⟩) (fun _ _ => ⟨rfl, rfl⟩) (fun _ _ _ _ => rfl) (fun _ _ => rfl) h.2.1.2.1.1.2.1 (fun k _ => k6 k (by omega)) (fun j _ => by rw [k6 46 (by decide)]) (fun j _ => by rw [k6 52 (by decide)])
    exact PR_F hC hM rfl h2 (fun j hj => by rw [k6 j (by omega), th_k _ _ hj])
theorem P_begin_1 (h : RR n M M) : PR l G n yX7_begin cX7_begin 2 ((some FieldType.int)) 2 80 [.ref 0, .int 1] yX8_begin cX8_begin 5 ((some FieldType.int)) 1 23 [.ref 46, .int 1] M := by
  obtain ⟨-, ⟨⟨b9, b10⟩, -⟩, -, ⟨b14, b15⟩, -⟩ := h.2.1.2.1
  have s6 := h.1.1.1.2.2.1
  have s4 := h.1.1.1.2.1.2
  have hC0 := tX7_begin_1 (l := l) (G := G) (M := M) b9 b10 (fun q => (b14 q).1) (fun q => (b15 q).1)
  have hmp : ∀ A1 : mx_Mem, (∀ j, 46 ≤ j → A1.1 j = M.1 j) → (¬ A1.1 51 0 = 0 → ∀ k : Nat, k < 6 → isP (A1.1 50 (0 + k))) ∧ (¬ A1.1 51 1 = 0 → ∀ k : Nat, k < 6 → isP (A1.1 50 (6 + k))) := fun A1 kA => by
    rw [kA 51 (by omega), kA 50 (by omega), ← s4.1, ← s4.2, isB_ne b9, isB_ne b10]
    exact ⟨fun q k hk => by rw [Nat.zero_add, ← (s6 k hk).1]; exact (b14 q).1 k hk, fun q k hk => by rw [← (s6 k hk).2]; exact (b15 q).1 k hk⟩
  by_cases hc : bgC M
  · have hC : mx_Met l G yX7_begin cX7_begin 2 ((some FieldType.int)) 2 80 [.ref 0, .int 1] M (mx_F (some (.int (M.1 19 0 + 1))) (bgM M 1)) := mx_mono hC0 (fun r M' q => by
      rcases q with ⟨-, q1, q2⟩ | ⟨q0, -⟩
      · exact ⟨q1, q2⟩
      · exact absurd hc q0)
    have kA : ∀ j, 46 ≤ j → (bgM M 1).1 j = M.1 j := fun j hj => funext fun i => by
      unfold bgM coS
      rw [mI_ne _ _ _ _ (by omega), mI_ne _ _ _ _ (by omega), mI_ne _ _ _ _ (by omega), mI_ne _ _ _ _ (by omega), mI_ne _ _ _ _ (by omega), mI_ne _ _ _ _ (by omega), (stF_at _ 34).2 j (by omega) (by omega), (stF_at _ 31).2 j (by omega) (by omega), mI_ne _ _ _ _ (by omega), mI_ne _ _ _ _ (by omega), bgS_n _ _ _ (by omega), bgS_n _ _ _ (by omega)]
    have h1 := RR_ml h (M1 := bgM M 1) (fun j hj _ => kA j hj)
    obtain ⟨e1, e2⟩ := begin_RR (t := 1) (by decide) h1 hc
    have hmc := (bg_iff h1).mp hc
    obtain ⟨g1, g2⟩ := hmp _ kA
    generalize bgM M 1 = A1 at hC kA h1 e1 e2 hmc g1 g2
    have hM := mx_mono (tX8_begin_1 (l := l) (G := G) (M := A1) g1 g2) (Q := mx_F (some (.int ((mbM A1 1).1 52 0))) (mbM A1 1)) (fun r M' q => by
      rcases q with ⟨-, q1, q2⟩ | ⟨q0, -⟩
      · exact ⟨q1, q2⟩
      · exact absurd hmc q0)
    refine PR_B hC hM e2 e1 (fun j hj => ?_)
    have kX : ∀ (N : mx_Mem) (b x : Nat), (mbX N b x).1 j = N.1 j := fun N b x => funext fun i => by
      unfold mbX
      rw [mI_ne _ _ _ _ (by omega), mb4_ne _ _ _ (by omega), mb3_ne _ _ (by omega), mb2_ne _ _ (by omega)]
    unfold mbM
    rw [mst_n _ (by omega) (by omega), kX, kX]
    exact funext fun i => by
      unfold mbH
      rw [mI_ne _ _ _ _ (by omega), mI_ne _ _ _ _ (by omega), mI_ne _ _ _ _ (by omega), mI_ne _ _ _ _ (by omega), mI_ne _ _ _ _ (by omega), th_k _ _ hj]
  · have hC : mx_Met l G yX7_begin cX7_begin 2 ((some FieldType.int)) 2 80 [.ref 0, .int 1] M (mx_F (some (.int (-1))) M) := mx_mono hC0 (fun r M' q => by
      rcases q with ⟨q0, -⟩ | ⟨-, q1, q2⟩
      · exact absurd q0 hc
      · exact ⟨q1, q2⟩)
    obtain ⟨g1, g2⟩ := hmp M (fun _ _ => rfl)
    have hM := mx_mono (tX8_begin_1 (l := l) (G := G) (M := M) g1 g2) (Q := mx_F (some (.int (-1))) (mI M 46 13 0)) (fun r M' q => by
      rcases q with ⟨q0, -⟩ | ⟨-, q1, q2⟩
      · exact absurd ((bg_iff h).mpr q0) hc
      · exact ⟨q1, q2⟩)
    exact PR_S h hC hM rfl
theorem P_skill (t p w v : Int32) (h : RR n M M) : PR l G n yX7_skill cX7_skill 7 ((some FieldType.int)) 1 24 [.ref 0, .int t, .int p, .int w, .int v] yX8_skill cX8_skill 6 ((some FieldType.int)) 2 42 [.ref 46, .int t, .int p, .int w, .int v] M := by
  by_cases h0 : t = 0
  · subst h0; exact P_skill_0 h p w v
  · by_cases h1 : t = 1
    · subst h1; exact P_skill_1 h p w v
    · exact PR_S h (tX7_skill_n (fun q => q.elim h0 h1)) (tX8_skill_n (fun q => q.elim h0 h1)) rfl
theorem P_libre (t p : Int32) (h : RR n M M) : PR l G n yX7_libre cX7_libre 5 ((some FieldType.int)) 1 21 [.ref 0, .int t, .int p] yX8_libre cX8_libre 4 ((some FieldType.int)) 2 42 [.ref 46, .int t, .int p] M := by
  by_cases h0 : t = 0
  · subst h0; exact P_libre_0 h p
  · by_cases h1 : t = 1
    · subst h1; exact P_libre_1 h p
    · exact PR_S h (tX7_libre_n (fun q => q.elim h0 h1)) (tX8_libre_n (fun q => q.elim h0 h1)) rfl
theorem P_begin (t : Int32) (h : RR n M M) : PR l G n yX7_begin cX7_begin 2 ((some FieldType.int)) 2 80 [.ref 0, .int t] yX8_begin cX8_begin 5 ((some FieldType.int)) 1 23 [.ref 46, .int t] M := by
  by_cases h0 : t = 0
  · subst h0; exact P_begin_0 h
  · by_cases h1 : t = 1
    · subst h1; exact P_begin_1 h
    · exact PR_S h (tX7_begin_n (fun q => q.elim h0 h1)) (tX8_begin_n (fun q => q.elim h0 h1)) rfl
theorem P_set (w v : Int32) (hn : n ≤ 1000) (h : RR n M M) : PR l G n yX7_set cX7_set 4 ((some FieldType.int)) 1 22 [.ref 0, .int w, .int v] yX8_set cX8_set 4 ((some FieldType.int)) 1 22 [.ref 46, .int w, .int v] M := by
  have e0 := h.1.1.2.1.1.1
  have s0 := h.1.1.1.1.1
  have hiff : seC M w v ↔ msC M w v := by
    unfold seC msC
    rw [nbTk_iff, e0, s0 0 (by decide), s0 1 (by decide), le5]
    constructor
    · rintro ⟨a, b, c, d, e⟩; exact ⟨b, c, a, d, e⟩
    · rintro ⟨b, c, a, d, e⟩; exact ⟨a, b, c, d, e⟩
  by_cases hc : seC M w v
  · have hm0 := hiff.mp hc
    obtain ⟨k, hk, rfl⟩ := vp_in_of (vp_in5 hm0.1) (by decide)
    have hC : mx_Met l G yX7_set cX7_set 4 ((some FieldType.int)) 1 22 [.ref 0, .int (nI k), .int v] M (mx_F (some (.int (M.1 2 k))) (mI M 2 k v)) := mx_mono tX7_set (fun r M' q => by
      rcases q with ⟨-, q1, q2⟩ | ⟨q0, -⟩
      · rw [nI_clamp (by omega)] at q1 q2
        exact ⟨q1, q2⟩
      · exact absurd hc q0)
    have kA : ∀ j, 46 ≤ j → (mI M 2 k v).1 j = M.1 j := fun j hj => funext fun i => mI_ne _ _ _ _ (by omega)
    have h1 := RR_ml h (M1 := mI M 2 k v) (fun j hj _ => kA j hj)
    have hm : msC (mI M 2 k v) (nI k) v := by
      unfold msC at hm0 ⊢
      rw [kA 52 (by omega), kA 49 (by omega)]
      exact hm0
    have hM := mx_mono (tX8_set (l := l) (G := G) (w := nI k) (v := v) (M := mI M 2 k v)) (Q := mx_F (some (.int ((mI M 2 k v).1 49 k))) (mI (mI (mI M 2 k v) 46 13 0) 49 k v)) (fun r M' q => by
      rcases q with ⟨-, q1, q2⟩ | ⟨q0, -⟩
      · rw [nI_clamp (by omega)] at q1 q2
        exact ⟨q1, q2⟩
      · exact absurd hm q0)
    have hb := hm0.2.1
    rw [nI_clamp (by omega)] at hb
    exact PR_F hC hM (by rw [kA 49 (by omega)]; exact s0 k hk) (set_RR hn (RR_th h1 0) hk hb.1 hb.2 hc.1) (fun j hj => funext fun i => by rw [mI_ne _ _ _ _ (by omega), th_k _ _ hj])
  · have hC : mx_Met l G yX7_set cX7_set 4 ((some FieldType.int)) 1 22 [.ref 0, .int w, .int v] M (mx_F (some (.int (-1))) M) := mx_mono tX7_set (fun r M' q => by
      rcases q with ⟨q0, -⟩ | ⟨-, q1, q2⟩
      · exact absurd q0 hc
      · exact ⟨q1, q2⟩)
    have hM := mx_mono (tX8_set (l := l) (G := G) (w := w) (v := v) (M := M)) (Q := mx_F (some (.int (-1))) (mI M 46 13 0)) (fun r M' q => by
      rcases q with ⟨q0, -⟩ | ⟨-, q1, q2⟩
      · exact absurd (hiff.mpr q0) hc
      · exact ⟨q1, q2⟩)
    exact PR_S h hC hM rfl
theorem P_sheet (hn : n ≤ 1000) (h : RR n M M) : PR l G n yX7_sheet cX7_sheet 3 ((some FieldType.int)) 6 138 [.ref 0] yX8_sheet cX8_sheet 5 ((some FieldType.int)) 5 110 [.ref 46] M := by
  obtain ⟨m, hm, hl⟩ := h.2.1.2.1.2.2.2.2.2.1
  have hl2 : M.1 46 10 = nI m := h.1.1.1.2.2.2.1.1.symm.trans hl
  have h1 := RR_ml h (M1 := sheM M m) (fun k hk _ => sheM_k M m hk)
  obtain ⟨e1, e2, e3⟩ := sheet_R hn h1 hm
  have hC : mx_Met l G yX7_sheet cX7_sheet 3 ((some FieldType.int)) 6 138 [.ref 0] M (mx_F (some (.int (sheR M m))) (sheM M m)) := tX7_sheet hm hl (RR_CI h)
  have hl3 : (sheM M m).1 46 10 = nI m := by rw [sheM_k M m (by decide)]; exact hl2
  generalize sheM M m = A1 at h1 e1 e2 e3 hC hl3
  exact PR_F hC (tX8_sheet hm hl3 e1) e2 e3 (fun k hk => mshV_k _ _ hk)
end

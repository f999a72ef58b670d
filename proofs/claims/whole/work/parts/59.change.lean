/-! the coupling: changes -/
theorem stE {A B : mx_Mem} {k j : Nat} (x : Int32) (hx : isP x) (h : ∀ p, p < 12 → A.1 k p = B.1 52 (p + j)) : A.1 k x.toNatClampNeg = B.1 52 (x.toNatClampNeg + j) := by
  obtain ⟨q, hq, rfl⟩ := isP_n hx
  rw [nI_clamp (by omega)]
  exact h q hq
theorem arP_iff (A : mx_Mem) (c : Nat) {p r : Nat} (hp : p < 12) (hr : r < 12) : arP A c (nI p) (nI r) = 1 ↔ (A.1 (c + 2) p = 1 ∧ A.1 (c + 2) r = 0) ∨ (A.1 (c + 2) p = 3 ∧ A.1 (c + 3) p = nI r) := by
  have h1 : isP (nI p) ∧ isP (nI r) := ⟨⟨nI_pos' (by omega), nI_ge (b := 12) hp (by decide)⟩, ⟨nI_pos' (by omega), nI_ge (b := 12) hr (by decide)⟩⟩
  unfold arP
  rw [if_pos h1, nI_clamp (by omega), nI_clamp (by omega)]
  generalize A.1 (c + 2) p = u
  generalize A.1 (c + 2) r = v
  generalize A.1 (c + 3) p = w
  by_cases e : u = 1
  · subst e
    rw [if_pos rfl]
    by_cases e2 : v = 0
    · rw [if_pos e2]; exact ⟨fun _ => Or.inl ⟨rfl, e2⟩, fun _ => rfl⟩
    · rw [if_neg e2]
      exact ⟨fun q => absurd q (by decide), fun q => q.elim (fun q => absurd q.2 e2) (fun q => absurd q.1 (by decide))⟩
  · rw [if_neg e]
    by_cases e2 : u = 3 ∧ w = nI r
    · rw [if_pos e2]; exact ⟨fun _ => Or.inr e2, fun _ => rfl⟩
    · rw [if_neg e2]
      exact ⟨fun q => absurd q (by decide), fun q => q.elim (fun q => absurd q.1 e) (fun q => absurd q e2)⟩
theorem may_R_0 {n : Nat} {A B : mx_Mem} (hn : n ≤ 1000) (h : RR n A B) (x y : Int32) : mayC A 9 x y = mmC_0 B x y := by
  have q1 := on_R h
  unfold mayC mmC_0
  by_cases hoff : A.1 19 1 = 0
  · rw [if_pos hoff, if_pos (q1.mp hoff)]
  · have ho : A.1 19 1 = 1 := (isB_ne h.2.1.2.1.1.1.1).mp hoff
    rw [if_neg hoff, if_neg (fun q => hoff (q1.mpr q))]
    by_cases h2 : ¬ isP x ∨ ¬ isP y ∨ x = y
    · rw [if_pos h2, if_pos h2]
    · rw [if_neg h2, if_neg h2]
      have hx : isP x := Classical.not_not.mp fun q => h2 (Or.inl q)
      have hy : isP y := Classical.not_not.mp fun q => h2 (Or.inr (Or.inl q))
      have hT : IT_0 A := by first | exact (h.2.2 ho).1.1 | exact (h.2.2 ho).1.2
      have hEN : EN_0 A B := by first | exact h.1.2.1.1 | exact h.1.2.2.1
      have hEA : EA_0 A B := by first | exact h.1.2.1.2.1 | exact h.1.2.2.2.1
      have q3 : A.1 3 2 = B.1 48 0 := by first | exact h.1.1.1.2.1.1.1 | exact h.1.1.1.2.1.1.2
      have q5 : A.1 9 4 = B.1 48 0 := hT.2.1.1.trans q3
      have hO : ∀ k, k < 6 → isP (A.1 10 k) := fun k hk => by first | exact (h.2.1.2.1.2.2.1 k hk).1 | exact (h.2.1.2.1.2.2.1 k hk).2
      have hpl := plE_0 h hn ho
      have c3 : (¬ (¬ plc (A.1 10) x = -1 ∧ ¬ plc (A.1 10) x = A.1 9 5)) ↔ (plc (mpl_0 B) x = -1 ∨ x = B.1 48 0) := by
        rw [← q5]
        by_cases hz : x = A.1 9 4
        · have : plc (A.1 10) x = -1 := plc_none (fun j hj => by rw [hz]; exact hT.1.2 j hj)
          grind
        · rw [plO_0 h hn ho x hz]
          grind
      have c4 : (¬ (plc (A.1 10) y = -1 ∧ ¬ y = A.1 9 4)) ↔ (¬ plc (mpl_0 B) y = -1 ∨ y = B.1 48 0 ∨ B.1 52 10 = y) := by
        rw [← q5]
        by_cases hz : y = A.1 9 4
        · grind
        · rw [plO_0 h hn ho y hz]
          rcases hpl with ⟨e1, e2, e3⟩ | ⟨f, hf, e1, e4, e5, e6, e7, e8⟩
          · rw [e1, e2]
            have := isP_m1 hy
            grind
          · rw [e1, e6]
            have hm := nI_m1 (k := f) (by omega)
            rcases plc_c (f := A.1 10) y with ⟨w1, w2⟩ | ⟨k, hk, w1, w2⟩
            · have := w2 f hf
              grind
            · have hm2 := nI_m1 (k := k) (by omega)
              by_cases hkf : k = f
              · subst hkf
                grind
              · have : ¬ nI k = nI f := fun q => hkf ((nI_k (by omega) (by omega)).mp q)
                grind
      have c5 : (A.1 2 4 ≤ A.1 9 9) ↔ (B.1 49 4 ≤ B.1 52 8) := by
        rw [h.1.1.1.1.1 4 (by decide), hEN.1.2.2]
      by_cases g3 : plc (mpl_0 B) x = -1 ∨ x = B.1 48 0
      · rw [if_pos (c3.mpr g3), if_pos g3]
      · rw [if_neg (fun q => g3 (c3.mp q)), if_neg g3]
        by_cases g4 : ¬ plc (mpl_0 B) y = -1 ∨ y = B.1 48 0 ∨ B.1 52 10 = y
        · rw [if_pos (c4.mpr g4), if_pos g4]
        · rw [if_neg (fun q => g4 (c4.mp q)), if_neg g4]
          by_cases g5 : B.1 49 4 ≤ B.1 52 8
          · rw [if_pos (c5.mpr g5), if_pos g5]
          · rw [if_neg (fun q => g5 (c5.mp q)), if_neg g5]
            obtain ⟨p, hp, rfl⟩ := isP_n hx
            obtain ⟨r, hr, rfl⟩ := isP_n hy
            have w1 := hEA p hp
            have w2 := hEA r hr
            have w3 := hT.2.2 p hp
            have ear := arP_iff A 9 hp hr
            rw [nI_clamp (by omega), nI_clamp (by omega), ← w1.1, ← w2.1]
            by_cases s1 : A.1 11 p = 1 ∧ A.1 11 r = 0
            · rw [if_pos (ear.mpr (Or.inl s1)), if_pos s1]
            · rw [if_neg s1]
              by_cases s2 : A.1 11 p = 3 ∧ A.1 12 p = nI r
              · obtain ⟨q, hq, m2, m3, -⟩ := w3 s2.1
                have m4 : q = r := (nI_k (by omega) (by omega)).mp (m2.symm.trans s2.2)
                rw [if_pos (ear.mpr (Or.inr s2)), if_pos ⟨s2.1, by rw [← m4]; exact m3, by rw [← w1.2.2 s2.1]; exact s2.2⟩]
              · rw [if_neg (fun q => (ear.mp q).elim s1 s2), if_neg (fun q => s2 ⟨q.1, by rw [w1.2.2 q.1]; exact q.2.2⟩)]
theorem may_0_0 {n : Nat} {A B : mx_Mem} (hn : n ≤ 1000) (h : RR n A B) {x y : Int32} (hm : mayC A 9 x y = 0) : A.1 19 1 = 1 ∧ (isP x ∧ isP y ∧ ¬ x = y) ∧ (¬ plc (A.1 10) x = -1 ∧ ¬ plc (A.1 10) x = A.1 9 5) ∧ (plc (A.1 10) y = -1 ∧ ¬ y = A.1 9 4) ∧ ((A.1 11 x.toNatClampNeg = 1 ∧ A.1 11 y.toNatClampNeg = 0) ∨ (A.1 11 x.toNatClampNeg = 3 ∧ A.1 12 x.toNatClampNeg = y)) := by
  have hb := h.2.1.2.1.1.1.1
  unfold mayC arP at hm
  have : ¬ A.1 19 1 = 0 := fun q => by rw [if_pos q] at hm; exact absurd hm (by decide)
  refine ⟨(isB_ne hb).mp this, ?_⟩
  clear h hb hn
  grind (splits := 30)
theorem chg_R_0 {n : Nat} {A B : mx_Mem} (hn : n ≤ 1000) (h : RR n A B) (x y : Int32) : chR A 9 x y = (if mmC_0 B x y = 0 then plc (mpl_0 B) x else -1) ∧ RR n (chM A 9 x y) (if mmC_0 B x y = 0 then mdc_0 B x y else B) := by
  have hmm := may_R_0 hn h x y
  unfold chR chM
  rw [← hmm]
  by_cases hm : mayC A 9 x y = 0
  · rw [if_pos hm, if_pos hm, if_pos hm, if_pos hm]
    obtain ⟨ho, ⟨hx, hy, hxy⟩, ⟨p1, p2⟩, ⟨p3, p4⟩, hst⟩ := may_0_0 hn h hm
    have hT : IT_0 A := by first | exact (h.2.2 ho).1.1 | exact (h.2.2 ho).1.2
    have hEN : EN_0 A B := by first | exact h.1.2.1.1 | exact h.1.2.2.1
    have hEA : EA_0 A B := by first | exact h.1.2.1.2.1 | exact h.1.2.2.2.1
    have hEP : EP_0 A B := by first | exact h.1.2.1.2.2 | exact h.1.2.2.2.2
    have hO : ∀ k, k < 6 → isP (A.1 10 k) := fun k hk => by first | exact (h.2.1.2.1.2.2.1 k hk).1 | exact (h.2.1.2.1.2.2.1 k hk).2
    have hF5 : isF (A.1 9 5) := by first | exact h.2.1.2.1.1.2.2.1 | exact h.2.1.2.1.1.2.2.2
    have hz : ¬ x = A.1 9 4 := by
      rintro rfl
      exact p1 (plc_none (fun j hj => hT.1.2 j hj))
    have hpx : plc (mpl_0 B) x = plc (A.1 10) x := by rw [plO_0 h hn ho x hz, if_neg p2]
    refine ⟨hpx.symm, ?_⟩
    rcases plc_c (f := A.1 10) x with ⟨w1, -⟩ | ⟨k, hk, w1, w2⟩
    · exact absurd w1 p1
    have hkf : ¬ A.1 9 5 = nI k := fun q => p2 (by rw [w1, q])
    have p5 := plc_no p3
    obtain ⟨a, ha, rfl⟩ := isP_n hx
    obtain ⟨r, hr, rfl⟩ := isP_n hy
    have har : ¬ a = r := fun q => hxy (by rw [q])
    rw [nI_clamp (by omega), nI_clamp (by omega)] at hst
    have ea := hEA a ha
    -- standing and mates behind the change
    have key : ∀ (u v : Int32) (A1 : mx_Mem), (u = 2 ∧ v = 3 ∧ A.1 11 a = 1 ∧ A.1 11 r = 0 ∧ A1 = mI (mI (mI A 11 a 2) 11 r 3) 12 r (nI a)) ∨ (u = 4 ∧ v = 4 ∧ A.1 11 a = 3 ∧ A.1 12 a = nI r ∧ A1 = mI (mI A 11 a 4) 11 r 4) → RR n (mI (mI A1 10 k (nI r)) 9 9 (B.1 52 8 + 1)) (mI (mI (mI (mI (mI (mI B 52 (k + 14) (nI r)) 52 (a + 20) u) 52 (r + 20) v) 52 (a + 32) (nI r)) 52 (r + 32) (nI a)) 52 8 (B.1 52 8 + 1)) := by
      intro u v A1 hcase
      generalize hA2 : mI (mI A1 10 k (nI r)) 9 9 (B.1 52 8 + 1) = A2
      generalize hB2 : mI (mI (mI (mI (mI (mI B 52 (k + 14) (nI r)) 52 (a + 20) u) 52 (r + 20) v) 52 (a + 32) (nI r)) 52 (r + 32) (nI a)) 52 8 (B.1 52 8 + 1) = B2
      have f1 : ∀ k', k' ≠ 11 → k' ≠ 12 → A1.1 k' = A.1 k' := fun k' n1 n2 => funext fun j => by
        rcases hcase with ⟨-, -, -, -, rfl⟩ | ⟨-, -, -, -, rfl⟩
        · rw [mI_ne _ _ _ _ n2, mI_ne _ _ _ _ n1, mI_ne _ _ _ _ n1]
        · rw [mI_ne _ _ _ _ n1, mI_ne _ _ _ _ n1]
      have f2 : ∀ p, A2.1 11 p = if p = r then v else if p = a then u else A.1 11 p := fun p => by
        rw [← hA2, mI_ne _ _ _ _ (by decide), mI_ne _ _ _ _ (by decide)]
        rcases hcase with ⟨rfl, rfl, -, -, rfl⟩ | ⟨rfl, rfl, -, -, rfl⟩
        · rw [mI_ne _ _ _ _ (by decide), mI_ap, mI_ap]; simp
        · rw [mI_ap, mI_ap]; simp
      have f3 : ∀ p, A2.1 12 p = if p = r ∧ u = 2 then nI a else A.1 12 p := fun p => by
        rw [← hA2, mI_ne _ _ _ _ (by decide), mI_ne _ _ _ _ (by decide)]
        rcases hcase with ⟨rfl, rfl, -, -, rfl⟩ | ⟨rfl, rfl, -, -, rfl⟩
        · rw [mI_ap, mI_ne _ _ _ _ (by decide), mI_ne _ _ _ _ (by decide)]; simp
        · rw [mI_ne _ _ _ _ (by decide), mI_ne _ _ _ _ (by decide)]; simp
      have f4 : ∀ j, A2.1 10 j = if j = k then nI r else A.1 10 j := fun j => by
        rw [← hA2, mI_ne _ _ _ _ (by decide), mI_ap, f1 _ (by decide) (by decide)]; simp
      have f5 : ∀ j, A2.1 9 j = if j = 9 then B.1 52 8 + 1 else A.1 9 j := fun j => by
        rw [← hA2, mI_ap, mI_ne _ _ _ _ (by decide), f1 _ (by decide) (by decide)]; simp
      have f6 : ∀ k', k' ≠ 9 → k' ≠ 10 → k' ≠ 11 → k' ≠ 12 → A2.1 k' = A.1 k' := fun k' n0 n1 n2 n3 => by
        rw [← f1 k' n2 n3, ← hA2]
        exact funext fun j => by rw [mI_ne _ _ _ _ n0, mI_ne _ _ _ _ n1]
      have g1 : ∀ j, j ≠ k + 14 → j ≠ 8 → (j < 20 ∨ 44 ≤ j) → B2.1 52 j = B.1 52 j := fun j n1 n2 n3 => by
        rw [← hB2, mI_nj _ _ _ n2, mI_nj _ _ _ (by omega), mI_nj _ _ _ (by omega), mI_nj _ _ _ (by omega), mI_nj _ _ _ (by omega), mI_nj _ _ _ n1]
      have g2 : ∀ p, p < 12 → B2.1 52 (p + 20) = if p = r then v else if p = a then u else B.1 52 (p + 20) := fun p hp => by
        rw [← hB2, mI_nj _ _ _ (by omega), mI_nj _ _ _ (by omega), mI_nj _ _ _ (by omega), mI_ap, mI_ap, mI_nj _ _ _ (by omega)]; simp
      have g3 : ∀ p, p < 12 → B2.1 52 (p + 32) = if p = r then nI a else if p = a then nI r else B.1 52 (p + 32) := fun p hp => by
        rw [← hB2, mI_nj _ _ _ (by omega), mI_ap, mI_ap, mI_nj _ _ _ (by omega), mI_nj _ _ _ (by omega), mI_nj _ _ _ (by omega)]; simp
      have g4 : B2.1 52 8 = B.1 52 8 + 1 := by rw [← hB2, mI_self]
      have g5 : ∀ j, j < 6 → B2.1 52 (14 + j) = if j = k then nI r else B.1 52 (14 + j) := fun j hj => by
        rw [← hB2, mI_nj _ _ _ (by omega), mI_nj _ _ _ (by omega), mI_nj _ _ _ (by omega), mI_nj _ _ _ (by omega), mI_nj _ _ _ (by omega), mI_ap]
        by_cases e : j = k
        · rw [if_pos e, if_pos ⟨rfl, by omega⟩]
        · rw [if_neg e, if_neg (by omega)]
      have g6 : ∀ k', k' ≠ 52 → B2.1 k' = B.1 k' := fun k' n1 => by
        rw [← hB2]
        exact funext fun j => by rw [mI_ne _ _ _ _ n1, mI_ne _ _ _ _ n1, mI_ne _ _ _ _ n1, mI_ne _ _ _ _ n1, mI_ne _ _ _ _ n1, mI_ne _ _ _ _ n1]
      have huv : (u = 2 ∧ v = 3 ∧ A.1 11 a = 1 ∧ A.1 11 r = 0) ∨ (u = 4 ∧ v = 4 ∧ A.1 11 a = 3 ∧ A.1 12 a = nI r) := by
        rcases hcase with ⟨q1, q2, q3, q4, -⟩ | ⟨q1, q2, q3, q4, -⟩
        · exact Or.inl ⟨q1, q2, q3, q4⟩
        · exact Or.inr ⟨q1, q2, q3, q4⟩
      clear hcase hA2 hB2 f1
      refine RR_team_0 h (fun k' hk' => f6 k' (by omega) (by omega) (by omega) (by omega)) g6 (fun j hj => g1 j (by omega) (by omega) (by omega)) (g1 _ (by omega) (by decide) (by decide)) ?_ (fun p hp => ?_) ⟨?_, fun hg j hj => ?_⟩ ?_ ?_ (fun j hj => ?_) (fun _ => ⟨⟨?_, ?_⟩, ⟨?_, ?_⟩, ?_⟩) (by rw [f5]; rfl)
      · obtain ⟨⟨z1, z2, z3⟩, z4, z5, z6⟩ := hEN
        refine ⟨⟨?_, ?_, ?_⟩, ?_, ?_, ?_⟩
        · rw [f5, g1 _ (by omega) (by decide) (by decide)]; exact z1
        · rw [f5, g1 _ (by omega) (by decide) (by decide)]; exact z2
        · rw [f5, g4]; rfl
        · rw [f5, g1 _ (by omega) (by decide) (by decide)]; exact z4
        · rw [f5, g1 _ (by omega) (by decide) (by decide)]; exact z5
        · rw [f5, g1 _ (by omega) (by decide) (by decide)]; exact z6
      · have w := hEA p hp
        refine ⟨?_, ?_, ?_⟩
        · rw [f2, g2 p hp, w.1]
        · rw [f6 13 (by decide) (by decide) (by decide) (by decide), g1 _ (by omega) (by omega) (by omega)]; exact w.2.1
        · rw [f2, f3, g3 p hp]
          intro h3
          by_cases e : p = r
          · rw [if_pos e] at h3
            rw [if_pos e]
            rcases huv with ⟨q1, q2, -, -⟩ | ⟨q1, q2, -, -⟩
            · rw [if_pos ⟨e, q1⟩]
            · rw [q2] at h3; exact absurd h3 (by decide)
          · rw [if_neg e] at h3 ⊢
            rw [if_neg (fun q => e q.1)]
            by_cases e2 : p = a
            · rw [if_pos e2] at h3
              rcases huv with ⟨q1, q2, -, -⟩ | ⟨q1, q2, -, -⟩
              · rw [q1] at h3; exact absurd h3 (by decide)
              · rw [q1] at h3; exact absurd h3 (by decide)
            · rw [if_neg e2] at h3 ⊢
              exact w.2.2 h3
      · rw [g1 _ (by omega) (by decide) (by decide), hEP.1, f5, if_neg (show ¬ (5 : Nat) = 9 by decide)]
        by_cases e : A.1 9 5 = -1
        · rw [if_pos e, if_pos e]
        · rw [if_neg e, if_neg e, f4, if_neg]
          intro q
          rcases hF5 with q2 | q2 | q2
          · exact e q2
          · rw [q2] at q hkf; exact hkf (by rw [← q]; rfl)
          · rw [q2] at q hkf; exact hkf (by rw [← q]; rfl)
      · have hg0 : ¬ A.1 19 0 = -1 := by rw [← f6 19 (by decide) (by decide) (by decide) (by decide)]; exact hg
        have w := hEP.2 hg0 j hj
        rw [g5 j hj, f5, f5, f4, w, if_neg (show ¬ (5 : Nat) = 9 by decide), if_neg (show ¬ (4 : Nat) = 9 by decide)]
        by_cases e : j = k
        · rw [if_pos e, if_pos e, if_neg (by rw [e]; exact hkf)]
        · rw [if_neg e, if_neg e]
      · rw [f5, if_neg (show ¬ (6 : Nat) = 9 by decide)]
        first | exact h.2.1.2.1.1.1.2.1 | exact h.2.1.2.1.1.1.2.2
      · rw [f5, if_neg (show ¬ (5 : Nat) = 9 by decide)]
        exact hF5
      · rw [f4]
        split
        · exact hy
        · exact hO j hj
      · intro i hi j hj
        rw [f4, f4]
        by_cases e1 : i = k
        · by_cases e2 : j = k
          · intro _; rw [e1, e2]
          · rw [if_pos e1, if_neg e2]
            exact fun q => absurd q.symm (p5 j hj)
        · by_cases e2 : j = k
          · rw [if_neg e1, if_pos e2]
            exact fun q => absurd q (p5 i hi)
          · rw [if_neg e1, if_neg e2]
            exact hT.1.1 i hi j hj
      · intro j hj
        rw [f4, f5, if_neg (show ¬ (4 : Nat) = 9 by decide)]
        split
        · exact p4
        · exact hT.1.2 j hj
      · rw [f5, if_neg (show ¬ (4 : Nat) = 9 by decide), f6 3 (by decide) (by decide) (by decide) (by decide)]
        exact hT.2.1.1
      · rw [f5, f5, if_neg (show ¬ (4 : Nat) = 9 by decide), if_neg (show ¬ (5 : Nat) = 9 by decide)]
        exact hT.2.1.2
      · have hi := hT.2.2
        intro p hp
        rw [f2, f3]
        intro h3
        by_cases e : p = r
        · rw [if_pos e] at h3
          rcases huv with ⟨q1, q2, q3, q4⟩ | ⟨q1, q2, -, -⟩
          · refine ⟨a, ha, by rw [if_pos ⟨e, q1⟩], ?_, fun p' hp' => ?_⟩
            · rw [f2, if_neg har, if_pos rfl, q1]
            · rw [f2, f3]
              intro h4 h5
              by_cases e3 : p' = r
              · rw [e3, e]
              · rw [if_neg (fun q => e3 q.1)] at h5
                rw [if_neg e3] at h4
                by_cases e4 : p' = a
                · rw [if_pos e4, q1] at h4; exact absurd h4 (by decide)
                · rw [if_neg e4] at h4
                  obtain ⟨q, hq, m1, m2, -⟩ := hi p' hp' h4
                  rw [m1, nI_k (by omega) (by omega)] at h5
                  rw [h5, q3] at m2
                  exact absurd m2 (by decide)
          · rw [q2] at h3; exact absurd h3 (by decide)
        · rw [if_neg e] at h3
          by_cases e2 : p = a
          · rw [if_pos e2] at h3
            rcases huv with ⟨q1, -, -, -⟩ | ⟨q1, -, -, -⟩ <;> rw [q1] at h3 <;> exact absurd h3 (by decide)
          · rw [if_neg e2] at h3
            obtain ⟨q, hq, m1, m2, m3⟩ := hi p hp h3
            have hqa : ¬ q = a := fun w => by
              rw [w] at m2
              rcases huv with ⟨-, -, q3, -⟩ | ⟨-, -, q3, -⟩ <;> rw [m2] at q3 <;> exact absurd q3 (by decide)
            have hqr : ¬ q = r := fun w => by
              rcases huv with ⟨-, -, -, q4⟩ | ⟨-, -, q3, q4⟩
              · rw [w, q4] at m2; exact absurd m2 (by decide)
              · exact e2 (m3 a ha q3 (by rw [q4, w])).symm
            refine ⟨q, hq, by rw [if_neg (fun w => e w.1)]; exact m1, ?_, fun p' hp' => ?_⟩
            · rw [f2, if_neg hqr, if_neg hqa]; exact m2
            · rw [f2, f3]
              intro h4 h5
              by_cases e3 : p' = r
              · rw [if_pos e3] at h4
                rcases huv with ⟨q1, q2, -, -⟩ | ⟨q1, q2, -, -⟩
                · rw [if_pos ⟨e3, q1⟩, nI_k (by omega) (by omega)] at h5
                  exact absurd h5.symm hqa
                · rw [q2] at h4; exact absurd h4 (by decide)
              · rw [if_neg e3] at h4
                rw [if_neg (fun w => e3 w.1)] at h5
                by_cases e4 : p' = a
                · rw [if_pos e4] at h4
                  rcases huv with ⟨q1, -, -, -⟩ | ⟨q1, -, -, -⟩ <;> rw [q1] at h4 <;> exact absurd h4 (by decide)
                · rw [if_neg e4] at h4
                  exact m3 p' hp' h4 h5
    have n3 : (mI (mI (if B.1 52 (a + 20) = 3 then mI (mI (mI B 52 (k + 14) (nI r)) 52 (a + 20) 4) 52 (r + 20) 4 else mI (mI (mI B 52 (k + 14) (nI r)) 52 (a + 20) 2) 52 (r + 20) 3) 52 (a + 32) (nI r)) 52 (r + 32) (nI a)).1 52 8 = B.1 52 8 := by
      rw [mI_nj _ _ _ (by omega), mI_nj _ _ _ (by omega)]
      split <;> rw [mI_nj _ _ _ (by omega), mI_nj _ _ _ (by omega), mI_nj _ _ _ (by omega)]
    unfold exM mdc_0 exN
    dsimp only
    rw [hpx, w1, nI_clamp (by omega), nI_clamp (by omega), nI_clamp (by omega), n3, hEN.1.2.2]
    rcases hst with ⟨s1, s2⟩ | ⟨s1, s2⟩
    · rw [if_pos s1, if_neg (by rw [← ea.1, s1]; decide)]
      exact key 2 3 _ (Or.inl ⟨rfl, rfl, s1, s2, rfl⟩)
    · rw [if_neg (by rw [s1]; decide), if_pos (by rw [← ea.1]; exact s1)]
      exact key 4 4 _ (Or.inr ⟨rfl, rfl, s1, s2, rfl⟩)
  · rw [if_neg hm, if_neg hm, if_neg hm, if_neg hm]
    exact ⟨rfl, h⟩
theorem may_R_1 {n : Nat} {A B : mx_Mem} (hn : n ≤ 1000) (h : RR n A B) (x y : Int32) : mayC A 14 x y = mmC_1 B x y := by
  have q1 := on_R h
  unfold mayC mmC_1
  by_cases hoff : A.1 19 1 = 0
  · rw [if_pos hoff, if_pos (q1.mp hoff)]
  · have ho : A.1 19 1 = 1 := (isB_ne h.2.1.2.1.1.1.1).mp hoff
    rw [if_neg hoff, if_neg (fun q => hoff (q1.mpr q))]
    by_cases h2 : ¬ isP x ∨ ¬ isP y ∨ x = y
    · rw [if_pos h2, if_pos h2]
    · rw [if_neg h2, if_neg h2]
      have hx : isP x := Classical.not_not.mp fun q => h2 (Or.inl q)
      have hy : isP y := Classical.not_not.mp fun q => h2 (Or.inr (Or.inl q))
      have hT : IT_1 A := by first | exact (h.2.2 ho).1.1 | exact (h.2.2 ho).1.2
      have hEN : EN_1 A B := by first | exact h.1.2.1.1 | exact h.1.2.2.1
      have hEA : EA_1 A B := by first | exact h.1.2.1.2.1 | exact h.1.2.2.2.1
      have q3 : A.1 6 2 = B.1 48 1 := by first | exact h.1.1.1.2.1.1.1 | exact h.1.1.1.2.1.1.2
      have q5 : A.1 14 4 = B.1 48 1 := hT.2.1.1.trans q3
      have hO : ∀ k, k < 6 → isP (A.1 15 k) := fun k hk => by first | exact (h.2.1.2.1.2.2.1 k hk).1 | exact (h.2.1.2.1.2.2.1 k hk).2
      have hpl := plE_1 h hn ho
      have c3 : (¬ (¬ plc (A.1 15) x = -1 ∧ ¬ plc (A.1 15) x = A.1 14 5)) ↔ (plc (mpl_1 B) x = -1 ∨ x = B.1 48 1) := by
        rw [← q5]
        by_cases hz : x = A.1 14 4
        · have : plc (A.1 15) x = -1 := plc_none (fun j hj => by rw [hz]; exact hT.1.2 j hj)
          grind
        · rw [plO_1 h hn ho x hz]
          grind
      have c4 : (¬ (plc (A.1 15) y = -1 ∧ ¬ y = A.1 14 4)) ↔ (¬ plc (mpl_1 B) y = -1 ∨ y = B.1 48 1 ∨ B.1 52 60 = y) := by
        rw [← q5]
        by_cases hz : y = A.1 14 4
        · grind
        · rw [plO_1 h hn ho y hz]
          rcases hpl with ⟨e1, e2, e3⟩ | ⟨f, hf, e1, e4, e5, e6, e7, e8⟩
          · rw [e1, e2]
            have := isP_m1 hy
            grind
          · rw [e1, e6]
            have hm := nI_m1 (k := f) (by omega)
            rcases plc_c (f := A.1 15) y with ⟨w1, w2⟩ | ⟨k, hk, w1, w2⟩
            · have := w2 f hf
              grind
            · have hm2 := nI_m1 (k := k) (by omega)
              by_cases hkf : k = f
              · subst hkf
                grind
              · have : ¬ nI k = nI f := fun q => hkf ((nI_k (by omega) (by omega)).mp q)
                grind
      have c5 : (A.1 2 4 ≤ A.1 14 9) ↔ (B.1 49 4 ≤ B.1 52 58) := by
        rw [h.1.1.1.1.1 4 (by decide), hEN.1.2.2]
      by_cases g3 : plc (mpl_1 B) x = -1 ∨ x = B.1 48 1
      · rw [if_pos (c3.mpr g3), if_pos g3]
      · rw [if_neg (fun q => g3 (c3.mp q)), if_neg g3]
        by_cases g4 : ¬ plc (mpl_1 B) y = -1 ∨ y = B.1 48 1 ∨ B.1 52 60 = y
        · rw [if_pos (c4.mpr g4), if_pos g4]
        · rw [if_neg (fun q => g4 (c4.mp q)), if_neg g4]
          by_cases g5 : B.1 49 4 ≤ B.1 52 58
          · rw [if_pos (c5.mpr g5), if_pos g5]
          · rw [if_neg (fun q => g5 (c5.mp q)), if_neg g5]
            obtain ⟨p, hp, rfl⟩ := isP_n hx
            obtain ⟨r, hr, rfl⟩ := isP_n hy
            have w1 := hEA p hp
            have w2 := hEA r hr
            have w3 := hT.2.2 p hp
            have ear := arP_iff A 14 hp hr
            rw [nI_clamp (by omega), nI_clamp (by omega), ← w1.1, ← w2.1]
            by_cases s1 : A.1 16 p = 1 ∧ A.1 16 r = 0
            · rw [if_pos (ear.mpr (Or.inl s1)), if_pos s1]
            · rw [if_neg s1]
              by_cases s2 : A.1 16 p = 3 ∧ A.1 17 p = nI r
              · obtain ⟨q, hq, m2, m3, -⟩ := w3 s2.1
                have m4 : q = r := (nI_k (by omega) (by omega)).mp (m2.symm.trans s2.2)
                rw [if_pos (ear.mpr (Or.inr s2)), if_pos ⟨s2.1, by rw [← m4]; exact m3, by rw [← w1.2.2 s2.1]; exact s2.2⟩]
              · rw [if_neg (fun q => (ear.mp q).elim s1 s2), if_neg (fun q => s2 ⟨q.1, by rw [w1.2.2 q.1]; exact q.2.2⟩)]
theorem may_0_1 {n : Nat} {A B : mx_Mem} (hn : n ≤ 1000) (h : RR n A B) {x y : Int32} (hm : mayC A 14 x y = 0) : A.1 19 1 = 1 ∧ (isP x ∧ isP y ∧ ¬ x = y) ∧ (¬ plc (A.1 15) x = -1 ∧ ¬ plc (A.1 15) x = A.1 14 5) ∧ (plc (A.1 15) y = -1 ∧ ¬ y = A.1 14 4) ∧ ((A.1 16 x.toNatClampNeg = 1 ∧ A.1 16 y.toNatClampNeg = 0) ∨ (A.1 16 x.toNatClampNeg = 3 ∧ A.1 17 x.toNatClampNeg = y)) := by
  have hb := h.2.1.2.1.1.1.1
  unfold mayC arP at hm
  have : ¬ A.1 19 1 = 0 := fun q => by rw [if_pos q] at hm; exact absurd hm (by decide)
  refine ⟨(isB_ne hb).mp this, ?_⟩
  clear h hb hn
  grind (splits := 30)
theorem chg_R_1 {n : Nat} {A B : mx_Mem} (hn : n ≤ 1000) (h : RR n A B) (x y : Int32) : chR A 14 x y = (if mmC_1 B x y = 0 then plc (mpl_1 B) x else -1) ∧ RR n (chM A 14 x y) (if mmC_1 B x y = 0 then mdc_1 B x y else B) := by
  have hmm := may_R_1 hn h x y
  unfold chR chM
  rw [← hmm]
  by_cases hm : mayC A 14 x y = 0
  · rw [if_pos hm, if_pos hm, if_pos hm, if_pos hm]
    obtain ⟨ho, ⟨hx, hy, hxy⟩, ⟨p1, p2⟩, ⟨p3, p4⟩, hst⟩ := may_0_1 hn h hm
    have hT : IT_1 A := by first | exact (h.2.2 ho).1.1 | exact (h.2.2 ho).1.2
    have hEN : EN_1 A B := by first | exact h.1.2.1.1 | exact h.1.2.2.1
    have hEA : EA_1 A B := by first | exact h.1.2.1.2.1 | exact h.1.2.2.2.1
    have hEP : EP_1 A B := by first | exact h.1.2.1.2.2 | exact h.1.2.2.2.2
    have hO : ∀ k, k < 6 → isP (A.1 15 k) := fun k hk => by first | exact (h.2.1.2.1.2.2.1 k hk).1 | exact (h.2.1.2.1.2.2.1 k hk).2
    have hF5 : isF (A.1 14 5) := by first | exact h.2.1.2.1.1.2.2.1 | exact h.2.1.2.1.1.2.2.2
    have hz : ¬ x = A.1 14 4 := by
      rintro rfl
      exact p1 (plc_none (fun j hj => hT.1.2 j hj))
    have hpx : plc (mpl_1 B) x = plc (A.1 15) x := by rw [plO_1 h hn ho x hz, if_neg p2]
    refine ⟨hpx.symm, ?_⟩
    rcases plc_c (f := A.1 15) x with ⟨w1, -⟩ | ⟨k, hk, w1, w2⟩
    · exact absurd w1 p1
    have hkf : ¬ A.1 14 5 = nI k := fun q => p2 (by rw [w1, q])
    have p5 := plc_no p3
    obtain ⟨a, ha, rfl⟩ := isP_n hx
    obtain ⟨r, hr, rfl⟩ := isP_n hy
    have har : ¬ a = r := fun q => hxy (by rw [q])
    rw [nI_clamp (by omega), nI_clamp (by omega)] at hst
    have ea := hEA a ha
    -- standing and mates behind the change
    have key : ∀ (u v : Int32) (A1 : mx_Mem), (u = 2 ∧ v = 3 ∧ A.1 16 a = 1 ∧ A.1 16 r = 0 ∧ A1 = mI (mI (mI A 16 a 2) 16 r 3) 17 r (nI a)) ∨ (u = 4 ∧ v = 4 ∧ A.1 16 a = 3 ∧ A.1 17 a = nI r ∧ A1 = mI (mI A 16 a 4) 16 r 4) → RR n (mI (mI A1 15 k (nI r)) 14 9 (B.1 52 58 + 1)) (mI (mI (mI (mI (mI (mI B 52 (k + 64) (nI r)) 52 (a + 70) u) 52 (r + 70) v) 52 (a + 82) (nI r)) 52 (r + 82) (nI a)) 52 58 (B.1 52 58 + 1)) := by
      intro u v A1 hcase
      generalize hA2 : mI (mI A1 15 k (nI r)) 14 9 (B.1 52 58 + 1) = A2
      generalize hB2 : mI (mI (mI (mI (mI (mI B 52 (k + 64) (nI r)) 52 (a + 70) u) 52 (r + 70) v) 52 (a + 82) (nI r)) 52 (r + 82) (nI a)) 52 58 (B.1 52 58 + 1) = B2
      have f1 : ∀ k', k' ≠ 16 → k' ≠ 17 → A1.1 k' = A.1 k' := fun k' n1 n2 => funext fun j => by
        rcases hcase with ⟨-, -, -, -, rfl⟩ | ⟨-, -, -, -, rfl⟩
        · rw [mI_ne _ _ _ _ n2, mI_ne _ _ _ _ n1, mI_ne _ _ _ _ n1]
        · rw [mI_ne _ _ _ _ n1, mI_ne _ _ _ _ n1]
      have f2 : ∀ p, A2.1 16 p = if p = r then v else if p = a then u else A.1 16 p := fun p => by
        rw [← hA2, mI_ne _ _ _ _ (by decide), mI_ne _ _ _ _ (by decide)]
        rcases hcase with ⟨rfl, rfl, -, -, rfl⟩ | ⟨rfl, rfl, -, -, rfl⟩
        · rw [mI_ne _ _ _ _ (by decide), mI_ap, mI_ap]; simp
        · rw [mI_ap, mI_ap]; simp
      have f3 : ∀ p, A2.1 17 p = if p = r ∧ u = 2 then nI a else A.1 17 p := fun p => by
        rw [← hA2, mI_ne _ _ _ _ (by decide), mI_ne _ _ _ _ (by decide)]
        rcases hcase with ⟨rfl, rfl, -, -, rfl⟩ | ⟨rfl, rfl, -, -, rfl⟩
        · rw [mI_ap, mI_ne _ _ _ _ (by decide), mI_ne _ _ _ _ (by decide)]; simp
        · rw [mI_ne _ _ _ _ (by decide), mI_ne _ _ _ _ (by decide)]; simp
      have f4 : ∀ j, A2.1 15 j = if j = k then nI r else A.1 15 j := fun j => by
        rw [← hA2, mI_ne _ _ _ _ (by decide), mI_ap, f1 _ (by decide) (by decide)]; simp
      have f5 : ∀ j, A2.1 14 j = if j = 9 then B.1 52 58 + 1 else A.1 14 j := fun j => by
        rw [← hA2, mI_ap, mI_ne _ _ _ _ (by decide), f1 _ (by decide) (by decide)]; simp
      have f6 : ∀ k', k' ≠ 14 → k' ≠ 15 → k' ≠ 16 → k' ≠ 17 → A2.1 k' = A.1 k' := fun k' n0 n1 n2 n3 => by
        rw [← f1 k' n2 n3, ← hA2]
        exact funext fun j => by rw [mI_ne _ _ _ _ n0, mI_ne _ _ _ _ n1]
      have g1 : ∀ j, j ≠ k + 64 → j ≠ 58 → (j < 70 ∨ 94 ≤ j) → B2.1 52 j = B.1 52 j := fun j n1 n2 n3 => by
        rw [← hB2, mI_nj _ _ _ n2, mI_nj _ _ _ (by omega), mI_nj _ _ _ (by omega), mI_nj _ _ _ (by omega), mI_nj _ _ _ (by omega), mI_nj _ _ _ n1]
      have g2 : ∀ p, p < 12 → B2.1 52 (p + 70) = if p = r then v else if p = a then u else B.1 52 (p + 70) := fun p hp => by
        rw [← hB2, mI_nj _ _ _ (by omega), mI_nj _ _ _ (by omega), mI_nj _ _ _ (by omega), mI_ap, mI_ap, mI_nj _ _ _ (by omega)]; simp
      have g3 : ∀ p, p < 12 → B2.1 52 (p + 82) = if p = r then nI a else if p = a then nI r else B.1 52 (p + 82) := fun p hp => by
        rw [← hB2, mI_nj _ _ _ (by omega), mI_ap, mI_ap, mI_nj _ _ _ (by omega), mI_nj _ _ _ (by omega), mI_nj _ _ _ (by omega)]; simp
      have g4 : B2.1 52 58 = B.1 52 58 + 1 := by rw [← hB2, mI_self]
      have g5 : ∀ j, j < 6 → B2.1 52 (64 + j) = if j = k then nI r else B.1 52 (64 + j) := fun j hj => by
        rw [← hB2, mI_nj _ _ _ (by omega), mI_nj _ _ _ (by omega), mI_nj _ _ _ (by omega), mI_nj _ _ _ (by omega), mI_nj _ _ _ (by omega), mI_ap]
        by_cases e : j = k
        · rw [if_pos e, if_pos ⟨rfl, by omega⟩]
        · rw [if_neg e, if_neg (by omega)]
      have g6 : ∀ k', k' ≠ 52 → B2.1 k' = B.1 k' := fun k' n1 => by
        rw [← hB2]
        exact funext fun j => by rw [mI_ne _ _ _ _ n1, mI_ne _ _ _ _ n1, mI_ne _ _ _ _ n1, mI_ne _ _ _ _ n1, mI_ne _ _ _ _ n1, mI_ne _ _ _ _ n1]
      have huv : (u = 2 ∧ v = 3 ∧ A.1 16 a = 1 ∧ A.1 16 r = 0) ∨ (u = 4 ∧ v = 4 ∧ A.1 16 a = 3 ∧ A.1 17 a = nI r) := by
        rcases hcase with ⟨q1, q2, q3, q4, -⟩ | ⟨q1, q2, q3, q4, -⟩
        · exact Or.inl ⟨q1, q2, q3, q4⟩
        · exact Or.inr ⟨q1, q2, q3, q4⟩
      clear hcase hA2 hB2 f1
      refine RR_team_1 h (fun k' hk' => f6 k' (by omega) (by omega) (by omega) (by omega)) g6 (fun j hj => g1 j (by omega) (by omega) (by omega)) (g1 _ (by omega) (by decide) (by decide)) ?_ (fun p hp => ?_) ⟨?_, fun hg j hj => ?_⟩ ?_ ?_ (fun j hj => ?_) (fun _ => ⟨⟨?_, ?_⟩, ⟨?_, ?_⟩, ?_⟩) (by rw [f5]; rfl)
      · obtain ⟨⟨z1, z2, z3⟩, z4, z5, z6⟩ := hEN
        refine ⟨⟨?_, ?_, ?_⟩, ?_, ?_, ?_⟩
        · rw [f5, g1 _ (by omega) (by decide) (by decide)]; exact z1
        · rw [f5, g1 _ (by omega) (by decide) (by decide)]; exact z2
        · rw [f5, g4]; rfl
        · rw [f5, g1 _ (by omega) (by decide) (by decide)]; exact z4
        · rw [f5, g1 _ (by omega) (by decide) (by decide)]; exact z5
        · rw [f5, g1 _ (by omega) (by decide) (by decide)]; exact z6
      · have w := hEA p hp
        refine ⟨?_, ?_, ?_⟩
        · rw [f2, g2 p hp, w.1]
        · rw [f6 18 (by decide) (by decide) (by decide) (by decide), g1 _ (by omega) (by omega) (by omega)]; exact w.2.1
        · rw [f2, f3, g3 p hp]
          intro h3
          by_cases e : p = r
          · rw [if_pos e] at h3
            rw [if_pos e]
            rcases huv with ⟨q1, q2, -, -⟩ | ⟨q1, q2, -, -⟩
            · rw [if_pos ⟨e, q1⟩]
            · rw [q2] at h3; exact absurd h3 (by decide)
          · rw [if_neg e] at h3 ⊢
            rw [if_neg (fun q => e q.1)]
            by_cases e2 : p = a
            · rw [if_pos e2] at h3
              rcases huv with ⟨q1, q2, -, -⟩ | ⟨q1, q2, -, -⟩
              · rw [q1] at h3; exact absurd h3 (by decide)
              · rw [q1] at h3; exact absurd h3 (by decide)
            · rw [if_neg e2] at h3 ⊢
              exact w.2.2 h3
      · rw [g1 _ (by omega) (by decide) (by decide), hEP.1, f5, if_neg (show ¬ (5 : Nat) = 9 by decide)]
        by_cases e : A.1 14 5 = -1
        · rw [if_pos e, if_pos e]
        · rw [if_neg e, if_neg e, f4, if_neg]
          intro q
          rcases hF5 with q2 | q2 | q2
          · exact e q2
          · rw [q2] at q hkf; exact hkf (by rw [← q]; rfl)
          · rw [q2] at q hkf; exact hkf (by rw [← q]; rfl)
      · have hg0 : ¬ A.1 19 0 = -1 := by rw [← f6 19 (by decide) (by decide) (by decide) (by decide)]; exact hg
        have w := hEP.2 hg0 j hj
        rw [g5 j hj, f5, f5, f4, w, if_neg (show ¬ (5 : Nat) = 9 by decide), if_neg (show ¬ (4 : Nat) = 9 by decide)]
        by_cases e : j = k
        · rw [if_pos e, if_pos e, if_neg (by rw [e]; exact hkf)]
        · rw [if_neg e, if_neg e]
      · rw [f5, if_neg (show ¬ (6 : Nat) = 9 by decide)]
        first | exact h.2.1.2.1.1.1.2.1 | exact h.2.1.2.1.1.1.2.2
      · rw [f5, if_neg (show ¬ (5 : Nat) = 9 by decide)]
        exact hF5
      · rw [f4]
        split
        · exact hy
        · exact hO j hj
      · intro i hi j hj
        rw [f4, f4]
        by_cases e1 : i = k
        · by_cases e2 : j = k
          · intro _; rw [e1, e2]
          · rw [if_pos e1, if_neg e2]
            exact fun q => absurd q.symm (p5 j hj)
        · by_cases e2 : j = k
          · rw [if_neg e1, if_pos e2]
            exact fun q => absurd q (p5 i hi)
          · rw [if_neg e1, if_neg e2]
            exact hT.1.1 i hi j hj
      · intro j hj
        rw [f4, f5, if_neg (show ¬ (4 : Nat) = 9 by decide)]
        split
        · exact p4
        · exact hT.1.2 j hj
      · rw [f5, if_neg (show ¬ (4 : Nat) = 9 by decide), f6 6 (by decide) (by decide) (by decide) (by decide)]
        exact hT.2.1.1
      · rw [f5, f5, if_neg (show ¬ (4 : Nat) = 9 by decide), if_neg (show ¬ (5 : Nat) = 9 by decide)]
        exact hT.2.1.2
      · have hi := hT.2.2
        intro p hp
        rw [f2, f3]
        intro h3
        by_cases e : p = r
        · rw [if_pos e] at h3
          rcases huv with ⟨q1, q2, q3, q4⟩ | ⟨q1, q2, -, -⟩
          · refine ⟨a, ha, by rw [if_pos ⟨e, q1⟩], ?_, fun p' hp' => ?_⟩
            · rw [f2, if_neg har, if_pos rfl, q1]
            · rw [f2, f3]
              intro h4 h5
              by_cases e3 : p' = r
              · rw [e3, e]
              · rw [if_neg (fun q => e3 q.1)] at h5
                rw [if_neg e3] at h4
                by_cases e4 : p' = a
                · rw [if_pos e4, q1] at h4; exact absurd h4 (by decide)
                · rw [if_neg e4] at h4
                  obtain ⟨q, hq, m1, m2, -⟩ := hi p' hp' h4
                  rw [m1, nI_k (by omega) (by omega)] at h5
                  rw [h5, q3] at m2
                  exact absurd m2 (by decide)
          · rw [q2] at h3; exact absurd h3 (by decide)
        · rw [if_neg e] at h3
          by_cases e2 : p = a
          · rw [if_pos e2] at h3
            rcases huv with ⟨q1, -, -, -⟩ | ⟨q1, -, -, -⟩ <;> rw [q1] at h3 <;> exact absurd h3 (by decide)
          · rw [if_neg e2] at h3
            obtain ⟨q, hq, m1, m2, m3⟩ := hi p hp h3
            have hqa : ¬ q = a := fun w => by
              rw [w] at m2
              rcases huv with ⟨-, -, q3, -⟩ | ⟨-, -, q3, -⟩ <;> rw [m2] at q3 <;> exact absurd q3 (by decide)
            have hqr : ¬ q = r := fun w => by
              rcases huv with ⟨-, -, -, q4⟩ | ⟨-, -, q3, q4⟩
              · rw [w, q4] at m2; exact absurd m2 (by decide)
              · exact e2 (m3 a ha q3 (by rw [q4, w])).symm
            refine ⟨q, hq, by rw [if_neg (fun w => e w.1)]; exact m1, ?_, fun p' hp' => ?_⟩
            · rw [f2, if_neg hqr, if_neg hqa]; exact m2
            · rw [f2, f3]
              intro h4 h5
              by_cases e3 : p' = r
              · rw [if_pos e3] at h4
                rcases huv with ⟨q1, q2, -, -⟩ | ⟨q1, q2, -, -⟩
                · rw [if_pos ⟨e3, q1⟩, nI_k (by omega) (by omega)] at h5
                  exact absurd h5.symm hqa
                · rw [q2] at h4; exact absurd h4 (by decide)
              · rw [if_neg e3] at h4
                rw [if_neg (fun w => e3 w.1)] at h5
                by_cases e4 : p' = a
                · rw [if_pos e4] at h4
                  rcases huv with ⟨q1, -, -, -⟩ | ⟨q1, -, -, -⟩ <;> rw [q1] at h4 <;> exact absurd h4 (by decide)
                · rw [if_neg e4] at h4
                  exact m3 p' hp' h4 h5
    have n3 : (mI (mI (if B.1 52 (a + 70) = 3 then mI (mI (mI B 52 (k + 64) (nI r)) 52 (a + 70) 4) 52 (r + 70) 4 else mI (mI (mI B 52 (k + 64) (nI r)) 52 (a + 70) 2) 52 (r + 70) 3) 52 (a + 82) (nI r)) 52 (r + 82) (nI a)).1 52 58 = B.1 52 58 := by
      rw [mI_nj _ _ _ (by omega), mI_nj _ _ _ (by omega)]
      split <;> rw [mI_nj _ _ _ (by omega), mI_nj _ _ _ (by omega), mI_nj _ _ _ (by omega)]
    unfold exM mdc_1 exN
    dsimp only
    rw [hpx, w1, nI_clamp (by omega), nI_clamp (by omega), nI_clamp (by omega), n3, hEN.1.2.2]
    rcases hst with ⟨s1, s2⟩ | ⟨s1, s2⟩
    · rw [if_pos s1, if_neg (by rw [← ea.1, s1]; decide)]
      exact key 2 3 _ (Or.inl ⟨rfl, rfl, s1, s2, rfl⟩)
    · rw [if_neg (by rw [s1]; decide), if_pos (by rw [← ea.1]; exact s1)]
      exact key 4 4 _ (Or.inr ⟨rfl, rfl, s1, s2, rfl⟩)
  · rw [if_neg hm, if_neg hm, if_neg hm, if_neg hm]
    exact ⟨rfl, h⟩

/-! the coupling: items -/
theorem m1_iff (x : Int32) : x = -1 ↔ (if x = -1 then (0 : Int32) else 1) = 0 := by
  by_cases h : x = -1
  · rw [if_pos h]; exact ⟨fun _ => rfl, fun _ => h⟩
  · rw [if_neg h]; exact ⟨fun q => absurd q h, fun q => absurd q (by decide)⟩
theorem ptR_m1_0 (N : mx_Mem) (g : Int32) : ¬ ptR_0 N g = -1 := by
  unfold ptR_0
  repeat' split
  all_goals decide
theorem it_R_0 {n : Nat} {A B : mx_Mem} (hn : n ≤ 1000) (h : RR n A B) {k k' : Int32} (hk : sgR k k') (q : Int32) : (itR_0 A k q = -1 ↔ mitR_0 B k' q = 0) ∧ RR n (itM_0 A k q) (mitM_0 B k' q) := by
  have e33 := sg_c 33 hk (by decide) (by decide)
  have e45 := sg_c 45 hk (by decide) (by decide)
  have e42 := sg_c 42 hk (by decide) (by decide)
  have ep := sg_plo hk
  obtain ⟨p1, p2⟩ := pause_R_0 h
  obtain ⟨f1, f2⟩ := free_R_0 hn h (-1)
  obtain ⟨g1, g2⟩ := free_R_0 hn h q
  obtain ⟨c1, c2⟩ := chg_R_0 hn h (plo k) q
  have hoff := on_R h
  unfold itR_0 itM_0 mitR_0 mitM_0
  by_cases hon : B.1 52 1 = 1
  · have hnn : ¬ ¬ B.1 52 1 = 1 := fun w => w hon
    rw [if_neg hnn, if_neg hnn]
    by_cases b1 : k = 33
    · rw [if_pos b1, if_pos b1, if_pos (e33.mp b1), if_pos (e33.mp b1), p1]
      exact ⟨m1_iff _, p2⟩
    · have b1' := fun w => b1 (e33.mpr w)
      rw [if_neg b1, if_neg b1, if_neg b1', if_neg b1']
      by_cases b2 : k = 45
      · rw [if_pos b2, if_pos b2, if_pos (e45.mp b2), if_pos (e45.mp b2), f1]
        exact ⟨m1_iff _, f2⟩
      · have b2' := fun w => b2 (e45.mpr w)
        rw [if_neg b2, if_neg b2, if_neg b2', if_neg b2']
        by_cases b3 : k = 42
        · rw [if_pos b3, if_pos b3, if_pos (e42.mp b3), if_pos (e42.mp b3), g1]
          exact ⟨m1_iff _, g2⟩
        · have b3' := fun w => b3 (e42.mpr w)
          rw [if_neg b3, if_neg b3, if_neg b3', if_neg b3', ← ep, c1]
          refine ⟨?_, c2⟩
          by_cases m : mmC_0 B (plo k) q = 0
          · rw [if_pos m, if_pos m]
            exact ⟨fun w => absurd w (mmC_0_0 m).2.2, fun w => absurd w (by decide)⟩
          · rw [if_neg m, if_neg m]
            exact ⟨fun _ => rfl, fun _ => rfl⟩
  · have ho := hoff.mpr hon
    rw [if_pos hon, if_pos hon]
    have z1 : paR A 9 = -1 ∧ paM A 9 = A := by
      unfold paR paM
      rw [if_pos (Or.inl ho), if_pos (Or.inl ho)]
      exact ⟨rfl, rfl⟩
    have z2 : ∀ x, frR_0 A x = -1 ∧ frM_0 A x = A := fun x => by
      unfold frR_0 frM_0
      rw [if_pos (Or.inl ho), if_pos (Or.inl ho)]
      exact ⟨rfl, rfl⟩
    have z3 : ∀ x, chR A 9 x q = -1 ∧ chM A 9 x q = A := fun x => by
      have : ¬ mayC A 9 x q = 0 := by
        unfold mayC
        rw [if_pos ho]
        decide
      unfold chR chM
      rw [if_neg this, if_neg this]
      exact ⟨rfl, rfl⟩
    rw [z1.1, z1.2, (z2 _).1, (z2 _).2, (z2 _).1, (z2 _).2, (z3 _).1, (z3 _).2]
    simp only [ite_self]
    exact ⟨by first | trivial | exact ⟨fun _ => rfl, fun _ => rfl⟩, h⟩
theorem ptR_m1_1 (N : mx_Mem) (g : Int32) : ¬ ptR_1 N g = -1 := by
  unfold ptR_1
  repeat' split
  all_goals decide
theorem it_R_1 {n : Nat} {A B : mx_Mem} (hn : n ≤ 1000) (h : RR n A B) {k k' : Int32} (hk : sgR k k') (q : Int32) : (itR_1 A k q = -1 ↔ mitR_1 B k' q = 0) ∧ RR n (itM_1 A k q) (mitM_1 B k' q) := by
  have e33 := sg_c 33 hk (by decide) (by decide)
  have e45 := sg_c 45 hk (by decide) (by decide)
  have e42 := sg_c 42 hk (by decide) (by decide)
  have ep := sg_plo hk
  obtain ⟨p1, p2⟩ := pause_R_1 h
  obtain ⟨f1, f2⟩ := free_R_1 hn h (-1)
  obtain ⟨g1, g2⟩ := free_R_1 hn h q
  obtain ⟨c1, c2⟩ := chg_R_1 hn h (plo k) q
  have hoff := on_R h
  unfold itR_1 itM_1 mitR_1 mitM_1
  by_cases hon : B.1 52 1 = 1
  · have hnn : ¬ ¬ B.1 52 1 = 1 := fun w => w hon
    rw [if_neg hnn, if_neg hnn]
    by_cases b1 : k = 33
    · rw [if_pos b1, if_pos b1, if_pos (e33.mp b1), if_pos (e33.mp b1), p1]
      exact ⟨m1_iff _, p2⟩
    · have b1' := fun w => b1 (e33.mpr w)
      rw [if_neg b1, if_neg b1, if_neg b1', if_neg b1']
      by_cases b2 : k = 45
      · rw [if_pos b2, if_pos b2, if_pos (e45.mp b2), if_pos (e45.mp b2), f1]
        exact ⟨m1_iff _, f2⟩
      · have b2' := fun w => b2 (e45.mpr w)
        rw [if_neg b2, if_neg b2, if_neg b2', if_neg b2']
        by_cases b3 : k = 42
        · rw [if_pos b3, if_pos b3, if_pos (e42.mp b3), if_pos (e42.mp b3), g1]
          exact ⟨m1_iff _, g2⟩
        · have b3' := fun w => b3 (e42.mpr w)
          rw [if_neg b3, if_neg b3, if_neg b3', if_neg b3', ← ep, c1]
          refine ⟨?_, c2⟩
          by_cases m : mmC_1 B (plo k) q = 0
          · rw [if_pos m, if_pos m]
            exact ⟨fun w => absurd w (mmC_0_1 m).2.2, fun w => absurd w (by decide)⟩
          · rw [if_neg m, if_neg m]
            exact ⟨fun _ => rfl, fun _ => rfl⟩
  · have ho := hoff.mpr hon
    rw [if_pos hon, if_pos hon]
    have z1 : paR A 14 = -1 ∧ paM A 14 = A := by
      unfold paR paM
      rw [if_pos (Or.inl ho), if_pos (Or.inl ho)]
      exact ⟨rfl, rfl⟩
    have z2 : ∀ x, frR_1 A x = -1 ∧ frM_1 A x = A := fun x => by
      unfold frR_1 frM_1
      rw [if_pos (Or.inl ho), if_pos (Or.inl ho)]
      exact ⟨rfl, rfl⟩
    have z3 : ∀ x, chR A 14 x q = -1 ∧ chM A 14 x q = A := fun x => by
      have : ¬ mayC A 14 x q = 0 := by
        unfold mayC
        rw [if_pos ho]
        decide
      unfold chR chM
      rw [if_neg this, if_neg this]
      exact ⟨rfl, rfl⟩
    rw [z1.1, z1.2, (z2 _).1, (z2 _).2, (z2 _).1, (z2 _).2, (z3 _).1, (z3 _).2]
    simp only [ite_self]
    exact ⟨by first | trivial | exact ⟨fun _ => rfl, fun _ => rfl⟩, h⟩
theorem item_R {n : Nat} {A B : mx_Mem} {p : Nat} (hn : n ≤ 1000) (h : RR n A B) (hp : p + 2 < 100) (hA : isA (B.1 56 p)) : (diR A (nI p) = -1 ↔ mdiR B p = 0) ∧ RR n (diM A (nI p)) (mdiM B p) := by
  have hsg := h.1.1.1.2.2.2.1.2
  have x0 := hsg p (by omega)
  have x1 := hsg (p + 1) (by omega)
  have x2 := sg_plo (hsg (p + 2) (by omega))
  have l65 := sg_c 65 x0 (by decide) (by decide)
  have l66 := sg_c 66 x0 (by decide) (by decide)
  have l97 := sg_c 97 x0 (by decide) (by decide)
  obtain ⟨r1, r2⟩ := rally_R_0 hn h
  obtain ⟨s1, s2⟩ := rally_R_1 hn h
  have rr : ∀ x : Int32, ¬ x = -1 → ((if B.1 52 1 = 1 then x else -1) = -1 ↔ (if B.1 52 1 = 1 then (1 : Int32) else 0) = 0) := fun x hx => by
    by_cases hon : B.1 52 1 = 1
    · rw [if_pos hon, if_pos hon]; exact ⟨fun w => absurd w hx, fun w => absurd w (by decide)⟩
    · rw [if_neg hon, if_neg hon]; exact ⟨fun _ => rfl, fun _ => rfl⟩
  unfold diR mdiR diM mdiM
  rw [sgn_n _ (by omega), sgn_1 _ (by omega), sgn_2 _ hp, x2]
  by_cases c1 : A.1 38 p = 65
  · have d1 := l65.mp c1
    rw [if_pos c1, if_pos c1, if_pos (Or.inl d1), if_pos d1, r1]
    exact ⟨rr _ (ptR_m1_0 _ _), r2⟩
  · have d1 := fun w => c1 (l65.mpr w)
    rw [if_neg c1, if_neg c1, if_neg d1]
    by_cases c2 : A.1 38 p = 66
    · have d2 := l66.mp c2
      rw [if_pos c2, if_pos c2, if_pos (Or.inr d2), if_pos d2, s1]
      exact ⟨rr _ (ptR_m1_1 _ _), s2⟩
    · have d2 := fun w => c2 (l66.mpr w)
      have d3 : ¬ (B.1 56 p = 65 ∨ B.1 56 p = 66) := fun w => w.elim d1 d2
      rw [if_neg c2, if_neg c2, if_neg d3, if_neg d2]
      by_cases c3 : A.1 38 p = 97
      · rw [if_pos c3, if_pos c3, if_pos (l97.mp c3), if_pos (l97.mp c3)]
        exact it_R_0 hn h x1 _
      · have d3 := fun w => c3 (l97.mpr w)
        rw [if_neg c3, if_neg c3, if_neg d3, if_neg d3]
        exact it_R_1 hn h x1 _
theorem mrd_isA {g : Nat → Int32} {p e : Nat} (hp : p < 100) (h : 0 ≤ mrd g p e) : isA (g p) := by
  by_cases c1 : g p = 65 ∨ g p = 66
  · exact Or.inl c1
  · by_cases c2 : ¬ g p = 97 ∧ ¬ g p = 98
    · rw [mrd_N g c1 c2] at h
      exact absurd h (neg_n (k := 1) (by decide) (by decide) hp)
    · right
      by_cases q : g p = 97
      · exact Or.inl q
      · exact Or.inr (Classical.not_not.mp fun q2 => c2 ⟨q, q2⟩)
theorem itn_mrd {f g : Nat → Int32} {p e : Nat} (hfg : ∀ j, j < 100 → sgR (f j) (g j)) (hp : p + 2 < 100) (h : 0 ≤ mrd g p e) : itn f (nI p) = (mrd g p e).toNatClampNeg := by
  have x0 := hfg p (by omega)
  have x1 := hfg (p + 1) (by omega)
  rcases mrd_isA (by omega) h with c | c
  · rw [mrd_R g c, (flt_R f (by omega) (by rw [sg_c 65 x0 (by decide) (by decide), sg_c 66 x0 (by decide) (by decide)]; exact c)).2]
    rfl
  · rw [(flt_A f hp (by rw [sg_c 97 x0 (by decide) (by decide), sg_c 98 x0 (by decide) (by decide)]; exact c)).2]
    have m := mrd_A g (e := e) c
    have k1 : knd (f (p + 1)) ↔ knd (g (p + 1)) := by
      show (f (p + 1) = 33 ∨ f (p + 1) = 45) ↔ (g (p + 1) = 33 ∨ g (p + 1) = 45)
      rw [sg_c 33 x1 (by decide) (by decide), sg_c 45 x1 (by decide) (by decide)]
    by_cases e1 : p + 1 < e
    · have b1 : mrb g p e 1 = g (p + 1) := by unfold mrb; rw [if_pos e1]
      rw [b1] at m
      by_cases s1 : knd (g (p + 1))
      · rw [if_pos (k1.mpr s1), m, if_pos s1]; rfl
      · rw [if_neg (fun w => s1 (k1.mp w))]
        rw [if_neg s1] at m
        by_cases s2 : bad2 (g (p + 1))
        · rw [if_pos s2] at m
          rw [m] at h
          exact absurd h (neg_n (k := 2) (by decide) (by decide) (by omega))
        · rw [if_neg s2] at m
          by_cases s3 : plo (mrb g p e 2) = -1
          · rw [if_pos s3] at m
            rw [m] at h
            exact absurd h (neg_n (k := 3) (by decide) (by decide) (by omega))
          · rw [if_neg s3] at m
            rw [m]; rfl
    · have b1 : mrb g p e 1 = -1 := by unfold mrb; rw [if_neg e1]
      rw [b1, if_neg (show ¬ knd (-1) by decide), if_pos (show bad2 (-1) by decide)] at m
      rw [m] at h
      exact absurd h (neg_n (k := 2) (by decide) (by decide) (by omega))

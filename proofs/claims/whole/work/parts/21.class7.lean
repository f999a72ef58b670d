/-! what the class rests on is kept; the loops of sheets -/
theorem CI_w {M : mx_Mem} {k j : Nat} {v : Int32} (h : CI M) (h1 : k ≠ 38 ∧ k ≠ 10 ∧ k ≠ 15) (h2 : (k = 19 ∨ k = 30) → j = 1 → isB v) (h3 : ((k = 9 ∨ k = 14) ∨ (k = 20 ∨ k = 25)) → j = 6 → isB v) : CI (mI M k j v) := by
  obtain ⟨⟨a1, a2, a3⟩, ⟨a4, a5, a6⟩, a7, a8⟩ := h
  have key : ∀ (k' j' : Nat), isB (M.1 k' j') → ((k' = k ∧ j' = j) → isB v) → isB ((mI M k j v).1 k' j') := by
    intro k' j' g1 g2
    rw [mI_ap]
    split
    · exact g2 (by assumption)
    · exact g1
  refine ⟨⟨key _ _ a1 ?_, key _ _ a2 ?_, key _ _ a3 ?_⟩, ⟨key _ _ a4 ?_, key _ _ a5 ?_, key _ _ a6 ?_⟩, fun i hi => ?_, fun i hi => ?_⟩
  · rintro ⟨rfl, rfl⟩; exact h2 (Or.inl rfl) rfl
  · rintro ⟨rfl, rfl⟩; exact h3 (Or.inl (Or.inl rfl)) rfl
  · rintro ⟨rfl, rfl⟩; exact h3 (Or.inl (Or.inr rfl)) rfl
  · rintro ⟨rfl, rfl⟩; exact h2 (Or.inr rfl) rfl
  · rintro ⟨rfl, rfl⟩; exact h3 (Or.inr (Or.inl rfl)) rfl
  · rintro ⟨rfl, rfl⟩; exact h3 (Or.inr (Or.inr rfl)) rfl
  · rw [mI_ne _ _ _ _ (Ne.symm h1.1)]; exact a7 i hi
  · rw [mI_ne _ _ _ _ (Ne.symm h1.2.1), mI_ne _ _ _ _ (Ne.symm h1.2.2)]; exact a8 i hi
theorem CI_o {M : mx_Mem} {k j : Nat} {v : Int32} (h : CI M) (hk : k = 10 ∨ k = 15) (hv : isP v) : CI (mI M k j v) := by
  obtain ⟨⟨a1, a2, a3⟩, ⟨a4, a5, a6⟩, a7, a8⟩ := h
  have hne : ∀ k', k' ≠ 10 → k' ≠ 15 → ∀ j', (mI M k j v).1 k' j' = M.1 k' j' := fun k' g1 g2 j' => mI_ne _ _ _ _ (by rcases hk with rfl | rfl <;> assumption)
  refine ⟨⟨?_, ?_, ?_⟩, ⟨?_, ?_, ?_⟩, fun i hi => ?_, fun i hi => ⟨?_, ?_⟩⟩
  · rw [hne _ (by decide) (by decide)]; exact a1
  · rw [hne _ (by decide) (by decide)]; exact a2
  · rw [hne _ (by decide) (by decide)]; exact a3
  · rw [hne _ (by decide) (by decide)]; exact a4
  · rw [hne _ (by decide) (by decide)]; exact a5
  · rw [hne _ (by decide) (by decide)]; exact a6
  · rw [hne _ (by decide) (by decide)]; exact a7 i hi
  · rw [mI_ap]; split
    · exact hv
    · exact (a8 i hi).1
  · rw [mI_ap]; split
    · exact hv
    · exact (a8 i hi).2
theorem CI_tn_9 {M : mx_Mem} (h : CI M) : CI (tnM M 9) := by
  have hp : ∀ k : Nat, k < 6 → isP (M.1 10 k) := fun k hk => by first | exact (h.2.2.2 k hk).1 | exact (h.2.2.2 k hk).2
  have h1 : CI (mI (tnO M 9) 9 11 (M.1 9 11 + 1)) := by
    refine CI_w ?_ (by decide) (by omega) (by omega)
    unfold tnO
    refine CI_o (CI_o (CI_o (CI_o (CI_o (CI_o h (Or.inl rfl) (hp 1 (by decide))) (Or.inl rfl) (hp 2 (by decide))) (Or.inl rfl) (hp 3 (by decide))) (Or.inl rfl) (hp 4 (by decide))) (Or.inl rfl) (hp 5 (by decide))) (Or.inl rfl) (hp 0 (by decide))
  unfold tnM
  split
  · exact h1
  · exact CI_w h1 (by decide) (by omega) (by omega)
theorem CI_cl_9 {M : mx_Mem} (h : CI M) : CI (clM M 9 14 0) := by
  have h1 : CI (clN M 9 0) := by
    unfold clN
    exact CI_w (CI_w (CI_w h (by decide) (by omega) (by omega)) (by decide) (fun _ _ => Or.inl rfl) (by omega)) (by decide) (by omega) (by omega)
  unfold clM
  split
  · split
    · exact CI_w h1 (by decide) (by omega) (by omega)
    · exact h1
  · exact h
theorem CI_rl_9 {M : mx_Mem} (h : CI M) : CI (rlM M 9 14 0) := by
  unfold rlM
  split
  · exact h
  · apply CI_cl_9
    have h0 : CI (mI M 9 7 (M.1 9 7 + 1)) := CI_w h (by decide) (by omega) (by omega)
    have h1 : CI (wrA M 9 0) := by
      unfold wrA
      split
      · unfold csM
        exact CI_w (CI_w h0 (by decide) (by omega) (by omega)) (by decide) (by omega) (by omega)
      · exact CI_w (CI_w (CI_tn_9 h0) (by decide) (by omega) (by omega)) (by decide) (by omega) (by omega)
    unfold wrM wrB
    exact CI_w (CI_w (CI_w h1 (by decide) (by omega) (by omega)) (by decide) (by omega) (fun _ _ => Or.inl rfl)) (by decide) (by omega) (fun _ _ => Or.inl rfl)
theorem CI_it_0 {M : mx_Mem} (b q : Int32) (h : CI M) : CI (itM_0 M b q) := by
  have hf : ∀ x, CI (frM_0 M x) := fun x => by
    unfold frM_0
    repeat' split
    all_goals first | exact h | exact CI_w (CI_w h (by decide) (by omega) (by omega)) (by decide) (by omega) (fun _ _ => Or.inr rfl)
  unfold itM_0
  split
  · unfold paM
    split
    · exact h
    · exact CI_w h (by decide) (by omega) (by omega)
  · split
    · exact hf _
    · split
      · exact hf _
      · unfold chM
        split
        · rename_i hm
          have hb := (mayC_0_9 hm).2.1
          unfold exM exN
          refine CI_w (CI_o ?_ (by decide) hb) (by decide) (by omega) (by omega)
          split
          · exact CI_w (CI_w (CI_w h (by decide) (by omega) (by omega)) (by decide) (by omega) (by omega)) (by decide) (by omega) (by omega)
          · exact CI_w (CI_w h (by decide) (by omega) (by omega)) (by decide) (by omega) (by omega)
        · exact h
theorem CI_tn_14 {M : mx_Mem} (h : CI M) : CI (tnM M 14) := by
  have hp : ∀ k : Nat, k < 6 → isP (M.1 15 k) := fun k hk => by first | exact (h.2.2.2 k hk).1 | exact (h.2.2.2 k hk).2
  have h1 : CI (mI (tnO M 14) 14 11 (M.1 14 11 + 1)) := by
    refine CI_w ?_ (by decide) (by omega) (by omega)
    unfold tnO
    refine CI_o (CI_o (CI_o (CI_o (CI_o (CI_o h (Or.inr rfl) (hp 1 (by decide))) (Or.inr rfl) (hp 2 (by decide))) (Or.inr rfl) (hp 3 (by decide))) (Or.inr rfl) (hp 4 (by decide))) (Or.inr rfl) (hp 5 (by decide))) (Or.inr rfl) (hp 0 (by decide))
  unfold tnM
  split
  · exact h1
  · exact CI_w h1 (by decide) (by omega) (by omega)
theorem CI_cl_14 {M : mx_Mem} (h : CI M) : CI (clM M 14 9 1) := by
  have h1 : CI (clN M 14 1) := by
    unfold clN
    exact CI_w (CI_w (CI_w h (by decide) (by omega) (by omega)) (by decide) (fun _ _ => Or.inl rfl) (by omega)) (by decide) (by omega) (by omega)
  unfold clM
  split
  · split
    · exact CI_w h1 (by decide) (by omega) (by omega)
    · exact h1
  · exact h
theorem CI_rl_14 {M : mx_Mem} (h : CI M) : CI (rlM M 14 9 1) := by
  unfold rlM
  split
  · exact h
  · apply CI_cl_14
    have h0 : CI (mI M 14 7 (M.1 14 7 + 1)) := CI_w h (by decide) (by omega) (by omega)
    have h1 : CI (wrA M 14 1) := by
      unfold wrA
      split
      · unfold csM
        exact CI_w (CI_w h0 (by decide) (by omega) (by omega)) (by decide) (by omega) (by omega)
      · exact CI_w (CI_w (CI_tn_14 h0) (by decide) (by omega) (by omega)) (by decide) (by omega) (by omega)
    unfold wrM wrB
    exact CI_w (CI_w (CI_w h1 (by decide) (by omega) (by omega)) (by decide) (by omega) (fun _ _ => Or.inl rfl)) (by decide) (by omega) (fun _ _ => Or.inl rfl)
theorem CI_it_1 {M : mx_Mem} (b q : Int32) (h : CI M) : CI (itM_1 M b q) := by
  have hf : ∀ x, CI (frM_1 M x) := fun x => by
    unfold frM_1
    repeat' split
    all_goals first | exact h | exact CI_w (CI_w h (by decide) (by omega) (by omega)) (by decide) (by omega) (fun _ _ => Or.inr rfl)
  unfold itM_1
  split
  · unfold paM
    split
    · exact h
    · exact CI_w h (by decide) (by omega) (by omega)
  · split
    · exact hf _
    · split
      · exact hf _
      · unfold chM
        split
        · rename_i hm
          have hb := (mayC_0_14 hm).2.1
          unfold exM exN
          refine CI_w (CI_o ?_ (by decide) hb) (by decide) (by omega) (by omega)
          split
          · exact CI_w (CI_w (CI_w h (by decide) (by omega) (by omega)) (by decide) (by omega) (by omega)) (by decide) (by omega) (by omega)
          · exact CI_w (CI_w h (by decide) (by omega) (by omega)) (by decide) (by omega) (by omega)
        · exact h
theorem CI_di {M : mx_Mem} (p : Int32) (h : CI M) : CI (diM M p) := by
  unfold diM
  split
  · exact CI_rl_9 h
  · split
    · exact CI_rl_14 h
    · split
      · exact CI_it_0 _ _ h
      · exact CI_it_1 _ _ h

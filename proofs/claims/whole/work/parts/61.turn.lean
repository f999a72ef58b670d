/-! the coupling: a side-out -/
theorem wrT_0 {A : mx_Mem} {f : Int32} (hs : ¬ A.1 19 2 = 0) (hf : (A.1 9 5 = -1 ∧ f = -1) ∨ (A.1 9 5 = 4 ∧ f = -1) ∨ (A.1 9 5 = 5 ∧ f = 4)) : (∀ j, (wrM A 9 0).1 9 j = if j = 6 then 0 else if j = 7 then A.1 9 7 + 1 else if j = 11 then A.1 9 11 + 1 else if j = 5 then f else A.1 9 j) ∧ (∀ j, (wrM A 9 0).1 14 j = if j = 6 then 0 else A.1 14 j) ∧ (∀ j, (wrM A 9 0).1 19 j = if j = 4 then A.1 19 4 + 1 else if j = 3 then 0 else if j = 2 then 0 else A.1 19 j) ∧ (∀ j, j < 6 → (wrM A 9 0).1 10 j = A.1 10 ((j + 1) % 6)) ∧ ∀ k, k ≠ 9 → k ≠ 14 → k ≠ 19 → k ≠ 10 → (wrM A 9 0).1 k = A.1 k := by
  have e0 : ∀ N : mx_Mem, wrB N = mI (mI (mI N 19 4 (N.1 19 4 + 1)) 9 6 0) 14 6 0 := fun N => rfl
  have e1 : wrA A 9 0 = mI (mI (tnM (mI A 9 7 (A.1 9 7 + 1)) 9) 19 2 0) 19 3 0 := by
    unfold wrA
    dsimp only
    rw [if_neg hs]
  have e2 : tnM (mI A 9 7 (A.1 9 7 + 1)) 9 = if A.1 9 5 = -1 then mI (tnO (mI A 9 7 (A.1 9 7 + 1)) 9) 9 11 (A.1 9 11 + 1) else mI (mI (tnO (mI A 9 7 (A.1 9 7 + 1)) 9) 9 11 (A.1 9 11 + 1)) 9 5 f := by
    unfold tnM
    dsimp only
    have z : (mI A 9 7 (A.1 9 7 + 1)).1 9 5 = A.1 9 5 := rfl
    have z2 : (mI A 9 7 (A.1 9 7 + 1)).1 9 11 = A.1 9 11 := rfl
    rw [z, z2]
    rcases hf with ⟨x, -⟩ | ⟨x, y⟩ | ⟨x, y⟩
    · rw [if_pos x, if_pos x]
    · rw [x, y]; rfl
    · rw [x, y]; rfl
  have e3 : ∀ j, j < 6 → (tnO (mI A 9 7 (A.1 9 7 + 1)) 9).1 10 j = A.1 10 ((j + 1) % 6) := fun j hj => by
    have : j = 0 ∨ j = 1 ∨ j = 2 ∨ j = 3 ∨ j = 4 ∨ j = 5 := by omega
    rcases this with rfl | rfl | rfl | rfl | rfl | rfl <;> rfl
  have e4 : ∀ k, k ≠ 10 → ∀ j, (tnO (mI A 9 7 (A.1 9 7 + 1)) 9).1 k j = (mI A 9 7 (A.1 9 7 + 1)).1 k j := fun k hk j => by
    unfold tnO
    rw [mI_ne _ _ _ _ hk, mI_ne _ _ _ _ hk, mI_ne _ _ _ _ hk, mI_ne _ _ _ _ hk, mI_ne _ _ _ _ hk, mI_ne _ _ _ _ hk]
  have e5 : ∀ k, k ≠ 9 → ∀ j, (tnM (mI A 9 7 (A.1 9 7 + 1)) 9).1 k j = (tnO (mI A 9 7 (A.1 9 7 + 1)) 9).1 k j := fun k hk j => by
    rw [e2]
    split
    · rw [mI_ne _ _ _ _ hk]
    · rw [mI_ne _ _ _ _ hk, mI_ne _ _ _ _ hk]
  have e6 : ∀ j, (tnM (mI A 9 7 (A.1 9 7 + 1)) 9).1 9 j = if j = 7 then A.1 9 7 + 1 else if j = 11 then A.1 9 11 + 1 else if j = 5 then f else A.1 9 j := fun j => by
    rw [e2]
    split
    · rename_i x
      have y : f = -1 := by
        rcases hf with ⟨-, y⟩ | ⟨z, -⟩ | ⟨z, -⟩
        · exact y
        · rw [x] at z; exact absurd z (by decide)
        · rw [x] at z; exact absurd z (by decide)
      rw [mI_ap, e4 _ (by decide), mI_ap, y]
      by_cases j5 : j = 5
      · subst j5; simp [x]
      · by_cases j7 : j = 7
        · subst j7; simp
        · simp [j5, j7]
    · rw [mI_ap, mI_ap, e4 _ (by decide), mI_ap]
      by_cases j5 : j = 5
      · subst j5; simp
      · by_cases j7 : j = 7
        · subst j7; simp
        · simp [j5, j7]
  unfold wrM
  rw [e1, e0]
  refine ⟨fun j => ?_, fun j => ?_, fun j => ?_, fun j hj => ?_, fun k m1 m2 m3 m4 => funext fun j => ?_⟩
  · simp only [mI_ap, e6]; simp
  · simp only [mI_ap, e5 14 (by decide), e4 14 (by decide)]; simp
  · simp only [mI_ap, e5 19 (by decide), e4 19 (by decide)]; simp
  · simp only [mI_ap, e5 10 (by decide), e3 j hj]; simp
  · rw [mI_ne _ _ _ _ m2, mI_ne _ _ _ _ m1, mI_ne _ _ _ _ m3, mI_ne _ _ _ _ m3, mI_ne _ _ _ _ m3, e5 k m1, e4 k m4, mI_ne _ _ _ _ m1]
theorem ptT_0 {B : mx_Mem} (X : Prop) (hX : X ↔ (B.1 52 10 = -1 ∨ ¬ B.1 52 18 = B.1 48 0)) {B2 : mx_Mem} (hB2 : mtn_0 (mI (mI (mI (ptA_0 B) 52 61 0) 52 11 0) 52 2 0) = B2) : (∀ k, k ≠ 52 → B2.1 k = B.1 k) ∧ (∀ j, j ≠ 2 → j ≠ 3 → j ≠ 13 → j ≠ 63 → j ≠ 6 → j ≠ 11 → j ≠ 61 → j ≠ 10 → j ≠ 12 → (j < 14 ∨ 20 ≤ j) → B2.1 52 j = B.1 52 j) ∧ (B2.1 52 2 = 0 ∧ B2.1 52 3 = B.1 52 3 + 1 ∧ B2.1 52 13 = 0 ∧ B2.1 52 63 = 0 ∧ B2.1 52 6 = B.1 52 6 + 1 ∧ B2.1 52 11 = 0 ∧ B2.1 52 61 = 0 ∧ B2.1 52 12 = B.1 52 12 + 1) ∧ (X → B2.1 52 10 = B.1 52 10 ∧ ∀ j, j < 6 → B2.1 52 (14 + j) = B.1 52 (14 + (j + 1) % 6)) ∧ (¬ X → B2.1 52 10 = -1 ∧ B2.1 52 17 = B.1 52 10 ∧ ∀ j, j < 6 → ¬ j = 3 → B2.1 52 (14 + j) = B.1 52 (14 + (j + 1) % 6)) := by
  generalize hN : mI (mI (mI (ptA_0 B) 52 61 0) 52 11 0) 52 2 0 = N at hB2
  have n1 : ∀ k, k ≠ 52 → N.1 k = B.1 k := fun k m => funext fun j => by
    rw [← hN]
    unfold ptA_0
    rw [mI_ne _ _ _ _ m, mI_ne _ _ _ _ m, mI_ne _ _ _ _ m, mI_ne _ _ _ _ m, mI_ne _ _ _ _ m, mI_ne _ _ _ _ m, mI_ne _ _ _ _ m]
  have n2 : ∀ j, N.1 52 j = if j = 2 then 0 else if j = 11 then 0 else if j = 61 then 0 else if j = 6 then B.1 52 6 + 1 else if j = 63 then 0 else if j = 13 then 0 else if j = 3 then B.1 52 3 + 1 else B.1 52 j := fun j => by
    rw [← hN]
    unfold ptA_0
    simp only [mI_ap]
    simp
  clear hN
  have n3 : ∀ j, j < 6 → N.1 52 (14 + j) = B.1 52 (14 + j) := fun j hj => by
    rw [n2, if_neg (by omega), if_neg (by omega), if_neg (by omega), if_neg (by omega), if_neg (by omega), if_neg (by omega), if_neg (by omega)]
  have m1 : ∀ j, j < 6 → (mtN_0 N).1 52 (14 + j) = B.1 52 (14 + (j + 1) % 6) := fun j hj => by
    have h0 := n3 0 (by decide)
    have h1 := n3 1 (by decide)
    have h2 := n3 2 (by decide)
    have h3 := n3 3 (by decide)
    have h4 := n3 4 (by decide)
    have h5 := n3 5 (by decide)
    have : j = 0 ∨ j = 1 ∨ j = 2 ∨ j = 3 ∨ j = 4 ∨ j = 5 := by omega
    rcases this with rfl | rfl | rfl | rfl | rfl | rfl
    · exact h1
    · exact h2
    · exact h3
    · exact h4
    · exact h5
    · exact h0
  have m2 : ∀ j, (j < 14 ∨ 20 ≤ j) → (mtN_0 N).1 52 j = if j = 12 then N.1 52 12 + 1 else N.1 52 j := fun j hj => by
    unfold mtN_0 mtO_0
    rw [mI_ap, mI_nj _ _ _ (by omega), mI_nj _ _ _ (by omega), mI_nj _ _ _ (by omega), mI_nj _ _ _ (by omega), mI_nj _ _ _ (by omega), mI_nj _ _ _ (by omega)]
    simp
  have m3 : ∀ k, k ≠ 52 → (mtN_0 N).1 k = N.1 k := fun k m => funext fun j => by
    unfold mtN_0 mtO_0
    rw [mI_ne _ _ _ _ m, mI_ne _ _ _ _ m, mI_ne _ _ _ _ m, mI_ne _ _ _ _ m, mI_ne _ _ _ _ m, mI_ne _ _ _ _ m, mI_ne _ _ _ _ m]
  have hc : (N.1 52 10 = -1 ∨ ¬ N.1 52 18 = N.1 48 0) ↔ X := by
    rw [hX, n1 48 (by decide), show N.1 52 18 = B.1 52 18 from n3 4 (by decide), show N.1 52 10 = B.1 52 10 by rw [n2]; rfl]
  have v4 : N.1 52 10 = B.1 52 10 := by rw [n2]; rfl
  have v6 : N.1 52 12 = B.1 52 12 := by rw [n2]; rfl
  unfold mtn_0 at hB2
  by_cases x : X
  · rw [if_pos (hc.mpr x)] at hB2
    subst hB2
    refine ⟨fun k m => (m3 k m).trans (n1 k m), fun j k1 k2 k3 k4 k5 k6 k7 k8 k9 k10 => ?_, ⟨?_, ?_, ?_, ?_, ?_, ?_, ?_, ?_⟩, fun _ => ⟨?_, m1⟩, fun y => absurd x y⟩
    · rw [m2 j k10, if_neg k9, n2, if_neg k1, if_neg k6, if_neg k7, if_neg k5, if_neg k4, if_neg k3, if_neg k2]
    · rw [m2 _ (by decide), if_neg (by decide), n2]; rfl
    · rw [m2 _ (by decide), if_neg (by decide), n2]; rfl
    · rw [m2 _ (by decide), if_neg (by decide), n2]; rfl
    · rw [m2 _ (by decide), if_neg (by decide), n2]; rfl
    · rw [m2 _ (by decide), if_neg (by decide), n2]; rfl
    · rw [m2 _ (by decide), if_neg (by decide), n2]; rfl
    · rw [m2 _ (by decide), if_neg (by decide), n2]; rfl
    · rw [m2 _ (by decide), if_pos rfl, v6]
    · rw [m2 _ (by decide), if_neg (by decide), n2]; rfl
  · rw [if_neg (fun y => x (hc.mp y))] at hB2
    subst hB2
    refine ⟨fun k m => funext fun j => ?_, fun j k1 k2 k3 k4 k5 k6 k7 k8 k9 k10 => ?_, ⟨?_, ?_, ?_, ?_, ?_, ?_, ?_, ?_⟩, fun y => absurd y x, fun _ => ⟨?_, ?_, fun j hj h3 => ?_⟩⟩
    · rw [mI_ne _ _ _ _ m, mI_ne _ _ _ _ m, m3 k m, n1 k m]
    · rw [mI_nj _ _ _ k8, mI_nj _ _ _ (by omega), m2 j k10, if_neg k9, n2, if_neg k1, if_neg k6, if_neg k7, if_neg k5, if_neg k4, if_neg k3, if_neg k2]
    · rw [mI_nj _ _ _ (by decide), mI_nj _ _ _ (by decide), m2 _ (by decide), if_neg (by decide), n2]; rfl
    · rw [mI_nj _ _ _ (by decide), mI_nj _ _ _ (by decide), m2 _ (by decide), if_neg (by decide), n2]; rfl
    · rw [mI_nj _ _ _ (by decide), mI_nj _ _ _ (by decide), m2 _ (by decide), if_neg (by decide), n2]; rfl
    · rw [mI_nj _ _ _ (by decide), mI_nj _ _ _ (by decide), m2 _ (by decide), if_neg (by decide), n2]; rfl
    · rw [mI_nj _ _ _ (by decide), mI_nj _ _ _ (by decide), m2 _ (by decide), if_neg (by decide), n2]; rfl
    · rw [mI_nj _ _ _ (by decide), mI_nj _ _ _ (by decide), m2 _ (by decide), if_neg (by decide), n2]; rfl
    · rw [mI_nj _ _ _ (by decide), mI_nj _ _ _ (by decide), m2 _ (by decide), if_neg (by decide), n2]; rfl
    · rw [mI_nj _ _ _ (by decide), mI_nj _ _ _ (by decide), m2 _ (by decide), if_pos rfl, v6]
    · rw [mI_self]
    · rw [mI_nj _ _ _ (by decide), mI_self, v4]
    · rw [mI_nj _ _ _ (by omega), mI_nj _ _ _ (by omega), m1 j hj]
theorem wrT_1 {A : mx_Mem} {f : Int32} (hs : ¬ A.1 19 2 = 1) (hf : (A.1 14 5 = -1 ∧ f = -1) ∨ (A.1 14 5 = 4 ∧ f = -1) ∨ (A.1 14 5 = 5 ∧ f = 4)) : (∀ j, (wrM A 14 1).1 14 j = if j = 6 then 0 else if j = 7 then A.1 14 7 + 1 else if j = 11 then A.1 14 11 + 1 else if j = 5 then f else A.1 14 j) ∧ (∀ j, (wrM A 14 1).1 9 j = if j = 6 then 0 else A.1 9 j) ∧ (∀ j, (wrM A 14 1).1 19 j = if j = 4 then A.1 19 4 + 1 else if j = 3 then 0 else if j = 2 then 1 else A.1 19 j) ∧ (∀ j, j < 6 → (wrM A 14 1).1 15 j = A.1 15 ((j + 1) % 6)) ∧ ∀ k, k ≠ 9 → k ≠ 14 → k ≠ 19 → k ≠ 15 → (wrM A 14 1).1 k = A.1 k := by
  have e0 : ∀ N : mx_Mem, wrB N = mI (mI (mI N 19 4 (N.1 19 4 + 1)) 9 6 0) 14 6 0 := fun N => rfl
  have e1 : wrA A 14 1 = mI (mI (tnM (mI A 14 7 (A.1 14 7 + 1)) 14) 19 2 1) 19 3 0 := by
    unfold wrA
    dsimp only
    rw [if_neg hs]
  have e2 : tnM (mI A 14 7 (A.1 14 7 + 1)) 14 = if A.1 14 5 = -1 then mI (tnO (mI A 14 7 (A.1 14 7 + 1)) 14) 14 11 (A.1 14 11 + 1) else mI (mI (tnO (mI A 14 7 (A.1 14 7 + 1)) 14) 14 11 (A.1 14 11 + 1)) 14 5 f := by
    unfold tnM
    dsimp only
    have z : (mI A 14 7 (A.1 14 7 + 1)).1 14 5 = A.1 14 5 := rfl
    have z2 : (mI A 14 7 (A.1 14 7 + 1)).1 14 11 = A.1 14 11 := rfl
    rw [z, z2]
    rcases hf with ⟨x, -⟩ | ⟨x, y⟩ | ⟨x, y⟩
    · rw [if_pos x, if_pos x]
    · rw [x, y]; rfl
    · rw [x, y]; rfl
  have e3 : ∀ j, j < 6 → (tnO (mI A 14 7 (A.1 14 7 + 1)) 14).1 15 j = A.1 15 ((j + 1) % 6) := fun j hj => by
    have : j = 0 ∨ j = 1 ∨ j = 2 ∨ j = 3 ∨ j = 4 ∨ j = 5 := by omega
    rcases this with rfl | rfl | rfl | rfl | rfl | rfl <;> rfl
  have e4 : ∀ k, k ≠ 15 → ∀ j, (tnO (mI A 14 7 (A.1 14 7 + 1)) 14).1 k j = (mI A 14 7 (A.1 14 7 + 1)).1 k j := fun k hk j => by
    unfold tnO
    rw [mI_ne _ _ _ _ hk, mI_ne _ _ _ _ hk, mI_ne _ _ _ _ hk, mI_ne _ _ _ _ hk, mI_ne _ _ _ _ hk, mI_ne _ _ _ _ hk]
  have e5 : ∀ k, k ≠ 14 → ∀ j, (tnM (mI A 14 7 (A.1 14 7 + 1)) 14).1 k j = (tnO (mI A 14 7 (A.1 14 7 + 1)) 14).1 k j := fun k hk j => by
    rw [e2]
    split
    · rw [mI_ne _ _ _ _ hk]
    · rw [mI_ne _ _ _ _ hk, mI_ne _ _ _ _ hk]
  have e6 : ∀ j, (tnM (mI A 14 7 (A.1 14 7 + 1)) 14).1 14 j = if j = 7 then A.1 14 7 + 1 else if j = 11 then A.1 14 11 + 1 else if j = 5 then f else A.1 14 j := fun j => by
    rw [e2]
    split
    · rename_i x
      have y : f = -1 := by
        rcases hf with ⟨-, y⟩ | ⟨z, -⟩ | ⟨z, -⟩
        · exact y
        · rw [x] at z; exact absurd z (by decide)
        · rw [x] at z; exact absurd z (by decide)
      rw [mI_ap, e4 _ (by decide), mI_ap, y]
      by_cases j5 : j = 5
      · subst j5; simp [x]
      · by_cases j7 : j = 7
        · subst j7; simp
        · simp [j5, j7]
    · rw [mI_ap, mI_ap, e4 _ (by decide), mI_ap]
      by_cases j5 : j = 5
      · subst j5; simp
      · by_cases j7 : j = 7
        · subst j7; simp
        · simp [j5, j7]
  unfold wrM
  rw [e1, e0]
  refine ⟨fun j => ?_, fun j => ?_, fun j => ?_, fun j hj => ?_, fun k m1 m2 m3 m4 => funext fun j => ?_⟩
  · simp only [mI_ap, e6]; simp
  · simp only [mI_ap, e5 9 (by decide), e4 9 (by decide)]; simp
  · simp only [mI_ap, e5 19 (by decide), e4 19 (by decide)]; simp
  · simp only [mI_ap, e5 15 (by decide), e3 j hj]; simp
  · rw [mI_ne _ _ _ _ m2, mI_ne _ _ _ _ m1, mI_ne _ _ _ _ m3, mI_ne _ _ _ _ m3, mI_ne _ _ _ _ m3, e5 k m2, e4 k m4, mI_ne _ _ _ _ m2]
theorem ptT_1 {B : mx_Mem} (X : Prop) (hX : X ↔ (B.1 52 60 = -1 ∨ ¬ B.1 52 68 = B.1 48 1)) {B2 : mx_Mem} (hB2 : mtn_1 (mI (mI (mI (ptA_1 B) 52 11 0) 52 61 0) 52 2 1) = B2) : (∀ k, k ≠ 52 → B2.1 k = B.1 k) ∧ (∀ j, j ≠ 2 → j ≠ 3 → j ≠ 13 → j ≠ 63 → j ≠ 56 → j ≠ 11 → j ≠ 61 → j ≠ 60 → j ≠ 62 → (j < 64 ∨ 70 ≤ j) → B2.1 52 j = B.1 52 j) ∧ (B2.1 52 2 = 1 ∧ B2.1 52 3 = B.1 52 3 + 1 ∧ B2.1 52 13 = 0 ∧ B2.1 52 63 = 0 ∧ B2.1 52 56 = B.1 52 56 + 1 ∧ B2.1 52 11 = 0 ∧ B2.1 52 61 = 0 ∧ B2.1 52 62 = B.1 52 62 + 1) ∧ (X → B2.1 52 60 = B.1 52 60 ∧ ∀ j, j < 6 → B2.1 52 (64 + j) = B.1 52 (64 + (j + 1) % 6)) ∧ (¬ X → B2.1 52 60 = -1 ∧ B2.1 52 67 = B.1 52 60 ∧ ∀ j, j < 6 → ¬ j = 3 → B2.1 52 (64 + j) = B.1 52 (64 + (j + 1) % 6)) := by
  generalize hN : mI (mI (mI (ptA_1 B) 52 11 0) 52 61 0) 52 2 1 = N at hB2
  have n1 : ∀ k, k ≠ 52 → N.1 k = B.1 k := fun k m => funext fun j => by
    rw [← hN]
    unfold ptA_1
    rw [mI_ne _ _ _ _ m, mI_ne _ _ _ _ m, mI_ne _ _ _ _ m, mI_ne _ _ _ _ m, mI_ne _ _ _ _ m, mI_ne _ _ _ _ m, mI_ne _ _ _ _ m]
  have n2 : ∀ j, N.1 52 j = if j = 2 then 1 else if j = 61 then 0 else if j = 11 then 0 else if j = 56 then B.1 52 56 + 1 else if j = 63 then 0 else if j = 13 then 0 else if j = 3 then B.1 52 3 + 1 else B.1 52 j := fun j => by
    rw [← hN]
    unfold ptA_1
    simp only [mI_ap]
    simp
  clear hN
  have n3 : ∀ j, j < 6 → N.1 52 (64 + j) = B.1 52 (64 + j) := fun j hj => by
    rw [n2, if_neg (by omega), if_neg (by omega), if_neg (by omega), if_neg (by omega), if_neg (by omega), if_neg (by omega), if_neg (by omega)]
  have m1 : ∀ j, j < 6 → (mtN_1 N).1 52 (64 + j) = B.1 52 (64 + (j + 1) % 6) := fun j hj => by
    have h0 := n3 0 (by decide)
    have h1 := n3 1 (by decide)
    have h2 := n3 2 (by decide)
    have h3 := n3 3 (by decide)
    have h4 := n3 4 (by decide)
    have h5 := n3 5 (by decide)
    have : j = 0 ∨ j = 1 ∨ j = 2 ∨ j = 3 ∨ j = 4 ∨ j = 5 := by omega
    rcases this with rfl | rfl | rfl | rfl | rfl | rfl
    · exact h1
    · exact h2
    · exact h3
    · exact h4
    · exact h5
    · exact h0
  have m2 : ∀ j, (j < 64 ∨ 70 ≤ j) → (mtN_1 N).1 52 j = if j = 62 then N.1 52 62 + 1 else N.1 52 j := fun j hj => by
    unfold mtN_1 mtO_1
    rw [mI_ap, mI_nj _ _ _ (by omega), mI_nj _ _ _ (by omega), mI_nj _ _ _ (by omega), mI_nj _ _ _ (by omega), mI_nj _ _ _ (by omega), mI_nj _ _ _ (by omega)]
    simp
  have m3 : ∀ k, k ≠ 52 → (mtN_1 N).1 k = N.1 k := fun k m => funext fun j => by
    unfold mtN_1 mtO_1
    rw [mI_ne _ _ _ _ m, mI_ne _ _ _ _ m, mI_ne _ _ _ _ m, mI_ne _ _ _ _ m, mI_ne _ _ _ _ m, mI_ne _ _ _ _ m, mI_ne _ _ _ _ m]
  have hc : (N.1 52 60 = -1 ∨ ¬ N.1 52 68 = N.1 48 1) ↔ X := by
    rw [hX, n1 48 (by decide), show N.1 52 68 = B.1 52 68 from n3 4 (by decide), show N.1 52 60 = B.1 52 60 by rw [n2]; rfl]
  have v4 : N.1 52 60 = B.1 52 60 := by rw [n2]; rfl
  have v6 : N.1 52 62 = B.1 52 62 := by rw [n2]; rfl
  unfold mtn_1 at hB2
  by_cases x : X
  · rw [if_pos (hc.mpr x)] at hB2
    subst hB2
    refine ⟨fun k m => (m3 k m).trans (n1 k m), fun j k1 k2 k3 k4 k5 k6 k7 k8 k9 k10 => ?_, ⟨?_, ?_, ?_, ?_, ?_, ?_, ?_, ?_⟩, fun _ => ⟨?_, m1⟩, fun y => absurd x y⟩
    · rw [m2 j k10, if_neg k9, n2, if_neg k1, if_neg k7, if_neg k6, if_neg k5, if_neg k4, if_neg k3, if_neg k2]
    · rw [m2 _ (by decide), if_neg (by decide), n2]; rfl
    · rw [m2 _ (by decide), if_neg (by decide), n2]; rfl
    · rw [m2 _ (by decide), if_neg (by decide), n2]; rfl
    · rw [m2 _ (by decide), if_neg (by decide), n2]; rfl
    · rw [m2 _ (by decide), if_neg (by decide), n2]; rfl
    · rw [m2 _ (by decide), if_neg (by decide), n2]; rfl
    · rw [m2 _ (by decide), if_neg (by decide), n2]; rfl
    · rw [m2 _ (by decide), if_pos rfl, v6]
    · rw [m2 _ (by decide), if_neg (by decide), n2]; rfl
  · rw [if_neg (fun y => x (hc.mp y))] at hB2
    subst hB2
    refine ⟨fun k m => funext fun j => ?_, fun j k1 k2 k3 k4 k5 k6 k7 k8 k9 k10 => ?_, ⟨?_, ?_, ?_, ?_, ?_, ?_, ?_, ?_⟩, fun y => absurd y x, fun _ => ⟨?_, ?_, fun j hj h3 => ?_⟩⟩
    · rw [mI_ne _ _ _ _ m, mI_ne _ _ _ _ m, m3 k m, n1 k m]
    · rw [mI_nj _ _ _ k8, mI_nj _ _ _ (by omega), m2 j k10, if_neg k9, n2, if_neg k1, if_neg k7, if_neg k6, if_neg k5, if_neg k4, if_neg k3, if_neg k2]
    · rw [mI_nj _ _ _ (by decide), mI_nj _ _ _ (by decide), m2 _ (by decide), if_neg (by decide), n2]; rfl
    · rw [mI_nj _ _ _ (by decide), mI_nj _ _ _ (by decide), m2 _ (by decide), if_neg (by decide), n2]; rfl
    · rw [mI_nj _ _ _ (by decide), mI_nj _ _ _ (by decide), m2 _ (by decide), if_neg (by decide), n2]; rfl
    · rw [mI_nj _ _ _ (by decide), mI_nj _ _ _ (by decide), m2 _ (by decide), if_neg (by decide), n2]; rfl
    · rw [mI_nj _ _ _ (by decide), mI_nj _ _ _ (by decide), m2 _ (by decide), if_neg (by decide), n2]; rfl
    · rw [mI_nj _ _ _ (by decide), mI_nj _ _ _ (by decide), m2 _ (by decide), if_neg (by decide), n2]; rfl
    · rw [mI_nj _ _ _ (by decide), mI_nj _ _ _ (by decide), m2 _ (by decide), if_neg (by decide), n2]; rfl
    · rw [mI_nj _ _ _ (by decide), mI_nj _ _ _ (by decide), m2 _ (by decide), if_pos rfl, v6]
    · rw [mI_self]
    · rw [mI_nj _ _ _ (by decide), mI_self, v4]
    · rw [mI_nj _ _ _ (by omega), mI_nj _ _ _ (by omega), m1 j hj]

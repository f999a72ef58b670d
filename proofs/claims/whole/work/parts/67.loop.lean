/-! the coupling: the items of a sheet -/
theorem fr_ne_0 (A : mx_Mem) (p : Int32) {k : Nat} (hk : k < 9 ∨ 19 < k) : (frM_0 A p).1 k = A.1 k := by
  funext j
  unfold frM_0
  repeat' split
  all_goals first | rfl | rw [mI_ne _ _ _ _ (by omega), mI_ne _ _ _ _ (by omega)]
theorem pa_ne_0 (A : mx_Mem) {k : Nat} (hk : k < 9 ∨ 19 < k) : (paM A 9).1 k = A.1 k := by
  funext j
  unfold paM
  split
  · rfl
  · rw [mI_ne _ _ _ _ (by omega)]
theorem ch_ne_0 (A : mx_Mem) (x y : Int32) {k : Nat} (hk : k < 9 ∨ 19 < k) : (chM A 9 x y).1 k = A.1 k := by
  funext j
  unfold chM
  split
  · unfold exM exN
    rw [mI_ne _ _ _ _ (by omega), mI_ne _ _ _ _ (by omega)]
    split
    · rw [mI_ne _ _ _ _ (by omega), mI_ne _ _ _ _ (by omega), mI_ne _ _ _ _ (by omega)]
    · rw [mI_ne _ _ _ _ (by omega), mI_ne _ _ _ _ (by omega)]
  · rfl
theorem cl_ne_0 (A : mx_Mem) {k : Nat} (hk : k < 9 ∨ 19 < k) : (clM A 9 14 0).1 k = A.1 k := by
  funext j
  unfold clM clN
  repeat' split
  · rw [mI_ne _ _ _ _ (by omega), mI_ne _ _ _ _ (by omega), mI_ne _ _ _ _ (by omega), mI_ne _ _ _ _ (by omega)]
  · rw [mI_ne _ _ _ _ (by omega), mI_ne _ _ _ _ (by omega), mI_ne _ _ _ _ (by omega)]
  · rfl
theorem tn_ne_0 (A : mx_Mem) {k : Nat} (hk : k < 9 ∨ 19 < k) : (tnM A 9).1 k = A.1 k := by
  funext j
  unfold tnM tnO
  dsimp only
  split
  · rw [mI_ne _ _ _ _ (by omega), mI_ne _ _ _ _ (by omega), mI_ne _ _ _ _ (by omega), mI_ne _ _ _ _ (by omega), mI_ne _ _ _ _ (by omega), mI_ne _ _ _ _ (by omega), mI_ne _ _ _ _ (by omega)]
  · rw [mI_ne _ _ _ _ (by omega), mI_ne _ _ _ _ (by omega), mI_ne _ _ _ _ (by omega), mI_ne _ _ _ _ (by omega), mI_ne _ _ _ _ (by omega), mI_ne _ _ _ _ (by omega), mI_ne _ _ _ _ (by omega), mI_ne _ _ _ _ (by omega)]
theorem wr_ne_0 (A : mx_Mem) {k : Nat} (hk : k < 9 ∨ 19 < k) : (wrM A 9 0).1 k = A.1 k := by
  funext j
  unfold wrM wrB wrA csM
  dsimp only
  rw [mI_ne _ _ _ _ (by omega), mI_ne _ _ _ _ (by omega), mI_ne _ _ _ _ (by omega)]
  split
  · rw [mI_ne _ _ _ _ (by omega), mI_ne _ _ _ _ (by omega), mI_ne _ _ _ _ (by omega)]
  · rw [mI_ne _ _ _ _ (by omega), mI_ne _ _ _ _ (by omega), tn_ne_0 _ hk, mI_ne _ _ _ _ (by omega)]
theorem rl_ne_0 (A : mx_Mem) {k : Nat} (hk : k < 9 ∨ 19 < k) : (rlM A 9 14 0).1 k = A.1 k := by
  unfold rlM
  split
  · rfl
  · rw [cl_ne_0 _ hk, wr_ne_0 _ hk]
theorem it_ne_0 (A : mx_Mem) (x y : Int32) {k : Nat} (hk : k < 9 ∨ 19 < k) : (itM_0 A x y).1 k = A.1 k := by
  unfold itM_0
  repeat' split
  · exact pa_ne_0 A hk
  · exact fr_ne_0 A _ hk
  · exact fr_ne_0 A _ hk
  · exact ch_ne_0 A _ _ hk
theorem mpt_ne_0 (B : mx_Mem) (g : Int32) {k : Nat} (hk : k ≠ 52) : (ptM_0 (ptB_0 B) g).1 k = B.1 k := by
  funext j
  have e : ∀ N : mx_Mem, (ptM_0 N g).1 k j = N.1 k j := fun N => by
    unfold ptM_0 ptN_0
    repeat' split
    · rw [mI_ne _ _ _ _ hk, mI_ne _ _ _ _ hk, mI_ne _ _ _ _ hk, mI_ne _ _ _ _ hk, mI_ne _ _ _ _ hk]
    · rw [mI_ne _ _ _ _ hk, mI_ne _ _ _ _ hk, mI_ne _ _ _ _ hk, mI_ne _ _ _ _ hk]
    · rfl
  rw [e]
  unfold ptB_0 ptS_0 ptA_0 mtn_0 mtN_0 mtO_0
  dsimp only
  repeat' split
  all_goals simp only [mI_ne _ _ _ _ hk]
theorem mit_ne_0 (B : mx_Mem) (x y : Int32) {k : Nat} (hk : k ≠ 52) : (mitM_0 B x y).1 k = B.1 k := by
  funext j
  unfold mitM_0 mdpM_0 mfM_0 mfF_0 mfN_0 mdc_0
  dsimp only
  repeat' split
  all_goals simp only [mI_ne _ _ _ _ hk]
  all_goals (try split)
  all_goals simp only [mI_ne _ _ _ _ hk]
theorem fr_ne_1 (A : mx_Mem) (p : Int32) {k : Nat} (hk : k < 9 ∨ 19 < k) : (frM_1 A p).1 k = A.1 k := by
  funext j
  unfold frM_1
  repeat' split
  all_goals first | rfl | rw [mI_ne _ _ _ _ (by omega), mI_ne _ _ _ _ (by omega)]
theorem pa_ne_1 (A : mx_Mem) {k : Nat} (hk : k < 9 ∨ 19 < k) : (paM A 14).1 k = A.1 k := by
  funext j
  unfold paM
  split
  · rfl
  · rw [mI_ne _ _ _ _ (by omega)]
theorem ch_ne_1 (A : mx_Mem) (x y : Int32) {k : Nat} (hk : k < 9 ∨ 19 < k) : (chM A 14 x y).1 k = A.1 k := by
  funext j
  unfold chM
  split
  · unfold exM exN
    rw [mI_ne _ _ _ _ (by omega), mI_ne _ _ _ _ (by omega)]
    split
    · rw [mI_ne _ _ _ _ (by omega), mI_ne _ _ _ _ (by omega), mI_ne _ _ _ _ (by omega)]
    · rw [mI_ne _ _ _ _ (by omega), mI_ne _ _ _ _ (by omega)]
  · rfl
theorem cl_ne_1 (A : mx_Mem) {k : Nat} (hk : k < 9 ∨ 19 < k) : (clM A 14 9 1).1 k = A.1 k := by
  funext j
  unfold clM clN
  repeat' split
  · rw [mI_ne _ _ _ _ (by omega), mI_ne _ _ _ _ (by omega), mI_ne _ _ _ _ (by omega), mI_ne _ _ _ _ (by omega)]
  · rw [mI_ne _ _ _ _ (by omega), mI_ne _ _ _ _ (by omega), mI_ne _ _ _ _ (by omega)]
  · rfl
theorem tn_ne_1 (A : mx_Mem) {k : Nat} (hk : k < 9 ∨ 19 < k) : (tnM A 14).1 k = A.1 k := by
  funext j
  unfold tnM tnO
  dsimp only
  split
  · rw [mI_ne _ _ _ _ (by omega), mI_ne _ _ _ _ (by omega), mI_ne _ _ _ _ (by omega), mI_ne _ _ _ _ (by omega), mI_ne _ _ _ _ (by omega), mI_ne _ _ _ _ (by omega), mI_ne _ _ _ _ (by omega)]
  · rw [mI_ne _ _ _ _ (by omega), mI_ne _ _ _ _ (by omega), mI_ne _ _ _ _ (by omega), mI_ne _ _ _ _ (by omega), mI_ne _ _ _ _ (by omega), mI_ne _ _ _ _ (by omega), mI_ne _ _ _ _ (by omega), mI_ne _ _ _ _ (by omega)]
theorem wr_ne_1 (A : mx_Mem) {k : Nat} (hk : k < 9 ∨ 19 < k) : (wrM A 14 1).1 k = A.1 k := by
  funext j
  unfold wrM wrB wrA csM
  dsimp only
  rw [mI_ne _ _ _ _ (by omega), mI_ne _ _ _ _ (by omega), mI_ne _ _ _ _ (by omega)]
  split
  · rw [mI_ne _ _ _ _ (by omega), mI_ne _ _ _ _ (by omega), mI_ne _ _ _ _ (by omega)]
  · rw [mI_ne _ _ _ _ (by omega), mI_ne _ _ _ _ (by omega), tn_ne_1 _ hk, mI_ne _ _ _ _ (by omega)]
theorem rl_ne_1 (A : mx_Mem) {k : Nat} (hk : k < 9 ∨ 19 < k) : (rlM A 14 9 1).1 k = A.1 k := by
  unfold rlM
  split
  · rfl
  · rw [cl_ne_1 _ hk, wr_ne_1 _ hk]
theorem it_ne_1 (A : mx_Mem) (x y : Int32) {k : Nat} (hk : k < 9 ∨ 19 < k) : (itM_1 A x y).1 k = A.1 k := by
  unfold itM_1
  repeat' split
  · exact pa_ne_1 A hk
  · exact fr_ne_1 A _ hk
  · exact fr_ne_1 A _ hk
  · exact ch_ne_1 A _ _ hk
theorem mpt_ne_1 (B : mx_Mem) (g : Int32) {k : Nat} (hk : k ≠ 52) : (ptM_1 (ptB_1 B) g).1 k = B.1 k := by
  funext j
  have e : ∀ N : mx_Mem, (ptM_1 N g).1 k j = N.1 k j := fun N => by
    unfold ptM_1 ptN_1
    repeat' split
    · rw [mI_ne _ _ _ _ hk, mI_ne _ _ _ _ hk, mI_ne _ _ _ _ hk, mI_ne _ _ _ _ hk, mI_ne _ _ _ _ hk]
    · rw [mI_ne _ _ _ _ hk, mI_ne _ _ _ _ hk, mI_ne _ _ _ _ hk, mI_ne _ _ _ _ hk]
    · rfl
  rw [e]
  unfold ptB_1 ptS_1 ptA_1 mtn_1 mtN_1 mtO_1
  dsimp only
  repeat' split
  all_goals simp only [mI_ne _ _ _ _ hk]
theorem mit_ne_1 (B : mx_Mem) (x y : Int32) {k : Nat} (hk : k ≠ 52) : (mitM_1 B x y).1 k = B.1 k := by
  funext j
  unfold mitM_1 mdpM_1 mfM_1 mfF_1 mfN_1 mdc_1
  dsimp only
  repeat' split
  all_goals simp only [mI_ne _ _ _ _ hk]
  all_goals (try split)
  all_goals simp only [mI_ne _ _ _ _ hk]
theorem di_ne (A : mx_Mem) (p : Int32) {k : Nat} (hk : k < 9 ∨ 19 < k) : (diM A p).1 k = A.1 k := by
  unfold diM
  repeat' split
  · exact rl_ne_0 A hk
  · exact rl_ne_1 A hk
  · exact it_ne_0 A _ _ hk
  · exact it_ne_1 A _ _ hk
theorem mdi_ne (B : mx_Mem) (p : Nat) {k : Nat} (hk : k ≠ 52) : (mdiM B p).1 k = B.1 k := by
  unfold mdiM
  repeat' split
  · exact mpt_ne_0 B _ hk
  · rfl
  · exact mpt_ne_1 B _ hk
  · rfl
  · exact mit_ne_0 B _ _ hk
  · exact mit_ne_1 B _ _ hk

/-! the coupling: a set begins -/
def stW (f : Nat → Int32) : Nat → Nat → Int32
  | 0, _ => 0
  | n + 1, p => if p = (f n).toNatClampNeg then 1 else stW f n p
theorem stW_01 (f : Nat → Int32) : ∀ n p, stW f n p = 0 ∨ stW f n p = 1
  | 0, _ => Or.inl rfl
  | n + 1, p => by
    rw [stW]
    split
    · exact Or.inr rfl
    · exact stW_01 f n p
theorem ss1_23 (M : mx_Mem) (c : Nat) {p : Nat} : ∀ n, p < n → (ss1 M c n).1 (c + 2) p = 0 ∧ (ss1 M c n).1 (c + 3) p = -1
  | 0, h => by omega
  | n + 1, h => by
    rw [ss1, mI_ne _ _ _ _ (show c + 2 ≠ c + 3 by omega), mI_ap, mI_ap, mI_ne _ _ _ _ (show c + 3 ≠ c + 2 by omega)]
    by_cases e : p = n
    · rw [if_pos ⟨rfl, e⟩, if_pos ⟨rfl, e⟩]; exact ⟨rfl, rfl⟩
    · rw [if_neg (by omega), if_neg (by omega)]; exact ss1_23 M c n (by omega)
theorem ss1_n (M : mx_Mem) (c : Nat) {k : Nat} (h1 : k ≠ c + 2) (h2 : k ≠ c + 3) : ∀ n, (ss1 M c n).1 k = M.1 k
  | 0 => rfl
  | n + 1 => by
    funext j
    rw [ss1, mI_ne _ _ _ _ h2, mI_ne _ _ _ _ h1, ss1_n M c h1 h2 n]
theorem ss2_1 (M : mx_Mem) (c : Nat) (f : Nat → Int32) {j : Nat} : ∀ n, j < n → (ss2 M c f n).1 (c + 1) j = f j
  | 0, h => by omega
  | n + 1, h => by
    rw [ss2, mI_ne _ _ _ _ (show c + 1 ≠ c + 2 by omega), mI_ap]
    by_cases e : j = n
    · rw [if_pos ⟨rfl, e⟩, e]
    · rw [if_neg (by omega)]; exact ss2_1 M c f n (by omega)
theorem ss2_2 (M : mx_Mem) (c : Nat) (f : Nat → Int32) {p : Nat} (h : M.1 (c + 2) p = 0) : ∀ n, (ss2 M c f n).1 (c + 2) p = stW f n p
  | 0 => h
  | n + 1 => by
    rw [ss2, mI_ap, mI_ne _ _ _ _ (show c + 2 ≠ c + 1 by omega), stW, ss2_2 M c f h n]
    simp
theorem ss2_n (M : mx_Mem) (c : Nat) (f : Nat → Int32) {k : Nat} (h1 : k ≠ c + 1) (h2 : k ≠ c + 2) : ∀ n, (ss2 M c f n).1 k = M.1 k
  | 0 => rfl
  | n + 1 => by
    funext j
    rw [ss2, mI_ne _ _ _ _ h2, mI_ne _ _ _ _ h1, ss2_n M c f h1 h2 n]
theorem bgS_c (M : mx_Mem) (c s : Nat) : ∀ j, (bgS M c s).1 c j = if j = 4 then M.1 s 2 else if j = 5 then -1 else if j = 6 ∨ j = 7 ∨ j = 9 ∨ j = 10 ∨ j = 11 then 0 else M.1 c j := by
  intro j
  unfold bgS ss3
  simp only [mI_ap]
  rw [ss2_n _ _ _ (by omega) (by omega), ss1_n _ _ (by omega) (by omega)]
  have : j = 4 ∨ j = 5 ∨ j = 6 ∨ j = 7 ∨ j = 9 ∨ j = 10 ∨ j = 11 ∨ (j ≠ 4 ∧ j ≠ 5 ∧ j ≠ 6 ∧ j ≠ 7 ∧ j ≠ 9 ∧ j ≠ 10 ∧ j ≠ 11) := by omega
  rcases this with rfl | rfl | rfl | rfl | rfl | rfl | rfl | ⟨h1, h2, h3, h4, h5, h6, h7⟩
  all_goals simp_all
theorem bgS_i {M : mx_Mem} {c s k : Nat} (h : k ≠ c) (j : Nat) : (bgS M c s).1 k j = (ss2 (ss1 M c 12) c (M.1 (s + 2)) 6).1 k j := by
  unfold bgS ss3
  rw [mI_ne _ _ _ _ h, mI_ne _ _ _ _ h, mI_ne _ _ _ _ h, mI_ne _ _ _ _ h, mI_ne _ _ _ _ h, mI_ne _ _ _ _ h, mI_ne _ _ _ _ h]
theorem bgS_1 (M : mx_Mem) (c s : Nat) : ∀ j, j < 6 → (bgS M c s).1 (c + 1) j = M.1 (s + 2) j := fun j hj => by
  rw [bgS_i (by omega), ss2_1 _ _ _ 6 hj]
theorem bgS_2 (M : mx_Mem) (c s : Nat) : ∀ p, p < 12 → (bgS M c s).1 (c + 2) p = stW (M.1 (s + 2)) 6 p := fun p hp => by
  rw [bgS_i (by omega), ss2_2 _ _ _ (ss1_23 M c 12 hp).1]
theorem bgS_3 (M : mx_Mem) (c s : Nat) : ∀ p, p < 12 → (bgS M c s).1 (c + 3) p = -1 := fun p hp => by
  rw [bgS_i (by omega), ss2_n _ _ _ (by omega) (by omega), (ss1_23 M c 12 hp).2]
theorem bgS_n (M : mx_Mem) (c s : Nat) {k : Nat} (h : k < c ∨ c + 4 ≤ k) : (bgS M c s).1 k = M.1 k := funext fun j => by
  rw [bgS_i (by omega), ss2_n _ _ _ (by omega) (by omega), ss1_n _ _ (by omega) (by omega)]
theorem mb1_at (N : mx_Mem) (b : Nat) (j : Nat) : ∀ n, (mb1 N b n).1 52 j = if b ≤ j ∧ j < b + n then 0 else N.1 52 j
  | 0 => by rw [if_neg (by omega)]; rfl
  | n + 1 => by
    rw [mb1, mI_ap, mb1_at N b j n]
    by_cases e : j = b + n
    · rw [if_pos ⟨rfl, e⟩, if_pos (by omega)]
    · rw [if_neg (by omega)]
      by_cases e2 : b ≤ j ∧ j < b + n
      · rw [if_pos e2, if_pos (by omega)]
      · rw [if_neg e2, if_neg (by omega)]
theorem mb3_at (N : mx_Mem) (b : Nat) (j : Nat) : ∀ n, n ≤ 12 → (mb3 N b n).1 52 j = if b + 14 ≤ j ∧ j < b + 14 + n then 0 else if b + 26 ≤ j ∧ j < b + 26 + n then -1 else N.1 52 j
  | 0, _ => by rw [if_neg (by omega), if_neg (by omega)]; rfl
  | n + 1, h => by
    rw [mb3, mI_ap, mI_ap, mb3_at N b j n (by omega)]
    by_cases e : j = b + (26 + n)
    · rw [if_pos ⟨rfl, e⟩, if_neg (by omega), if_pos (by omega)]
    · rw [if_neg (by omega)]
      by_cases e1 : j = b + (14 + n)
      · rw [if_pos ⟨rfl, e1⟩, if_pos (by omega)]
      · rw [if_neg (by omega)]
        by_cases e2 : b + 14 ≤ j ∧ j < b + 14 + n
        · rw [if_pos e2, if_pos (by omega)]
        · rw [if_neg e2, if_neg (show ¬ (b + 14 ≤ j ∧ j < b + 14 + (n + 1)) by omega)]
          by_cases e3 : b + 26 ≤ j ∧ j < b + 26 + n
          · rw [if_pos e3, if_pos (by omega)]
          · rw [if_neg e3, if_neg (by omega)]
theorem mb4_p (N : mx_Mem) (b : Nat) (f : Nat → Int32) (hf : ∀ k, k < 6 → isP (f k)) {j : Nat} : ∀ n, n ≤ 6 → j < n → (mb4 N b f n).1 52 (b + 8 + j) = f j
  | 0, _, h => by omega
  | n + 1, hn, h => by
    obtain ⟨q, hq, e⟩ := isP_n (hf n (by omega))
    rw [mb4, e, nI_clamp (by omega), mI_nj _ _ _ (by omega), mI_ap]
    by_cases e2 : j = n
    · rw [if_pos ⟨rfl, by omega⟩, e2, e]
    · rw [if_neg (by omega)]; exact mb4_p N b f hf n (by omega) (by omega)
theorem mb4_s (N : mx_Mem) (b : Nat) (f : Nat → Int32) (hf : ∀ k, k < 6 → isP (f k)) {p : Nat} (hp : p < 12) (h : N.1 52 (p + (b + 14)) = 0) : ∀ n, n ≤ 6 → (mb4 N b f n).1 52 (p + (b + 14)) = stW f n p
  | 0, _ => h
  | n + 1, hn => by
    obtain ⟨q, hq, e⟩ := isP_n (hf n (by omega))
    rw [mb4, stW, mI_ap, mI_nj _ _ _ (by omega), mb4_s N b f hf hp h n (by omega)]
    by_cases e2 : p = (f n).toNatClampNeg
    · rw [if_pos ⟨rfl, by omega⟩, if_pos e2]
    · rw [if_neg (by omega), if_neg e2]
theorem mb4_n (N : mx_Mem) (b : Nat) (f : Nat → Int32) (hf : ∀ k, k < 6 → isP (f k)) {j : Nat} (hj : j < b + 8 ∨ b + 26 ≤ j) : ∀ n, n ≤ 6 → (mb4 N b f n).1 52 j = N.1 52 j
  | 0, _ => rfl
  | n + 1, hn => by
    obtain ⟨q, hq, e⟩ := isP_n (hf n (by omega))
    rw [mb4, e, nI_clamp (by omega), mI_nj _ _ _ (by omega), mI_nj _ _ _ (by omega)]
    exact mb4_n N b f hf hj n (by omega)
/-- a team's part of w when a set begins -/
theorem mbX_at (N : mx_Mem) (b x : Nat) (hf : ∀ k, k < 6 → isP (N.1 50 (6 * x + k))) : (∀ j, b ≤ j → j < b + 8 → (mbX N b x).1 52 j = if j = b + 1 then N.1 52 (b + 1) else if j = b + 4 then -1 else 0) ∧ (∀ j, j < 6 → (mbX N b x).1 52 (b + 8 + j) = N.1 50 (6 * x + j)) ∧ (∀ p, p < 12 → (mbX N b x).1 52 (p + (b + 14)) = stW (fun k => N.1 50 (6 * x + k)) 6 p ∧ (mbX N b x).1 52 (p + (b + 26)) = -1) ∧ (∀ j, j < b ∨ b + 38 ≤ j → (mbX N b x).1 52 j = N.1 52 j) ∧ ((mbX N b x).1 51 x = 0 ∧ ∀ j, j ≠ x → (mbX N b x).1 51 j = N.1 51 j) ∧ ∀ k, k ≠ 51 → k ≠ 52 → (mbX N b x).1 k = N.1 k := by
  have m2 : ∀ j, (mb2 N b).1 52 j = if j = b + 4 then -1 else if j = b + 1 then N.1 52 (b + 1) else if b ≤ j ∧ j < b + 14 then 0 else N.1 52 j := fun j => by
    unfold mb2
    rw [mI_ap, mI_ap, mb1_at]
    simp
  have e0 : ∀ j, (mbX N b x).1 52 j = (mb4 (mb3 (mb2 N b) b 12) b (fun k => N.1 50 (6 * x + k)) 6).1 52 j := fun j => by
    unfold mbX
    rw [mI_ne _ _ _ _ (by decide)]
  refine ⟨fun j h1 h2 => ?_, fun j hj => ?_, fun p hp => ⟨?_, ?_⟩, fun j hj => ?_, ⟨?_, fun j hj => ?_⟩, fun k h1 h2 => ?_⟩
  · rw [e0, mb4_n _ _ _ hf (by omega) 6 (by omega), mb3_at _ _ _ 12 (by omega), if_neg (by omega), if_neg (by omega), m2]
    by_cases c1 : j = b + 1
    · rw [if_neg (by omega), if_pos c1, if_pos c1]
    · by_cases c4 : j = b + 4
      · rw [if_pos c4, if_neg c1, if_pos c4]
      · rw [if_neg c4, if_neg c1, if_pos (by omega), if_neg c1, if_neg c4]
  · rw [e0, mb4_p _ _ _ hf 6 (by omega) hj]
  · rw [e0]
    refine mb4_s _ _ _ hf hp ?_ 6 (by omega)
    rw [mb3_at _ _ _ 12 (by omega), if_pos (by omega)]
  · rw [e0, mb4_n _ _ _ hf (by omega) 6 (by omega), mb3_at _ _ _ 12 (by omega), if_neg (by omega), if_pos (by omega)]
  · rw [e0, mb4_n _ _ _ hf (by omega) 6 (by omega), mb3_at _ _ _ 12 (by omega), if_neg (by omega), if_neg (by omega), m2, if_neg (by omega), if_neg (by omega), if_neg (by omega)]
  · unfold mbX
    rw [mI_self]
  · unfold mbX
    rw [mI_nj _ _ _ hj, mb4_ne _ _ _ (by decide), mb3_ne _ _ (by decide), mb2_ne _ _ (by decide)]
  · funext j
    unfold mbX
    rw [mI_ne _ _ _ _ h1, mb4_ne _ _ _ h2, mb3_ne _ _ h2, mb2_ne _ _ h2]
theorem mst_at (M : mx_Mem) {j : Nat} : ∀ n, j < n → (mst M n).1 54 j = vX6.getD (j % 6) 0 ∧ (mst M n).1 55 j = vY6.getD (j % 6) 0
  | 0, h => by omega
  | n + 1, h => by
    rw [mst, mI_ne _ _ _ _ (show 54 ≠ 55 by decide), mI_ap, mI_ap, mI_ne _ _ _ _ (show 55 ≠ 54 by decide)]
    by_cases e : j = n
    · rw [if_pos ⟨rfl, e⟩, if_pos ⟨rfl, e⟩, e]; exact ⟨rfl, rfl⟩
    · rw [if_neg (by omega), if_neg (by omega)]; exact mst_at M n (by omega)
theorem mst_n (M : mx_Mem) {k : Nat} (h1 : k ≠ 54) (h2 : k ≠ 55) : ∀ n, (mst M n).1 k = M.1 k
  | 0 => rfl
  | n + 1 => by
    funext j
    rw [mst, mI_ne _ _ _ _ h2, mI_ne _ _ _ _ h1, mst_n M h1 h2 n]
theorem stF_at (M : mx_Mem) (s : Nat) : (∀ j, j < 6 → (stF M s).1 (s + 1) j = vX6.getD j 0 ∧ (stF M s).1 (s + 2) j = vY6.getD j 0) ∧ ∀ k, k ≠ s + 1 → k ≠ s + 2 → (stF M s).1 k = M.1 k := by
  unfold stF feX feY
  refine ⟨fun j hj => ⟨?_, ?_⟩, fun k h1 h2 => ?_⟩
  · rw [mR_ne _ _ (by omega), mR_self, cpy_in _ _ hj]
  · rw [mR_self, cpy_in _ _ hj]
  · rw [mR_ne _ _ h2, mR_ne _ _ h1]

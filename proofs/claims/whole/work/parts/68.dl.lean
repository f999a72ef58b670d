/-! the coupling: the loop over a sheet's items, and what is put back -/
theorem cpy_in {α : Type} (f g : Nat → α) {n i : Nat} (h : i < n) : va_cpy f g 0 0 n i = f i := by
  unfold va_cpy
  rw [if_pos ⟨Nat.zero_le _, by omega⟩]
  simp
/-- a court's copy -/
theorem mCo_at (M : mx_Mem) {a b : Nat} : (∀ j, 4 ≤ j → j < 12 → (mCo M a b).1 a j = M.1 b j) ∧ (∀ j, j < 6 → (mCo M a b).1 (a + 1) j = M.1 (b + 1) j) ∧ (∀ j, j < 12 → (mCo M a b).1 (a + 2) j = M.1 (b + 2) j ∧ (mCo M a b).1 (a + 3) j = M.1 (b + 3) j ∧ (mCo M a b).1 (a + 4) j = M.1 (b + 4) j) := by
  have n1 : ∀ i, a + i + 1 ≠ a := fun i => by omega
  refine ⟨fun j h1 h2 => ?_, fun j hj => ?_, fun j hj => ⟨?_, ?_, ?_⟩⟩
  · have : j = 4 ∨ j = 5 ∨ j = 6 ∨ j = 7 ∨ j = 8 ∨ j = 9 ∨ j = 10 ∨ j = 11 := by omega
    unfold mCo
    dsimp only
    rcases this with rfl | rfl | rfl | rfl | rfl | rfl | rfl | rfl <;> simp [mI_ap]
  · unfold mCo
    dsimp only
    rw [mI_ne _ _ _ _ (by omega), mI_ne _ _ _ _ (by omega), mI_ne _ _ _ _ (by omega), mI_ne _ _ _ _ (by omega), mI_ne _ _ _ _ (by omega), mI_ne _ _ _ _ (by omega), mI_ne _ _ _ _ (by omega), mI_ne _ _ _ _ (by omega), mR_ne _ _ (by omega), mR_ne _ _ (by omega), mR_ne _ _ (by omega), mR_self, cpy_in _ _ hj]
  · unfold mCo
    dsimp only
    rw [mI_ne _ _ _ _ (by omega), mI_ne _ _ _ _ (by omega), mI_ne _ _ _ _ (by omega), mI_ne _ _ _ _ (by omega), mI_ne _ _ _ _ (by omega), mI_ne _ _ _ _ (by omega), mI_ne _ _ _ _ (by omega), mI_ne _ _ _ _ (by omega), mR_ne _ _ (by omega), mR_ne _ _ (by omega), mR_self, cpy_in _ _ hj]
  · unfold mCo
    dsimp only
    rw [mI_ne _ _ _ _ (by omega), mI_ne _ _ _ _ (by omega), mI_ne _ _ _ _ (by omega), mI_ne _ _ _ _ (by omega), mI_ne _ _ _ _ (by omega), mI_ne _ _ _ _ (by omega), mI_ne _ _ _ _ (by omega), mI_ne _ _ _ _ (by omega), mR_ne _ _ (by omega), mR_self, cpy_in _ _ hj]
  · unfold mCo
    dsimp only
    rw [mI_ne _ _ _ _ (by omega), mI_ne _ _ _ _ (by omega), mI_ne _ _ _ _ (by omega), mI_ne _ _ _ _ (by omega), mI_ne _ _ _ _ (by omega), mI_ne _ _ _ _ (by omega), mI_ne _ _ _ _ (by omega), mI_ne _ _ _ _ (by omega), mR_self, cpy_in _ _ hj]
theorem mCp7_at (M : mx_Mem) {a b : Nat} : ∀ j, j < 7 → (mCp7 M a b).1 a j = M.1 b j := by
  intro j hj
  have : j = 0 ∨ j = 1 ∨ j = 2 ∨ j = 3 ∨ j = 4 ∨ j = 5 ∨ j = 6 := by omega
  unfold mCp7
  rcases this with rfl | rfl | rfl | rfl | rfl | rfl | rfl <;> simp [mI_ap]
theorem mcy_ne (a b : Nat) (M : mx_Mem) {k : Nat} (h : k ≠ b) : ∀ n, (mcy a b M n).1 k = M.1 k
  | 0 => rfl
  | n + 1 => by
    funext j
    rw [mcy, mI_ne _ _ _ _ h, mcy_ne a b M h n]
theorem mcy_at {a b : Nat} (M : mx_Mem) (h : a ≠ b) {j : Nat} : ∀ n, j < n → (mcy a b M n).1 b j = M.1 a j
  | 0, hj => by omega
  | n + 1, hj => by
    rw [mcy, mI_ap]
    by_cases e : j = n
    · rw [if_pos ⟨rfl, e⟩, mcy_ne a b M h, e]
    · rw [if_neg (by omega), mcy_at M h n (by omega)]
/-- what is saved of A in N; of B in M -/
def SV (A N : mx_Mem) : Prop := (∀ k, k < 9 ∨ (31 ≤ k ∧ k < 39) → N.1 k = A.1 k) ∧ (∀ j, 4 ≤ j → j < 12 → N.1 20 j = A.1 9 j ∧ N.1 25 j = A.1 14 j) ∧ (∀ j, j < 6 → N.1 21 j = A.1 10 j ∧ N.1 26 j = A.1 15 j) ∧ (∀ j, j < 12 → (N.1 22 j = A.1 11 j ∧ N.1 23 j = A.1 12 j ∧ N.1 24 j = A.1 13 j) ∧ N.1 27 j = A.1 16 j ∧ N.1 28 j = A.1 17 j ∧ N.1 29 j = A.1 18 j) ∧ ∀ j, j < 7 → N.1 30 j = A.1 19 j
def SM (B M : mx_Mem) : Prop := (∀ k, k ≠ 52 → k ≠ 53 → M.1 k = B.1 k) ∧ ∀ j, j < 106 → M.1 53 j = B.1 52 j
theorem SV_sv (A : mx_Mem) : SV A (svM A) := by
  have e1 := mCo_at A (a := 20) (b := 9)
  have e2 := mCo_at (mCo A 20 9) (a := 25) (b := 14)
  have e3 := mCp7_at (mCo (mCo A 20 9) 25 14) (a := 30) (b := 19)
  unfold svM
  refine ⟨fun k hk => ?_, fun j h1 h2 => ⟨?_, ?_⟩, fun j hj => ⟨?_, ?_⟩, fun j hj => ⟨⟨?_, ?_, ?_⟩, ?_, ?_, ?_⟩, fun j hj => ?_⟩
  · rw [mCp7_ne _ (by omega), mCo_ne _ (by omega), mCo_ne _ (by omega)]
  · rw [mCp7_ne _ (by decide), mCo_ne _ (by decide)]; exact e1.1 j h1 h2
  · rw [mCp7_ne _ (by decide)]; exact (e2.1 j h1 h2).trans (by rw [mCo_ne _ (by decide)])
  · rw [mCp7_ne _ (by decide), mCo_ne _ (by decide)]; exact e1.2.1 j hj
  · rw [mCp7_ne _ (by decide)]; exact (e2.2.1 j hj).trans (by rw [mCo_ne _ (by decide)])
  · rw [mCp7_ne _ (by decide), mCo_ne _ (by decide)]; exact (e1.2.2 j hj).1
  · rw [mCp7_ne _ (by decide), mCo_ne _ (by decide)]; exact (e1.2.2 j hj).2.1
  · rw [mCp7_ne _ (by decide), mCo_ne _ (by decide)]; exact (e1.2.2 j hj).2.2
  · rw [mCp7_ne _ (by decide)]; exact (e2.2.2 j hj).1.trans (by rw [mCo_ne _ (by decide)])
  · rw [mCp7_ne _ (by decide)]; exact (e2.2.2 j hj).2.1.trans (by rw [mCo_ne _ (by decide)])
  · rw [mCp7_ne _ (by decide)]; exact (e2.2.2 j hj).2.2.trans (by rw [mCo_ne _ (by decide)])
  · exact (e3 j hj).trans (by rw [mCo_ne _ (by decide), mCo_ne _ (by decide)])
theorem SM_as (B : mx_Mem) : SM B (mcy 52 53 B 106) := ⟨fun k _ h => mcy_ne _ _ _ h 106, fun j hj => mcy_at B (by decide) 106 hj⟩
theorem SV_di {A N : mx_Mem} (h : SV A N) (p : Int32) : SV A (diM N p) := by
  have e : ∀ k, k < 9 ∨ 19 < k → (diM N p).1 k = N.1 k := fun k hk => di_ne N p hk
  unfold SV
  rw [e 20 (by omega), e 21 (by omega), e 22 (by omega), e 23 (by omega), e 24 (by omega), e 25 (by omega), e 26 (by omega), e 27 (by omega), e 28 (by omega), e 29 (by omega), e 30 (by omega)]
  exact ⟨fun k hk => (e k (by omega)).trans (h.1 k hk), h.2⟩
theorem SM_di {B M : mx_Mem} (h : SM B M) (p : Nat) : SM B (mdiM M p) := ⟨fun k h1 h2 => (mdi_ne M p h1).trans (h.1 k h1 h2), fun j hj => by rw [mdi_ne M p (by decide)]; exact h.2 j hj⟩
/-- refused: both are as they were -/
theorem RR_back {n : Nat} {A B N M : mx_Mem} (h : RR n A B) (hN : SV A N) (hM : SM B M) : RR n (rsM N) (mcy 53 52 M 106) := by
  have e1 := mCo_at N (a := 9) (b := 20)
  have e2 := mCo_at (mCo N 9 20) (a := 14) (b := 25)
  have e3 := mCp7_at (mCo (mCo N 9 20) 14 25) (a := 19) (b := 30)
  obtain ⟨s1, s2, s3, s4, s5⟩ := hN
  have o : ∀ k, k < 9 ∨ 19 < k → (rsM N).1 k = N.1 k := fun k hk => by
    unfold rsM
    rw [mCp7_ne _ (by omega), mCo_ne _ (by omega), mCo_ne _ (by omega)]
  have hb := h.2.1.2.1.1.1
  refine RR_cg h (fun k hk => (o k (by omega)).trans (s1 k hk)) (fun j h1 h2 => ⟨?_, ?_⟩) (fun j hj => ⟨?_, ?_⟩) (fun k hk j hj => ?_) (fun j hj => ?_) ⟨?_, ?_, ?_⟩ (fun k hk => (mcy_ne _ _ _ (by omega) 106).trans (hM.1 k (by omega) (by omega))) (fun j hj => by rw [mcy_ne _ _ _ (by decide), hM.1 46 (by decide) (by decide)]) (fun j hj => (mcy_at M (by decide) 106 hj).trans (hM.2 j hj))
  · unfold rsM
    rw [mCp7_ne _ (by decide), mCo_ne _ (by decide)]
    exact (e1.1 j h1 h2).trans (s2 j h1 h2).1
  · unfold rsM
    rw [mCp7_ne _ (by decide)]
    refine (e2.1 j h1 h2).trans ?_
    rw [mCo_ne _ (by decide)]
    exact (s2 j h1 h2).2
  · unfold rsM
    rw [mCp7_ne _ (by decide), mCo_ne _ (by decide)]
    exact (e1.2.1 j hj).trans (s3 j hj).1
  · unfold rsM
    rw [mCp7_ne _ (by decide)]
    refine (e2.2.1 j hj).trans ?_
    rw [mCo_ne _ (by decide)]
    exact (s3 j hj).2
  · have : k = 11 ∨ k = 12 ∨ k = 13 ∨ k = 16 ∨ k = 17 ∨ k = 18 := by omega
    unfold rsM
    rcases this with rfl | rfl | rfl | rfl | rfl | rfl
    · rw [mCp7_ne _ (by decide), mCo_ne _ (by decide)]; exact (e1.2.2 j hj).1.trans (s4 j hj).1.1
    · rw [mCp7_ne _ (by decide), mCo_ne _ (by decide)]; exact (e1.2.2 j hj).2.1.trans (s4 j hj).1.2.1
    · rw [mCp7_ne _ (by decide), mCo_ne _ (by decide)]; exact (e1.2.2 j hj).2.2.trans (s4 j hj).1.2.2
    · rw [mCp7_ne _ (by decide)]
      refine (e2.2.2 j hj).1.trans ?_
      rw [mCo_ne _ (by decide)]; exact (s4 j hj).2.1
    · rw [mCp7_ne _ (by decide)]
      refine (e2.2.2 j hj).2.1.trans ?_
      rw [mCo_ne _ (by decide)]; exact (s4 j hj).2.2.1
    · rw [mCp7_ne _ (by decide)]
      refine (e2.2.2 j hj).2.2.trans ?_
      rw [mCo_ne _ (by decide)]; exact (s4 j hj).2.2.2
  · unfold rsM
    refine (e3 j hj).trans ?_
    rw [mCo_ne _ (by decide), mCo_ne _ (by decide)]
    exact s5 j hj
  · rw [o 30 (by omega), s5 1 (by decide)]; exact hb.1
  · rw [o 20 (by omega), (s2 6 (by decide) (by decide)).1]; exact hb.2.1
  · rw [o 25 (by omega), (s2 6 (by decide) (by decide)).2]; exact hb.2.2
/-- what the model's items rest on -/
theorem RR_MI {n : Nat} {A B : mx_Mem} (hn : n ≤ 1000) (h : RR n A B) : MI B := by
  intro hon
  have ho : A.1 19 1 = 1 := h.1.1.2.1.1.2.1.trans hon
  have hO := h.2.1.2.1.2.2.1
  have key : ∀ x y : Int32, x = y → ¬ x = -1 → ¬ y = -1 := fun x y e h => by rw [← e]; exact h
  refine ⟨⟨?_, ?_⟩, ?_, ?_⟩
  · rcases plE_0 h hn ho with ⟨-, -, e3⟩ | ⟨f, hf, -, e4, -, -, -, e8⟩
    · rw [show B.1 52 14 = A.1 10 0 from e3 0 (by decide)]; exact (hO 0 (by decide)).1
    · rw [show B.1 52 14 = A.1 10 0 from e8 0 (by decide) (by omega)]; exact (hO 0 (by decide)).1
  · rcases plE_1 h hn ho with ⟨-, -, e3⟩ | ⟨f, hf, -, e4, -, -, -, e8⟩
    · rw [show B.1 52 64 = A.1 15 0 from e3 0 (by decide)]; exact (hO 0 (by decide)).2
    · rw [show B.1 52 64 = A.1 15 0 from e8 0 (by decide) (by omega)]; exact (hO 0 (by decide)).2
  · intro hf
    have hz := plZ_0 h hn ho
    have q : A.1 9 4 = B.1 48 0 := (h.2.2 ho).1.1.2.1.1.trans h.1.1.1.2.1.1.1
    rw [← q, hz]
    intro e
    exact hf (by rw [h.1.2.1.2.2.1, if_pos e])
  · intro hf
    have hz := plZ_1 h hn ho
    have q : A.1 14 4 = B.1 48 1 := (h.2.2 ho).1.2.2.1.1.trans h.1.1.1.2.1.1.2
    rw [← q, hz]
    intro e
    exact hf (by rw [h.1.2.2.2.2.1, if_pos e])

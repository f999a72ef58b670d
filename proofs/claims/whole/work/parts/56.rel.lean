/-! THE COUPLING: class cells of A, model cells of B -/
abbrev sgR (x y : Int32) : Prop := (0 ≤ x ∧ ¬ 128 ≤ x ∧ y = x) ∨ (128 ≤ x ∧ x ≤ 255 ∧ ¬ 0 ≤ y)
abbrev isL (x : Int32) : Prop := x = -1 ∨ isP x
abbrev isF (x : Int32) : Prop := x = -1 ∨ x = 4 ∨ x = 5
def ES (A B : mx_Mem) : Prop := ((∀ j, j < 6 → A.1 2 j = B.1 49 j) ∧ (∀ j, j < 48 → A.1 4 j = B.1 47 j ∧ A.1 7 j = B.1 47 (48 + j))) ∧ ((A.1 3 2 = B.1 48 0 ∧ A.1 6 2 = B.1 48 1) ∧ (A.1 3 3 = B.1 51 0 ∧ A.1 6 3 = B.1 51 1)) ∧ (∀ k, k < 6 → A.1 5 k = B.1 50 k ∧ A.1 8 k = B.1 50 (6 + k)) ∧ (A.1 37 1 = B.1 46 10 ∧ ∀ j, j < 100 → sgR (A.1 38 j) (B.1 56 j)) ∧ (A.1 0 13 = B.1 46 12 ∧ A.1 0 14 = B.1 46 11)
def EK (A B : mx_Mem) : Prop := (A.1 19 0 = B.1 52 0 ∧ A.1 19 1 = B.1 52 1 ∧ A.1 19 4 = B.1 52 3 ∧ A.1 19 6 = B.1 52 4 ∧ A.1 19 5 = B.1 52 5) ∧ (B.1 52 2 = if A.1 19 1 = 1 then A.1 19 2 else -1) ∧ (B.1 52 11 = if A.1 19 2 = 0 then A.1 19 3 else 0) ∧ (B.1 52 61 = if A.1 19 2 = 1 then A.1 19 3 else 0)
def EF (A B : mx_Mem) : Prop := A.1 19 1 = 1 → ∀ k, k < 6 → (A.1 32 k = B.1 54 k ∧ A.1 33 k = B.1 55 k) ∧ A.1 35 k = B.1 54 (6 + k) ∧ A.1 36 k = B.1 55 (6 + k)
def EN_0 (A B : mx_Mem) : Prop := (A.1 9 7 = B.1 52 6 ∧ A.1 9 8 = B.1 52 7 ∧ A.1 9 9 = B.1 52 8) ∧ A.1 9 10 = B.1 52 9 ∧ A.1 9 11 = B.1 52 12 ∧ A.1 9 6 = B.1 52 13
def EA_0 (A B : mx_Mem) : Prop := ∀ p, p < 12 → A.1 11 p = B.1 52 (p + 20) ∧ A.1 13 p = B.1 52 (p + 44) ∧ (A.1 11 p = 3 → A.1 12 p = B.1 52 (p + 32))
def EP_0 (A B : mx_Mem) : Prop := (B.1 52 10 = if A.1 9 5 = -1 then -1 else A.1 10 (A.1 9 5).toNatClampNeg) ∧ (¬ A.1 19 0 = -1 → ∀ k, k < 6 → B.1 52 (14 + k) = if A.1 9 5 = nI k then A.1 9 4 else A.1 10 k)
def IT_0 (A : mx_Mem) : Prop := ((∀ i, i < 6 → ∀ j, j < 6 → A.1 10 i = A.1 10 j → i = j) ∧ ∀ k, k < 6 → ¬ A.1 10 k = A.1 9 4) ∧ (A.1 9 4 = A.1 3 2 ∧ (A.1 9 5 = -1 ∨ ¬ A.1 9 4 = -1)) ∧ ∀ p, p < 12 → A.1 11 p = 3 → ∃ q, q < 12 ∧ A.1 12 p = nI q ∧ A.1 11 q = 2 ∧ ∀ p', p' < 12 → A.1 11 p' = 3 → A.1 12 p' = nI q → p' = p
def EN_1 (A B : mx_Mem) : Prop := (A.1 14 7 = B.1 52 56 ∧ A.1 14 8 = B.1 52 57 ∧ A.1 14 9 = B.1 52 58) ∧ A.1 14 10 = B.1 52 59 ∧ A.1 14 11 = B.1 52 62 ∧ A.1 14 6 = B.1 52 63
def EA_1 (A B : mx_Mem) : Prop := ∀ p, p < 12 → A.1 16 p = B.1 52 (p + 70) ∧ A.1 18 p = B.1 52 (p + 94) ∧ (A.1 16 p = 3 → A.1 17 p = B.1 52 (p + 82))
def EP_1 (A B : mx_Mem) : Prop := (B.1 52 60 = if A.1 14 5 = -1 then -1 else A.1 15 (A.1 14 5).toNatClampNeg) ∧ (¬ A.1 19 0 = -1 → ∀ k, k < 6 → B.1 52 (64 + k) = if A.1 14 5 = nI k then A.1 14 4 else A.1 15 k)
def IT_1 (A : mx_Mem) : Prop := ((∀ i, i < 6 → ∀ j, j < 6 → A.1 15 i = A.1 15 j → i = j) ∧ ∀ k, k < 6 → ¬ A.1 15 k = A.1 14 4) ∧ (A.1 14 4 = A.1 6 2 ∧ (A.1 14 5 = -1 ∨ ¬ A.1 14 4 = -1)) ∧ ∀ p, p < 12 → A.1 16 p = 3 → ∃ q, q < 12 ∧ A.1 17 p = nI q ∧ A.1 16 q = 2 ∧ ∀ p', p' < 12 → A.1 16 p' = 3 → A.1 17 p' = nI q → p' = p
def IN (A : mx_Mem) : Prop := ∃ g cap la st : Nat, (A.1 2 0 = nI g ∧ A.1 2 1 = nI cap ∧ A.1 2 2 = nI la ∧ A.1 2 3 = nI st) ∧ (5 ≤ g ∧ g ≤ 25) ∧ (5 ≤ cap ∧ cap ≤ 30) ∧ (5 ≤ la ∧ la ≤ 25) ∧ (1 ≤ st ∧ st ≤ 3)
def IB (A : mx_Mem) : Prop := ((isB (A.1 19 1) ∧ isB (A.1 9 6) ∧ isB (A.1 14 6)) ∧ (isB (A.1 30 1) ∧ isB (A.1 20 6) ∧ isB (A.1 25 6)) ∧ (isF (A.1 9 5) ∧ isF (A.1 14 5))) ∧ ((isB (A.1 3 3) ∧ isB (A.1 6 3)) ∧ (isL (A.1 3 2) ∧ isL (A.1 6 2))) ∧ (∀ k, k < 6 → isP (A.1 10 k) ∧ isP (A.1 15 k)) ∧ ((A.1 3 3 = 1 → (∀ k, k < 6 → isP (A.1 5 k)) ∧ ∀ i, i < 6 → ∀ j, j < 6 → A.1 5 i = A.1 5 j → i = j) ∧ (A.1 6 3 = 1 → (∀ k, k < 6 → isP (A.1 8 k)) ∧ ∀ i, i < 6 → ∀ j, j < 6 → A.1 8 i = A.1 8 j → i = j)) ∧ (A.1 19 1 = 1 → A.1 3 3 = 0 ∧ A.1 6 3 = 0) ∧ (∃ n : Nat, n ≤ 100 ∧ A.1 37 1 = nI n) ∧ isB (A.1 0 13)
def IP (n : Nat) (A : mx_Mem) : Prop := ∃ k : Nat, k ≤ n ∧ A.1 19 0 + 1 = nI k ∧ (A.1 19 1 = 1 → 1 ≤ k)
def IPt (φ : Prop) (A : mx_Mem) : Prop := ∃ p0 p1 st cap : Nat, (A.1 9 7 = nI p0 ∧ A.1 14 7 = nI p1 ∧ A.1 19 3 = nI st ∧ A.1 2 1 = nI cap) ∧ (p0 < cap ∧ p1 < cap ∧ cap ≤ 30) ∧ ((A.1 19 2 = 0 ∧ (φ → st ≤ p0)) ∨ (A.1 19 2 = 1 ∧ (φ → st ≤ p1)))
def IQ (φ : Prop) (A : mx_Mem) : Prop := A.1 19 1 = 1 → (IT_0 A ∧ IT_1 A) ∧ IPt φ A
def RE (A B : mx_Mem) : Prop := (ES A B ∧ EK A B ∧ EF A B) ∧ (EN_0 A B ∧ EA_0 A B ∧ EP_0 A B) ∧ EN_1 A B ∧ EA_1 A B ∧ EP_1 A B
def RI (φ : Prop) (n : Nat) (A : mx_Mem) : Prop := (IN A ∧ IB A ∧ IP n A) ∧ IQ φ A
/-- φ: where the streak is bounded by the points -/
def RG (φ : Prop) (n : Nat) (A B : mx_Mem) : Prop := RE A B ∧ RI φ n A
abbrev RR (n : Nat) (A B : mx_Mem) : Prop := RG True n A B
theorem isB_ne {x : Int32} (h : isB x) : ¬ x = 0 ↔ x = 1 := by
  rcases h with rfl | rfl <;> decide
theorem isB_n1 {x : Int32} (h : isB x) : ¬ x = 1 ↔ x = 0 := by
  rcases h with rfl | rfl <;> decide
theorem isP_m1 {x : Int32} (h : isP x) : ¬ x = -1 := by
  rintro rfl
  exact absurd h.1 (by decide)
theorem RR_nn {φ : Prop} {n : Nat} {A B : mx_Mem} (h : RG φ n A B) (hn : n ≤ 1000) (ho : A.1 19 1 = 1) : ¬ A.1 19 0 = -1 := by
  obtain ⟨k, h1, h2, h3⟩ := h.2.1.2.2
  intro e
  have h4 := h3 ho
  rw [e] at h2
  have h5 : nI k = nI 0 := by rw [← h2]; rfl
  have := (nI_eq (by omega) (by decide)).mp h5
  omega
theorem plc_c {f : Nat → Int32} (x : Int32) : (plc f x = -1 ∧ ∀ k, k < 6 → ¬ f k = x) ∨ ∃ k, k < 6 ∧ plc f x = nI k ∧ f k = x := by
  by_cases h : plc f x = -1
  · exact Or.inl ⟨h, plc_no h⟩
  · obtain ⟨k, hk, e⟩ := vp_in_of (plc_in _ _ h) (by decide)
    refine Or.inr ⟨k, hk, e, ?_⟩
    have : k = 0 ∨ k = 1 ∨ k = 2 ∨ k = 3 ∨ k = 4 ∨ k = 5 := by omega
    unfold plc at e
    rcases this with rfl | rfl | rfl | rfl | rfl | rfl <;> (repeat' split at e) <;> first | assumption | exact absurd e (by decide)
theorem plc_congr {f g : Nat → Int32} (h : ∀ k, k < 6 → f k = g k) (x : Int32) : plc f x = plc g x := by
  unfold plc
  rw [h 0 (by decide), h 1 (by decide), h 2 (by decide), h 3 (by decide), h 4 (by decide), h 5 (by decide)]
theorem plc_at {f : Nat → Int32} {x : Int32} {k : Nat} (hk : k < 6) (h : f k = x) (hd : ∀ j, j < 6 → f j = x → j = k) : plc f x = nI k := by
  rcases plc_c (f := f) x with ⟨-, h1⟩ | ⟨j, hj, e, h2⟩
  · exact absurd h (h1 k hk)
  · rw [e, hd j hj h2]
theorem plc_none {f : Nat → Int32} {x : Int32} (h : ∀ j, j < 6 → ¬ f j = x) : plc f x = -1 := by
  rcases plc_c (f := f) x with ⟨h1, -⟩ | ⟨j, hj, e, h2⟩
  · exact h1
  · exact absurd h2 (h j hj)
theorem nI_m1 {k : Nat} (h : k < 2000) : ¬ nI k = -1 := by
  intro e
  have h1 : (nI k).toInt = (-1 : Int32).toInt := by rw [e]
  rw [nI_toInt (by omega)] at h1
  have h2 : (-1 : Int32).toInt = -1 := rfl
  omega
theorem nI_k {j k : Nat} (hj : j < 2000) (hk : k < 2000) : nI j = nI k ↔ j = k := nI_eq (by omega) (by omega)
/-- the places of both, while a set is on -/
theorem plE_0 {φ : Prop} {n : Nat} {A B : mx_Mem} (h : RG φ n A B) (hn : n ≤ 1000) (ho : A.1 19 1 = 1) : (A.1 9 5 = -1 ∧ B.1 52 10 = -1 ∧ ∀ k, k < 6 → mpl_0 B k = A.1 10 k) ∨ (∃ f, f < 6 ∧ A.1 9 5 = nI f ∧ (f = 4 ∨ f = 5) ∧ isP (A.1 9 4) ∧ B.1 52 10 = A.1 10 f ∧ mpl_0 B f = A.1 9 4 ∧ ∀ k, k < 6 → ¬ k = f → mpl_0 B k = A.1 10 k) := by
  have hnn := RR_nn h hn ho
  have hP : EP_0 A B := by first | exact h.1.2.1.2.2 | exact h.1.2.2.2.2
  have hF : isF (A.1 9 5) := by first | exact h.2.1.2.1.1.2.2.1 | exact h.2.1.2.1.1.2.2.2
  have hT : IT_0 A := by first | exact (h.2.2 ho).1.1 | exact (h.2.2 ho).1.2
  have hLb : isL (A.1 3 2) := by first | exact h.2.1.2.1.2.1.2.1 | exact h.2.1.2.1.2.1.2.2
  obtain ⟨h1, h2⟩ := hP
  have h2 := h2 hnn
  unfold mpl_0
  have key : ∀ f, f < 6 → (f = 4 ∨ f = 5) → A.1 9 5 = nI f → (∃ f, f < 6 ∧ A.1 9 5 = nI f ∧ (f = 4 ∨ f = 5) ∧ isP (A.1 9 4) ∧ B.1 52 10 = A.1 10 f ∧ B.1 52 (14 + f) = A.1 9 4 ∧ ∀ k, k < 6 → ¬ k = f → B.1 52 (14 + k) = A.1 10 k) := by
    intro f hf hf2 e
    rw [e, if_neg (nI_m1 (by omega)), nI_clamp (by omega)] at h1
    have hz : ¬ A.1 9 4 = -1 := hT.2.1.2.resolve_left (by rw [e]; exact nI_m1 (by omega))
    refine ⟨f, hf, e, hf2, ?_, h1, ?_, fun k hk hne => ?_⟩
    · rw [hT.2.1.1] at hz ⊢; exact hLb.resolve_left hz
    · rw [h2 f hf, if_pos e]
    · rw [h2 k hk, if_neg]
      rw [e, nI_k (by omega) (by omega)]
      omega
  rcases hF with e | e | e
  · left
    rw [e, if_pos rfl] at h1
    refine ⟨e, h1, fun k hk => ?_⟩
    rw [h2 k hk, if_neg]
    rw [e]
    exact fun q => nI_m1 (by omega) q.symm
  · right; exact key 4 (by decide) (Or.inl rfl) e
  · right; exact key 5 (by decide) (Or.inr rfl) e
/-- who stands where: a player out of the order -/
theorem plO_0 {φ : Prop} {n : Nat} {A B : mx_Mem} (h : RG φ n A B) (hn : n ≤ 1000) (ho : A.1 19 1 = 1) (x : Int32) (hx : ¬ x = A.1 9 4) : plc (mpl_0 B) x = if plc (A.1 10) x = A.1 9 5 then -1 else plc (A.1 10) x := by
  have hT : IT_0 A := by first | exact (h.2.2 ho).1.1 | exact (h.2.2 ho).1.2
  rcases plE_0 h hn ho with ⟨e1, e2, e3⟩ | ⟨f, hf, e1, e4, e5, e6, e7, e8⟩
  · rw [plc_congr e3, e1]
    split
    · assumption
    · rfl
  · rw [e1]
    rcases plc_c (f := A.1 10) x with ⟨q1, q2⟩ | ⟨k, hk, q1, q2⟩
    · rw [q1, if_neg (fun q => nI_m1 (by omega) q.symm)]
      refine plc_none (fun j hj => ?_)
      by_cases hj2 : j = f
      · subst hj2; rw [e7]; exact fun q => hx q.symm
      · rw [e8 j hj hj2]; exact q2 j hj
    · by_cases hkf : k = f
      · subst hkf
        rw [q1, if_pos rfl]
        refine plc_none (fun j hj => ?_)
        by_cases hj2 : j = k
        · subst hj2; rw [e7]; exact fun q => hx q.symm
        · rw [e8 j hj hj2, ← q2]
          exact fun q => hj2 (hT.1.1 j hj k hk q)
      · rw [q1, if_neg (by rw [nI_k (by omega) (by omega)]; exact hkf)]
        refine plc_at hk (by rw [e8 k hk hkf]; exact q2) (fun j hj q => ?_)
        by_cases hj2 : j = f
        · subst hj2; rw [e7] at q; exact absurd q.symm hx
        · rw [e8 j hj hj2, ← q2] at q
          exact hT.1.1 j hj k hk q
theorem plZ_0 {φ : Prop} {n : Nat} {A B : mx_Mem} (h : RG φ n A B) (hn : n ≤ 1000) (ho : A.1 19 1 = 1) : plc (mpl_0 B) (A.1 9 4) = A.1 9 5 := by
  have hT : IT_0 A := by first | exact (h.2.2 ho).1.1 | exact (h.2.2 ho).1.2
  rcases plE_0 h hn ho with ⟨e1, e2, e3⟩ | ⟨f, hf, e1, e4, e5, e6, e7, e8⟩
  · rw [e1]
    exact plc_none (fun j hj => by rw [e3 j hj]; exact hT.1.2 j hj)
  · rw [e1]
    refine plc_at hf e7 (fun j hj q => ?_)
    by_cases hj2 : j = f
    · exact hj2
    · rw [e8 j hj hj2] at q
      exact absurd q (hT.1.2 j hj)
/-- the places of both, while a set is on -/
theorem plE_1 {φ : Prop} {n : Nat} {A B : mx_Mem} (h : RG φ n A B) (hn : n ≤ 1000) (ho : A.1 19 1 = 1) : (A.1 14 5 = -1 ∧ B.1 52 60 = -1 ∧ ∀ k, k < 6 → mpl_1 B k = A.1 15 k) ∨ (∃ f, f < 6 ∧ A.1 14 5 = nI f ∧ (f = 4 ∨ f = 5) ∧ isP (A.1 14 4) ∧ B.1 52 60 = A.1 15 f ∧ mpl_1 B f = A.1 14 4 ∧ ∀ k, k < 6 → ¬ k = f → mpl_1 B k = A.1 15 k) := by
  have hnn := RR_nn h hn ho
  have hP : EP_1 A B := by first | exact h.1.2.1.2.2 | exact h.1.2.2.2.2
  have hF : isF (A.1 14 5) := by first | exact h.2.1.2.1.1.2.2.1 | exact h.2.1.2.1.1.2.2.2
  have hT : IT_1 A := by first | exact (h.2.2 ho).1.1 | exact (h.2.2 ho).1.2
  have hLb : isL (A.1 6 2) := by first | exact h.2.1.2.1.2.1.2.1 | exact h.2.1.2.1.2.1.2.2
  obtain ⟨h1, h2⟩ := hP
  have h2 := h2 hnn
  unfold mpl_1
  have key : ∀ f, f < 6 → (f = 4 ∨ f = 5) → A.1 14 5 = nI f → (∃ f, f < 6 ∧ A.1 14 5 = nI f ∧ (f = 4 ∨ f = 5) ∧ isP (A.1 14 4) ∧ B.1 52 60 = A.1 15 f ∧ B.1 52 (64 + f) = A.1 14 4 ∧ ∀ k, k < 6 → ¬ k = f → B.1 52 (64 + k) = A.1 15 k) := by
    intro f hf hf2 e
    rw [e, if_neg (nI_m1 (by omega)), nI_clamp (by omega)] at h1
    have hz : ¬ A.1 14 4 = -1 := hT.2.1.2.resolve_left (by rw [e]; exact nI_m1 (by omega))
    refine ⟨f, hf, e, hf2, ?_, h1, ?_, fun k hk hne => ?_⟩
    · rw [hT.2.1.1] at hz ⊢; exact hLb.resolve_left hz
    · rw [h2 f hf, if_pos e]
    · rw [h2 k hk, if_neg]
      rw [e, nI_k (by omega) (by omega)]
      omega
  rcases hF with e | e | e
  · left
    rw [e, if_pos rfl] at h1
    refine ⟨e, h1, fun k hk => ?_⟩
    rw [h2 k hk, if_neg]
    rw [e]
    exact fun q => nI_m1 (by omega) q.symm
  · right; exact key 4 (by decide) (Or.inl rfl) e
  · right; exact key 5 (by decide) (Or.inr rfl) e
/-- who stands where: a player out of the order -/
theorem plO_1 {φ : Prop} {n : Nat} {A B : mx_Mem} (h : RG φ n A B) (hn : n ≤ 1000) (ho : A.1 19 1 = 1) (x : Int32) (hx : ¬ x = A.1 14 4) : plc (mpl_1 B) x = if plc (A.1 15) x = A.1 14 5 then -1 else plc (A.1 15) x := by
  have hT : IT_1 A := by first | exact (h.2.2 ho).1.1 | exact (h.2.2 ho).1.2
  rcases plE_1 h hn ho with ⟨e1, e2, e3⟩ | ⟨f, hf, e1, e4, e5, e6, e7, e8⟩
  · rw [plc_congr e3, e1]
    split
    · assumption
    · rfl
  · rw [e1]
    rcases plc_c (f := A.1 15) x with ⟨q1, q2⟩ | ⟨k, hk, q1, q2⟩
    · rw [q1, if_neg (fun q => nI_m1 (by omega) q.symm)]
      refine plc_none (fun j hj => ?_)
      by_cases hj2 : j = f
      · subst hj2; rw [e7]; exact fun q => hx q.symm
      · rw [e8 j hj hj2]; exact q2 j hj
    · by_cases hkf : k = f
      · subst hkf
        rw [q1, if_pos rfl]
        refine plc_none (fun j hj => ?_)
        by_cases hj2 : j = k
        · subst hj2; rw [e7]; exact fun q => hx q.symm
        · rw [e8 j hj hj2, ← q2]
          exact fun q => hj2 (hT.1.1 j hj k hk q)
      · rw [q1, if_neg (by rw [nI_k (by omega) (by omega)]; exact hkf)]
        refine plc_at hk (by rw [e8 k hk hkf]; exact q2) (fun j hj q => ?_)
        by_cases hj2 : j = f
        · subst hj2; rw [e7] at q; exact absurd q.symm hx
        · rw [e8 j hj hj2, ← q2] at q
          exact hT.1.1 j hj k hk q
theorem plZ_1 {φ : Prop} {n : Nat} {A B : mx_Mem} (h : RG φ n A B) (hn : n ≤ 1000) (ho : A.1 19 1 = 1) : plc (mpl_1 B) (A.1 14 4) = A.1 14 5 := by
  have hT : IT_1 A := by first | exact (h.2.2 ho).1.1 | exact (h.2.2 ho).1.2
  rcases plE_1 h hn ho with ⟨e1, e2, e3⟩ | ⟨f, hf, e1, e4, e5, e6, e7, e8⟩
  · rw [e1]
    exact plc_none (fun j hj => by rw [e3 j hj]; exact hT.1.2 j hj)
  · rw [e1]
    refine plc_at hf e7 (fun j hj q => ?_)
    by_cases hj2 : j = f
    · exact hj2
    · rw [e8 j hj hj2] at q
      exact absurd q (hT.1.2 j hj)

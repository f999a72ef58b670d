/-! the coupling: a set begins -/
theorem bg_iff {n : Nat} {A B : mx_Mem} (h : RR n A B) : bgC A ↔ mbC B := by
  have hon := on_R h
  obtain ⟨-, ⟨⟨s2, s3⟩, s4, s5⟩, s6, -⟩ := h.1.1.1
  have k4 := h.1.1.2.1.1.2.2.2.1
  obtain ⟨b9, b10⟩ := h.2.1.2.1.2.1.1
  have q0 : (∀ k : Nat, k < 6 → A.1 5 k ≠ A.1 3 2) ↔ ¬ ∃ k : Nat, k < 6 ∧ B.1 50 (0 + k) = B.1 48 0 := by
    constructor
    · rintro q ⟨k, hk, e⟩
      rw [Nat.zero_add, ← (s6 k hk).1, ← s2] at e
      exact q k hk e
    · intro q k hk e
      exact q ⟨k, hk, by rw [Nat.zero_add, ← (s6 k hk).1, ← s2]; exact e⟩
  have q1 : (∀ k : Nat, k < 6 → A.1 8 k ≠ A.1 6 2) ↔ ¬ ∃ k : Nat, k < 6 ∧ B.1 50 (6 + k) = B.1 48 1 := by
    constructor
    · rintro q ⟨k, hk, e⟩
      rw [← (s6 k hk).2, ← s3] at e
      exact q k hk e
    · intro q k hk e
      exact q ⟨k, hk, by rw [← (s6 k hk).2, ← s3]; exact e⟩
  unfold bgC mbC
  show ((A.1 19 1 = 0 ∧ A.1 19 6 = -1) ∧ (A.1 3 3 = 1 ∧ ∀ k : Nat, k < 6 → A.1 5 k ≠ A.1 3 2) ∧ A.1 6 3 = 1 ∧ ∀ k : Nat, k < 6 → A.1 8 k ≠ A.1 6 2) ↔ _
  rw [hon, k4, q0, q1, ← isB_ne b9, ← isB_ne b10, s4, s5]
  constructor
  · rintro ⟨a, ⟨b, c⟩, d, e⟩; exact ⟨a, ⟨b, d⟩, c, e⟩
  · rintro ⟨a, ⟨b, d⟩, c, e⟩; exact ⟨a, ⟨b, c⟩, d, e⟩
theorem begin_RR {n : Nat} {A B : mx_Mem} {t : Int32} (ht : isT t) (h : RR n A B) (hb : bgC A) : RR (n + 1) (bgM A t) (mbM B t) ∧ A.1 19 0 + 1 = (mbM B t).1 52 0 := by
  obtain ⟨⟨ho, hw⟩, ⟨t0, r0⟩, t1, r1⟩ := hb
  obtain ⟨⟨⟨hS, hK, -⟩, ⟨n0, a0, -⟩, n1, a1, -⟩, ⟨iN, iB, iP⟩, -⟩ := h
  obtain ⟨⟨⟨b1, b2, b3⟩, ⟨b4, b5, b6⟩, b7, b8⟩, ⟨⟨b9, b10⟩, b11, b12⟩, b13, ⟨b14, b15⟩, b16, b17, b18⟩ := iB
  obtain ⟨p0, d0⟩ := b14 t0
  obtain ⟨p1, d1⟩ := b15 t1
  obtain ⟨⟨s0, s1⟩, ⟨⟨s2, s3⟩, s4, s5⟩, s6, s7, s8⟩ := hS
  -- the class
  have cA : ∃ A1, A1 = mI (mI (bgS (bgS A 9 3) 14 6) 3 3 0) 6 3 0 ∧ bgM A t = coS (stF (stF A1 31) 34) t := ⟨_, rfl, rfl⟩
  obtain ⟨A1, eA1, eA⟩ := cA
  have u9 : ∀ j, A1.1 9 j = if j = 4 then A.1 3 2 else if j = 5 then -1 else if j = 6 ∨ j = 7 ∨ j = 9 ∨ j = 10 ∨ j = 11 then 0 else A.1 9 j := fun j => by
    rw [eA1, mI_ne _ _ _ _ (by decide), mI_ne _ _ _ _ (by decide), bgS_n _ _ _ (by omega), bgS_c]
  have u14 : ∀ j, A1.1 14 j = if j = 4 then A.1 6 2 else if j = 5 then -1 else if j = 6 ∨ j = 7 ∨ j = 9 ∨ j = 10 ∨ j = 11 then 0 else A.1 14 j := fun j => by
    rw [eA1, mI_ne _ _ _ _ (by decide), mI_ne _ _ _ _ (by decide), bgS_c, bgS_n _ _ _ (by omega), bgS_n _ _ _ (by omega)]
  have u10 : ∀ j, j < 6 → A1.1 10 j = A.1 5 j := fun j hj => by
    rw [eA1, mI_ne _ _ _ _ (by decide), mI_ne _ _ _ _ (by decide), bgS_n _ _ _ (by omega)]; exact bgS_1 A 9 3 j hj
  have u15 : ∀ j, j < 6 → A1.1 15 j = A.1 8 j := fun j hj => by
    rw [eA1, mI_ne _ _ _ _ (by decide), mI_ne _ _ _ _ (by decide)]
    refine (bgS_1 _ 14 6 j hj).trans ?_
    rw [bgS_n _ _ _ (by omega)]
  have u11 : ∀ p, p < 12 → A1.1 11 p = stW (A.1 5) 6 p := fun p hp => by
    rw [eA1, mI_ne _ _ _ _ (by decide), mI_ne _ _ _ _ (by decide), bgS_n _ _ _ (by omega)]; exact bgS_2 A 9 3 p hp
  have u16 : ∀ p, p < 12 → A1.1 16 p = stW (A.1 8) 6 p := fun p hp => by
    rw [eA1, mI_ne _ _ _ _ (by decide), mI_ne _ _ _ _ (by decide)]
    refine (bgS_2 _ 14 6 p hp).trans ?_
    rw [bgS_n _ _ _ (by omega)]
  have uo : ∀ k, k < 9 ∨ k = 13 ∨ 18 ≤ k → k ≠ 3 → k ≠ 6 → A1.1 k = A.1 k := fun k hk h3 h6 => funext fun j => by
    rw [eA1, mI_ne _ _ _ _ h6, mI_ne _ _ _ _ h3, bgS_n _ _ _ (by omega), bgS_n _ _ _ (by omega)]
  have u3 : A1.1 3 2 = A.1 3 2 ∧ A1.1 3 3 = 0 ∧ A1.1 6 2 = A.1 6 2 ∧ A1.1 6 3 = 0 := by
    rw [eA1]
    refine ⟨?_, ?_, ?_, ?_⟩
    · rw [mI_ne _ _ _ _ (by decide), mI_nj _ _ _ (by decide), bgS_n _ _ _ (by omega), bgS_n _ _ _ (by omega)]
    · rw [mI_ne _ _ _ _ (by decide), mI_self]
    · rw [mI_nj _ _ _ (by decide), mI_ne _ _ _ _ (by decide), bgS_n _ _ _ (by omega), bgS_n _ _ _ (by omega)]
    · rw [mI_self]
  clear eA1
  have f31 := stF_at A1 31
  have f34 := stF_at (stF A1 31) 34
  have vo : ∀ k, k ≠ 19 → k ≠ 32 → k ≠ 33 → k ≠ 35 → k ≠ 36 → (bgM A t).1 k = A1.1 k := fun k h1 h2 h3 h4 h5 => funext fun j => by
    rw [eA]
    unfold coS
    rw [mI_ne _ _ _ _ h1, mI_ne _ _ _ _ h1, mI_ne _ _ _ _ h1, mI_ne _ _ _ _ h1, mI_ne _ _ _ _ h1, mI_ne _ _ _ _ h1, f34.2 k h4 h5, f31.2 k h2 h3]
  have v19 : ∀ j, (bgM A t).1 19 j = if j = 5 then -1 else if j = 4 then 0 else if j = 3 then 0 else if j = 2 then t else if j = 1 then 1 else if j = 0 then A.1 19 0 + 1 else A.1 19 j := fun j => by
    rw [eA]
    unfold coS
    simp only [mI_ap]
    rw [f34.2 19 (by decide) (by decide), f31.2 19 (by decide) (by decide), uo 19 (by omega) (by decide) (by decide)]
    simp
  have vf : ∀ j, j < 6 → ((bgM A t).1 32 j = vX6.getD j 0 ∧ (bgM A t).1 33 j = vY6.getD j 0) ∧ (bgM A t).1 35 j = vX6.getD j 0 ∧ (bgM A t).1 36 j = vY6.getD j 0 := fun j hj => by
    rw [eA]
    unfold coS
    refine ⟨⟨?_, ?_⟩, ?_, ?_⟩
    · rw [mI_ne _ _ _ _ (by decide), mI_ne _ _ _ _ (by decide), mI_ne _ _ _ _ (by decide), mI_ne _ _ _ _ (by decide), mI_ne _ _ _ _ (by decide), mI_ne _ _ _ _ (by decide), f34.2 32 (by decide) (by decide)]; exact (f31.1 j hj).1
    · rw [mI_ne _ _ _ _ (by decide), mI_ne _ _ _ _ (by decide), mI_ne _ _ _ _ (by decide), mI_ne _ _ _ _ (by decide), mI_ne _ _ _ _ (by decide), mI_ne _ _ _ _ (by decide), f34.2 33 (by decide) (by decide)]; exact (f31.1 j hj).2
    · rw [mI_ne _ _ _ _ (by decide), mI_ne _ _ _ _ (by decide), mI_ne _ _ _ _ (by decide), mI_ne _ _ _ _ (by decide), mI_ne _ _ _ _ (by decide), mI_ne _ _ _ _ (by decide)]; exact (f34.1 j hj).1
    · rw [mI_ne _ _ _ _ (by decide), mI_ne _ _ _ _ (by decide), mI_ne _ _ _ _ (by decide), mI_ne _ _ _ _ (by decide), mI_ne _ _ _ _ (by decide), mI_ne _ _ _ _ (by decide)]; exact (f34.1 j hj).2
  clear f31 f34
  generalize bgM A t = A2 at vo v19 vf eA ⊢
  clear eA
  -- the model
  have m0 : ∀ j, (mbH B t).1 52 j = if j = 5 then -1 else if j = 3 then 0 else if j = 2 then t else if j = 1 then 1 else if j = 0 then B.1 52 0 + 1 else B.1 52 j := fun j => by
    unfold mbH
    simp only [mI_ap]
    simp
  have m1 : ∀ k, k ≠ 46 → k ≠ 52 → (mbH B t).1 k = B.1 k := fun k h1 h2 => funext fun j => by
    unfold mbH
    rw [mI_ne _ _ _ _ h2, mI_ne _ _ _ _ h2, mI_ne _ _ _ _ h2, mI_ne _ _ _ _ h2, mI_ne _ _ _ _ h2, mI_ne _ _ _ _ h1]
  have m46 : ∀ j, j < 13 → (mbH B t).1 46 j = B.1 46 j := fun j hj => by
    unfold mbH
    rw [mI_ne _ _ _ _ (by decide), mI_ne _ _ _ _ (by decide), mI_ne _ _ _ _ (by decide), mI_ne _ _ _ _ (by decide), mI_ne _ _ _ _ (by decide), mI_nj _ _ _ (by omega)]
  have hf0 : ∀ k, k < 6 → isP ((mbH B t).1 50 (6 * 0 + k)) := fun k hk => by
    rw [m1 50 (by decide) (by decide), show 6 * 0 + k = k by omega, ← (s6 k hk).1]; exact p0 k hk
  obtain ⟨x1, x2, x3, x4, ⟨x5, x6⟩, x7⟩ := mbX_at (mbH B t) 6 0 hf0
  have hf1 : ∀ k, k < 6 → isP ((mbX (mbH B t) 6 0).1 50 (6 * 1 + k)) := fun k hk => by
    rw [x7 50 (by decide) (by decide), m1 50 (by decide) (by decide), show 6 * 1 + k = 6 + k by omega, ← (s6 k hk).2]; exact p1 k hk
  obtain ⟨y1, y2, y3, y4, ⟨y5, y6⟩, y7⟩ := mbX_at (mbX (mbH B t) 6 0) 56 1 hf1
  have eB : mbM B t = mst (mbX (mbX (mbH B t) 6 0) 56 1) 12 := rfl
  have wo : ∀ k, k ≠ 46 → k ≠ 51 → k ≠ 52 → k ≠ 54 → k ≠ 55 → (mbM B t).1 k = B.1 k := fun k h1 h2 h3 h4 h5 => by
    rw [eB, mst_n _ h4 h5, y7 k h2 h3, x7 k h2 h3, m1 k h1 h3]
  have w46 : ∀ j, j < 13 → (mbM B t).1 46 j = B.1 46 j := fun j hj => by
    rw [eB, mst_n _ (by decide) (by decide), y7 46 (by decide) (by decide), x7 46 (by decide) (by decide), m46 j hj]
  have w51 : (mbM B t).1 51 0 = 0 ∧ (mbM B t).1 51 1 = 0 := by
    rw [eB, mst_n _ (by decide) (by decide)]
    exact ⟨(y6 0 (by decide)).trans x5, y5⟩
  have wf : ∀ j, j < 12 → (mbM B t).1 54 j = vX6.getD (j % 6) 0 ∧ (mbM B t).1 55 j = vY6.getD (j % 6) 0 := fun j hj => by
    rw [eB]; exact mst_at _ 12 hj
  have w52 : ∀ j, (mbM B t).1 52 j = (mbX (mbX (mbH B t) 6 0) 56 1).1 52 j := fun j => by rw [eB, mst_n _ (by decide) (by decide)]
  have wh : ∀ j, j < 6 → (mbM B t).1 52 j = (mbH B t).1 52 j := fun j hj => by rw [w52, y4 j (by omega), x4 j (by omega)]
  have z1 : ∀ j, 6 ≤ j → j < 14 → (mbM B t).1 52 j = if j = 7 then B.1 52 7 else if j = 10 then -1 else 0 := fun j h1 h2 => by
    rw [w52, y4 j (by omega), x1 j h1 h2, m0]; rfl
  have z2 : ∀ j, j < 6 → (mbM B t).1 52 (14 + j) = A.1 5 j := fun j hj => by
    rw [w52, y4 _ (by omega), (s6 j hj).1]
    refine (x2 j hj).trans ?_
    rw [m1 50 (by decide) (by decide), show 6 * 0 + j = j by omega]
  have sw0 : ∀ m, m ≤ 6 → ∀ p, stW (fun k => (mbH B t).1 50 (6 * 0 + k)) m p = stW (A.1 5) m p := by
    intro m
    induction m with
    | zero => intro _ p; rfl
    | succ m ih =>
      intro hm p
      rw [stW, stW, ih (by omega) p, m1 50 (by decide) (by decide), show 6 * 0 + m = m by omega, ← (s6 m (by omega)).1]
  have z3 : ∀ p, p < 12 → (mbM B t).1 52 (p + 20) = stW (A.1 5) 6 p ∧ (mbM B t).1 52 (p + 32) = -1 := fun p hp => by
    rw [w52, w52, y4 _ (by omega), y4 _ (by omega)]
    exact ⟨(x3 p hp).1.trans (sw0 6 (by omega) p), (x3 p hp).2⟩
  have z4 : ∀ p, p < 12 → (mbM B t).1 52 (p + 44) = B.1 52 (p + 44) := fun p hp => by
    rw [w52, y4 _ (by omega), x4 _ (by omega), m0, if_neg (by omega), if_neg (by omega), if_neg (by omega), if_neg (by omega), if_neg (by omega)]
  have v1 : ∀ j, 56 ≤ j → j < 64 → (mbM B t).1 52 j = if j = 57 then B.1 52 57 else if j = 60 then -1 else 0 := fun j h1 h2 => by
    rw [w52, y1 j h1 (by omega), x4 _ (by omega), m0]; rfl
  have v2 : ∀ j, j < 6 → (mbM B t).1 52 (64 + j) = A.1 8 j := fun j hj => by
    rw [w52, (s6 j hj).2]
    refine (y2 j hj).trans ?_
    rw [x7 50 (by decide) (by decide), m1 50 (by decide) (by decide), show 6 * 1 + j = 6 + j by omega]
  have sw1 : ∀ m, m ≤ 6 → ∀ p, stW (fun k => (mbX (mbH B t) 6 0).1 50 (6 * 1 + k)) m p = stW (A.1 8) m p := by
    intro m
    induction m with
    | zero => intro _ p; rfl
    | succ m ih =>
      intro hm p
      rw [stW, stW, ih (by omega) p, x7 50 (by decide) (by decide), m1 50 (by decide) (by decide), show 6 * 1 + m = 6 + m by omega, ← (s6 m (by omega)).2]
  have v3 : ∀ p, p < 12 → (mbM B t).1 52 (p + 70) = stW (A.1 8) 6 p ∧ (mbM B t).1 52 (p + 82) = -1 := fun p hp => by
    rw [w52, w52]
    exact ⟨(y3 p hp).1.trans (sw1 6 (by omega) p), (y3 p hp).2⟩
  have v4 : ∀ p, p < 12 → (mbM B t).1 52 (p + 94) = B.1 52 (p + 94) := fun p hp => by
    rw [w52, y4 _ (by omega), x4 _ (by omega), m0, if_neg (by omega), if_neg (by omega), if_neg (by omega), if_neg (by omega), if_neg (by omega)]
  have h0 : A.1 19 0 + 1 = (mbM B t).1 52 0 := by
    rw [wh 0 (by decide), m0, hK.1.1]; rfl
  refine ⟨?_, h0⟩
  generalize mbM B t = B2 at wo w46 w51 wf w52 wh z1 z2 z3 z4 v1 v2 v3 v4 h0 eB ⊢
  clear eB w52 x1 x2 x3 x4 x5 x6 x7 y1 y2 y3 y4 y5 y6 y7 sw0 sw1 hf0 hf1
  have c9 : ∀ j, A2.1 9 j = A1.1 9 j := fun j => by rw [vo 9 (by decide) (by decide) (by decide) (by decide) (by decide)]
  have c14 : ∀ j, A2.1 14 j = A1.1 14 j := fun j => by rw [vo 14 (by decide) (by decide) (by decide) (by decide) (by decide)]
  have co : ∀ k, k < 9 ∨ k = 13 ∨ k = 18 ∨ k = 30 ∨ k = 20 ∨ k = 25 ∨ k = 37 ∨ k = 38 → k ≠ 3 → k ≠ 6 → A2.1 k = A.1 k := fun k hk h3 h6 => (vo k (by omega) (by omega) (by omega) (by omega) (by omega)).trans (uo k (by omega) h3 h6)
  have c3 : ∀ j, A2.1 3 j = A1.1 3 j := fun j => by rw [vo 3 (by decide) (by decide) (by decide) (by decide) (by decide)]
  have c6 : ∀ j, A2.1 6 j = A1.1 6 j := fun j => by rw [vo 6 (by decide) (by decide) (by decide) (by decide) (by decide)]
  have on1 : A2.1 19 1 = 1 := by rw [v19]; rfl
  have o10 : ∀ j, j < 6 → A2.1 10 j = A.1 5 j := fun j hj => by rw [vo 10 (by decide) (by decide) (by decide) (by decide) (by decide)]; exact u10 j hj
  have o15 : ∀ j, j < 6 → A2.1 15 j = A.1 8 j := fun j hj => by rw [vo 15 (by decide) (by decide) (by decide) (by decide) (by decide)]; exact u15 j hj
  have o11 : ∀ p, p < 12 → A2.1 11 p = stW (A.1 5) 6 p := fun p hp => by rw [vo 11 (by decide) (by decide) (by decide) (by decide) (by decide)]; exact u11 p hp
  have o16 : ∀ p, p < 12 → A2.1 16 p = stW (A.1 8) 6 p := fun p hp => by rw [vo 16 (by decide) (by decide) (by decide) (by decide) (by decide)]; exact u16 p hp
  have n3 : ∀ (f : Nat → Int32) p, ¬ stW f 6 p = 3 := fun f p q => by
    rcases stW_01 f 6 p with e | e <;> rw [e] at q <;> exact absurd q (by decide)
  obtain ⟨k0, k1, k2, k3⟩ := iP
  have xS : ES A2 B2 := by
    refine ⟨⟨fun j hj => ?_, fun j hj => ?_⟩, ⟨⟨?_, ?_⟩, ?_, ?_⟩, fun k hk => ?_, ⟨?_, fun j hj => ?_⟩, ?_, ?_⟩
    · rw [co 2 (by omega) (by decide) (by decide), wo 49 (by decide) (by decide) (by decide) (by decide) (by decide)]; exact s0 j hj
    · rw [co 4 (by omega) (by decide) (by decide), co 7 (by omega) (by decide) (by decide), wo 47 (by decide) (by decide) (by decide) (by decide) (by decide)]; exact s1 j hj
    · rw [c3, u3.1, wo 48 (by decide) (by decide) (by decide) (by decide) (by decide)]; exact s2
    · rw [c6, u3.2.2.1, wo 48 (by decide) (by decide) (by decide) (by decide) (by decide)]; exact s3
    · rw [c3, u3.2.1, w51.1]
    · rw [c6, u3.2.2.2, w51.2]
    · rw [co 5 (by omega) (by decide) (by decide), co 8 (by omega) (by decide) (by decide), wo 50 (by decide) (by decide) (by decide) (by decide) (by decide)]; exact s6 k hk
    · rw [co 37 (by omega) (by decide) (by decide), w46 10 (by decide)]; exact s7.1
    · rw [co 38 (by omega) (by decide) (by decide), wo 56 (by decide) (by decide) (by decide) (by decide) (by decide)]; exact s7.2 j hj
    · rw [co 0 (by omega) (by decide) (by decide), w46 12 (by decide)]; exact s8.1
    · rw [co 0 (by omega) (by decide) (by decide), w46 11 (by decide)]; exact s8.2
  have xK : EK A2 B2 := by
    refine ⟨⟨?_, ?_, ?_, ?_, ?_⟩, ?_, ?_, ?_⟩
    · rw [v19]; exact h0
    · rw [on1, wh 1 (by decide), m0]; rfl
    · rw [v19, wh 3 (by decide), m0]; rfl
    · rw [v19, wh 4 (by decide), m0]; exact hK.1.2.2.2.1
    · rw [v19, wh 5 (by decide), m0]; rfl
    · rw [on1, if_pos rfl, v19, wh 2 (by decide), m0]; rfl
    · rw [z1 11 (by decide) (by decide), v19, v19]
      show (0 : Int32) = if t = 0 then 0 else 0
      rw [ite_self]
    · rw [v1 61 (by decide) (by decide), v19, v19]
      show (0 : Int32) = if t = 1 then 0 else 0
      rw [ite_self]
  have xF : EF A2 B2 := fun _ k hk => by
    obtain ⟨⟨e1, e2⟩, e3, e4⟩ := vf k hk
    have g1 := wf k (by omega)
    have g2 := wf (6 + k) (by omega)
    rw [show k % 6 = k by omega] at g1
    rw [show (6 + k) % 6 = k by omega] at g2
    rw [e1, e2, e3, e4, g1.1, g1.2, g2.1, g2.2]
    exact ⟨⟨rfl, rfl⟩, rfl, rfl⟩
  have xN0 : EN_0 A2 B2 := by
    obtain ⟨⟨-, q2, -⟩, -⟩ := n0
    refine ⟨⟨?_, ?_, ?_⟩, ?_, ?_, ?_⟩
    · rw [c9, u9, z1 6 (by decide) (by decide)]; rfl
    · rw [c9, u9, z1 7 (by decide) (by decide)]; exact q2
    · rw [c9, u9, z1 8 (by decide) (by decide)]; rfl
    · rw [c9, u9, z1 9 (by decide) (by decide)]; rfl
    · rw [c9, u9, z1 12 (by decide) (by decide)]; rfl
    · rw [c9, u9, z1 13 (by decide) (by decide)]; rfl
  have xN1 : EN_1 A2 B2 := by
    obtain ⟨⟨-, q2, -⟩, -⟩ := n1
    refine ⟨⟨?_, ?_, ?_⟩, ?_, ?_, ?_⟩
    · rw [c14, u14, v1 56 (by decide) (by decide)]; rfl
    · rw [c14, u14, v1 57 (by decide) (by decide)]; exact q2
    · rw [c14, u14, v1 58 (by decide) (by decide)]; rfl
    · rw [c14, u14, v1 59 (by decide) (by decide)]; rfl
    · rw [c14, u14, v1 62 (by decide) (by decide)]; rfl
    · rw [c14, u14, v1 63 (by decide) (by decide)]; rfl
  have xA0 : EA_0 A2 B2 := fun p hp => by
    rw [o11 p hp, (z3 p hp).1, co 13 (by omega) (by decide) (by decide), z4 p hp]
    exact ⟨rfl, (a0 p hp).2.1, fun q => absurd q (n3 _ _)⟩
  have xA1 : EA_1 A2 B2 := fun p hp => by
    rw [o16 p hp, (v3 p hp).1, co 18 (by omega) (by decide) (by decide), v4 p hp]
    exact ⟨rfl, (a1 p hp).2.1, fun q => absurd q (n3 _ _)⟩
  have x95 : A2.1 9 5 = -1 := by rw [c9, u9]; rfl
  have x145 : A2.1 14 5 = -1 := by rw [c14, u14]; rfl
  have x94 : A2.1 9 4 = A.1 3 2 := by rw [c9, u9]; rfl
  have x144 : A2.1 14 4 = A.1 6 2 := by rw [c14, u14]; rfl
  have xP0 : EP_0 A2 B2 := by
    unfold EP_0
    rw [x95]
    refine ⟨by rw [if_pos rfl, z1 10 (by decide) (by decide)]; rfl, fun _ k hk => ?_⟩
    rw [if_neg (show ¬ (-1 : Int32) = nI k from fun q => nI_m1 (k := k) (by omega) q.symm), z2 k hk, o10 k hk]
  have xP1 : EP_1 A2 B2 := by
    unfold EP_1
    rw [x145]
    refine ⟨by rw [if_pos rfl, v1 60 (by decide) (by decide)]; rfl, fun _ k hk => ?_⟩
    rw [if_neg (show ¬ (-1 : Int32) = nI k from fun q => nI_m1 (k := k) (by omega) q.symm), v2 k hk, o15 k hk]
  have xB : IB A2 := by
    unfold IB
    rw [on1, x95, x145, co 30 (by omega) (by decide) (by decide), co 20 (by omega) (by decide) (by decide), co 25 (by omega) (by decide) (by decide), c3, c3, c6, c6, u3.1, u3.2.1, u3.2.2.1, u3.2.2.2, co 37 (by omega) (by decide) (by decide), co 0 (by omega) (by decide) (by decide), c9, u9, c14, u14]
    exact ⟨⟨⟨Or.inr rfl, Or.inl rfl, Or.inl rfl⟩, ⟨b4, b5, b6⟩, Or.inl rfl, Or.inl rfl⟩, ⟨⟨Or.inl rfl, Or.inl rfl⟩, b11, b12⟩, fun k hk => by rw [o10 k hk, o15 k hk]; exact ⟨p0 k hk, p1 k hk⟩, ⟨fun q => absurd q (by decide), fun q => absurd q (by decide)⟩, fun _ => ⟨rfl, rfl⟩, b17, b18⟩
  have xI : IP (n + 1) A2 := ⟨k0 + 1, by omega, by rw [v19]; show A.1 19 0 + 1 + 1 = _; rw [k2, nI_1], fun _ => by omega⟩
  have xT0 : IT_0 A2 := by
    refine ⟨⟨fun i hi j hj => ?_, fun k hk => ?_⟩, ⟨?_, Or.inl x95⟩, fun p hp q => ?_⟩
    · rw [o10 i hi, o10 j hj]; exact d0 i hi j hj
    · rw [o10 k hk, x94]; exact r0 k hk
    · rw [x94, c3, u3.1]
    · rw [o11 p hp] at q; exact absurd q (n3 _ _)
  have xT1 : IT_1 A2 := by
    refine ⟨⟨fun i hi j hj => ?_, fun k hk => ?_⟩, ⟨?_, Or.inl x145⟩, fun p hp q => ?_⟩
    · rw [o15 i hi, o15 j hj]; exact d1 i hi j hj
    · rw [o15 k hk, x144]; exact r1 k hk
    · rw [x144, c6, u3.2.2.1]
    · rw [o16 p hp] at q; exact absurd q (n3 _ _)
  obtain ⟨gg, cap, la, sn, ⟨w0, w1, w2, w3⟩, w4, w5, w6, w7⟩ := iN
  refine ⟨⟨⟨xS, xK, xF⟩, ⟨xN0, xA0, xP0⟩, xN1, xA1, xP1⟩, ⟨IN_cg ⟨gg, cap, la, sn, ⟨w0, w1, w2, w3⟩, w4, w5, w6, w7⟩ (co 2 (by omega) (by decide) (by decide)), xB, xI⟩, fun _ => ⟨⟨xT0, xT1⟩, 0, 0, 0, cap, ⟨?_, ?_, ?_, ?_⟩, ⟨by omega, by omega, by omega⟩, ?_⟩⟩
  · rw [c9, u9]; rfl
  · rw [c14, u14]; rfl
  · rw [v19]; rfl
  · rw [co 2 (by omega) (by decide) (by decide)]; exact w1
  · rcases ht with rfl | rfl
    · exact Or.inl ⟨by rw [v19]; rfl, fun _ => Nat.le_refl _⟩
    · exact Or.inr ⟨by rw [v19]; rfl, fun _ => Nat.le_refl _⟩

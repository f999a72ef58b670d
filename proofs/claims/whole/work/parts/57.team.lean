/-! the coupling: what a team's own call changes -/
theorem ES_cg {A B A' B' : mx_Mem} (h : ES A B) (hA : ∀ k, k < 9 ∨ k = 37 ∨ k = 38 → A'.1 k = A.1 k) (hB : ∀ k, 46 < k → k < 52 ∨ k = 56 → B'.1 k = B.1 k) (hB6 : ∀ j, j < 13 → B'.1 46 j = B.1 46 j) : ES A' B' := by
  unfold ES
  rw [hA 2 (by omega), hA 4 (by omega), hA 7 (by omega), hA 3 (by omega), hA 6 (by omega), hA 5 (by omega), hA 8 (by omega), hA 37 (by omega), hA 38 (by omega), hA 0 (by omega), hB 49 (by omega) (by omega), hB 47 (by omega) (by omega), hB 48 (by omega) (by omega), hB 51 (by omega) (by omega), hB 50 (by omega) (by omega), hB 56 (by omega) (by omega), hB6 10 (by omega), hB6 11 (by omega), hB6 12 (by omega)]
  exact h
theorem EK_cg {A B A' B' : mx_Mem} (h : EK A B) (hA : A'.1 19 = A.1 19) (hB : ∀ j, j < 6 ∨ j = 11 ∨ j = 61 → B'.1 52 j = B.1 52 j) : EK A' B' := by
  unfold EK
  rw [hA, hB 0 (by omega), hB 1 (by omega), hB 3 (by omega), hB 4 (by omega), hB 5 (by omega), hB 2 (by omega), hB 11 (by omega), hB 61 (by omega)]
  exact h
theorem EF_cg {A B A' B' : mx_Mem} (h : EF A B) (hA : A'.1 19 1 = A.1 19 1) (hA2 : ∀ k, 31 < k → k < 37 → A'.1 k = A.1 k) (hB : B'.1 54 = B.1 54) (hB2 : B'.1 55 = B.1 55) : EF A' B' := by
  unfold EF
  rw [hA, hA2 32 (by omega) (by omega), hA2 33 (by omega) (by omega), hA2 35 (by omega) (by omega), hA2 36 (by omega) (by omega), hB, hB2]
  exact h
theorem EN_cg_0 {A B A' B' : mx_Mem} (h : EN_0 A B) (hA : ∀ j, 5 < j → j < 12 → A'.1 9 j = A.1 9 j) (hB : ∀ j, (6 ≤ j ∧ j < 10) ∨ j = 12 ∨ j = 13 → B'.1 52 j = B.1 52 j) : EN_0 A' B' := by
  unfold EN_0
  rw [hA 7 (by omega) (by omega), hA 8 (by omega) (by omega), hA 9 (by omega) (by omega), hA 10 (by omega) (by omega), hA 11 (by omega) (by omega), hA 6 (by omega) (by omega), hB 6 (by omega), hB 7 (by omega), hB 8 (by omega), hB 9 (by omega), hB 12 (by omega), hB 13 (by omega)]
  exact h
theorem EA_cg_0 {A B A' B' : mx_Mem} (h : EA_0 A B) (hA : ∀ k, 10 < k → k < 14 → A'.1 k = A.1 k) (hB : ∀ j, 20 ≤ j → j < 56 → B'.1 52 j = B.1 52 j) : EA_0 A' B' := by
  intro p hp
  rw [hA 11 (by omega) (by omega), hA 12 (by omega) (by omega), hA 13 (by omega) (by omega), hB (p + 20) (by omega) (by omega), hB (p + 32) (by omega) (by omega), hB (p + 44) (by omega) (by omega)]
  exact h p hp
theorem EP_cg_0 {A B A' B' : mx_Mem} (h : EP_0 A B) (h0 : A'.1 19 0 = A.1 19 0) (h1 : A'.1 10 = A.1 10) (h4 : A'.1 9 4 = A.1 9 4) (h5 : A'.1 9 5 = A.1 9 5) (hB : ∀ j, j = 10 ∨ (14 ≤ j ∧ j < 20) → B'.1 52 j = B.1 52 j) : EP_0 A' B' := by
  refine ⟨?_, fun hg k hk => ?_⟩
  · rw [hB _ (by omega), h1, h5]; exact h.1
  · rw [hB _ (by omega), h1, h4, h5]; exact h.2 (by rw [← h0]; exact hg) k hk
theorem IT_cg_0 {A A' : mx_Mem} (h : IT_0 A) (hA : ∀ k, 9 < k → k < 13 → A'.1 k = A.1 k) (h4 : A'.1 9 4 = A.1 9 4) (h5 : A'.1 9 5 = A.1 9 5) (hs : A'.1 3 2 = A.1 3 2) : IT_0 A' := by
  unfold IT_0
  rw [hA 10 (by omega) (by omega), hA 11 (by omega) (by omega), hA 12 (by omega) (by omega), h4, h5, hs]
  exact h
theorem EN_cg_1 {A B A' B' : mx_Mem} (h : EN_1 A B) (hA : ∀ j, 5 < j → j < 12 → A'.1 14 j = A.1 14 j) (hB : ∀ j, (56 ≤ j ∧ j < 60) ∨ j = 62 ∨ j = 63 → B'.1 52 j = B.1 52 j) : EN_1 A' B' := by
  unfold EN_1
  rw [hA 7 (by omega) (by omega), hA 8 (by omega) (by omega), hA 9 (by omega) (by omega), hA 10 (by omega) (by omega), hA 11 (by omega) (by omega), hA 6 (by omega) (by omega), hB 56 (by omega), hB 57 (by omega), hB 58 (by omega), hB 59 (by omega), hB 62 (by omega), hB 63 (by omega)]
  exact h
theorem EA_cg_1 {A B A' B' : mx_Mem} (h : EA_1 A B) (hA : ∀ k, 15 < k → k < 19 → A'.1 k = A.1 k) (hB : ∀ j, 70 ≤ j → j < 106 → B'.1 52 j = B.1 52 j) : EA_1 A' B' := by
  intro p hp
  rw [hA 16 (by omega) (by omega), hA 17 (by omega) (by omega), hA 18 (by omega) (by omega), hB (p + 70) (by omega) (by omega), hB (p + 82) (by omega) (by omega), hB (p + 94) (by omega) (by omega)]
  exact h p hp
theorem EP_cg_1 {A B A' B' : mx_Mem} (h : EP_1 A B) (h0 : A'.1 19 0 = A.1 19 0) (h1 : A'.1 15 = A.1 15) (h4 : A'.1 14 4 = A.1 14 4) (h5 : A'.1 14 5 = A.1 14 5) (hB : ∀ j, j = 60 ∨ (64 ≤ j ∧ j < 70) → B'.1 52 j = B.1 52 j) : EP_1 A' B' := by
  refine ⟨?_, fun hg k hk => ?_⟩
  · rw [hB _ (by omega), h1, h5]; exact h.1
  · rw [hB _ (by omega), h1, h4, h5]; exact h.2 (by rw [← h0]; exact hg) k hk
theorem IT_cg_1 {A A' : mx_Mem} (h : IT_1 A) (hA : ∀ k, 14 < k → k < 18 → A'.1 k = A.1 k) (h4 : A'.1 14 4 = A.1 14 4) (h5 : A'.1 14 5 = A.1 14 5) (hs : A'.1 6 2 = A.1 6 2) : IT_1 A' := by
  unfold IT_1
  rw [hA 15 (by omega) (by omega), hA 16 (by omega) (by omega), hA 17 (by omega) (by omega), h4, h5, hs]
  exact h
theorem IN_cg {A A' : mx_Mem} (h : IN A) (hA : A'.1 2 = A.1 2) : IN A' := by
  unfold IN
  rw [hA]
  exact h
/-- what a call of a team owes: the rest is as it was -/
theorem RR_team_0 {n : Nat} {A B A' B' : mx_Mem} (h : RR n A B) (hA : ∀ k, (k < 9 ∨ 14 ≤ k) → A'.1 k = A.1 k) (hB1 : ∀ k, k ≠ 52 → B'.1 k = B.1 k) (hB2 : ∀ j, (j < 6 ∨ 56 ≤ j) → B'.1 52 j = B.1 52 j) (hs : B'.1 52 11 = B.1 52 11) (eN : EN_0 A' B') (eA : EA_0 A' B') (eP : EP_0 A' B') (i1 : isB (A'.1 9 6)) (i2 : isF (A'.1 9 5)) (i3 : ∀ k, k < 6 → isP (A'.1 10 k)) (i4 : A.1 19 1 = 1 → IT_0 A') (i5 : A'.1 9 7 = A.1 9 7) : RR n A' B' := by
  obtain ⟨⟨⟨hS, hK, hF⟩, ⟨n0, a0, p0⟩, n1, a1, p1⟩, ⟨iN, iB, iP⟩, iQ⟩ := h
  have e19 := hA 19 (by omega)
  have xN := EN_cg_1 n1 (A' := A') (B' := B') (fun j _ _ => by rw [hA 14 (by omega)]) (fun j hj => hB2 j (by omega))
  have xA := EA_cg_1 a1 (A' := A') (B' := B') (fun k _ _ => hA k (by omega)) (fun j _ _ => hB2 j (by omega))
  have xP := EP_cg_1 p1 (A' := A') (B' := B') (by rw [e19]) (hA 15 (by omega)) (by rw [hA 14 (by omega)]) (by rw [hA 14 (by omega)]) (fun j hj => hB2 j (by omega))
  have xS : ES A' B' := ES_cg hS (fun k hk => hA k (by omega)) (fun k _ _ => hB1 k (by omega)) (fun j _ => by rw [hB1 46 (by decide)])
  have xK : EK A' B' := EK_cg hK e19 (fun j hj => by
    by_cases e : j = 11
    · rw [e]; exact hs
    · exact hB2 j (by omega))
  have xF : EF A' B' := EF_cg hF (by rw [e19]) (fun k _ _ => hA k (by omega)) (hB1 54 (by decide)) (hB1 55 (by decide))
  have xB : IB A' := by
    obtain ⟨⟨⟨b1, b2, b3⟩, ⟨b4, b5, b6⟩, b7, b8⟩, ⟨⟨b9, b10⟩, b11, b12⟩, b13, ⟨b14, b15⟩, b16, b17, b18⟩ := iB
    unfold IB
    rw [e19, hA 30 (by omega), hA 20 (by omega), hA 25 (by omega), hA 3 (by omega), hA 6 (by omega), hA 5 (by omega), hA 8 (by omega), hA 37 (by omega), hA 0 (by omega), hA 14 (by omega), hA 15 (by omega)]
    exact ⟨⟨⟨b1, i1, b3⟩, ⟨b4, b5, b6⟩, i2, b8⟩, ⟨⟨b9, b10⟩, b11, b12⟩, fun k hk => ⟨i3 k hk, (b13 k hk).2⟩, ⟨b14, b15⟩, b16, b17, b18⟩
  have xI : IP n A' := by
    unfold IP
    rw [e19]
    exact iP
  have xQ : IQ True A' := by
    intro ho
    rw [e19] at ho
    obtain ⟨⟨t0, t1⟩, hp⟩ := iQ ho
    have y := IT_cg_1 t1 (A' := A') (fun k _ _ => hA k (by omega)) (by rw [hA 14 (by omega)]) (by rw [hA 14 (by omega)]) (by rw [hA 6 (by omega)])
    have z := i4 ho
    refine ⟨⟨z, y⟩, ?_⟩
    unfold IPt
    rw [e19, hA 2 (by omega), i5, hA 14 (by omega)]
    exact hp
  exact ⟨⟨⟨xS, xK, xF⟩, ⟨eN, eA, eP⟩, xN, xA, xP⟩, ⟨IN_cg iN (hA 2 (by omega)), xB, xI⟩, xQ⟩
/-- what a call of a team owes: the rest is as it was -/
theorem RR_team_1 {n : Nat} {A B A' B' : mx_Mem} (h : RR n A B) (hA : ∀ k, (k < 14 ∨ 19 ≤ k) → A'.1 k = A.1 k) (hB1 : ∀ k, k ≠ 52 → B'.1 k = B.1 k) (hB2 : ∀ j, (j < 56 ∨ 106 ≤ j) → B'.1 52 j = B.1 52 j) (hs : B'.1 52 61 = B.1 52 61) (eN : EN_1 A' B') (eA : EA_1 A' B') (eP : EP_1 A' B') (i1 : isB (A'.1 14 6)) (i2 : isF (A'.1 14 5)) (i3 : ∀ k, k < 6 → isP (A'.1 15 k)) (i4 : A.1 19 1 = 1 → IT_1 A') (i5 : A'.1 14 7 = A.1 14 7) : RR n A' B' := by
  obtain ⟨⟨⟨hS, hK, hF⟩, ⟨n0, a0, p0⟩, n1, a1, p1⟩, ⟨iN, iB, iP⟩, iQ⟩ := h
  have e19 := hA 19 (by omega)
  have xN := EN_cg_0 n0 (A' := A') (B' := B') (fun j _ _ => by rw [hA 9 (by omega)]) (fun j hj => hB2 j (by omega))
  have xA := EA_cg_0 a0 (A' := A') (B' := B') (fun k _ _ => hA k (by omega)) (fun j _ _ => hB2 j (by omega))
  have xP := EP_cg_0 p0 (A' := A') (B' := B') (by rw [e19]) (hA 10 (by omega)) (by rw [hA 9 (by omega)]) (by rw [hA 9 (by omega)]) (fun j hj => hB2 j (by omega))
  have xS : ES A' B' := ES_cg hS (fun k hk => hA k (by omega)) (fun k _ _ => hB1 k (by omega)) (fun j _ => by rw [hB1 46 (by decide)])
  have xK : EK A' B' := EK_cg hK e19 (fun j hj => by
    by_cases e : j = 61
    · rw [e]; exact hs
    · exact hB2 j (by omega))
  have xF : EF A' B' := EF_cg hF (by rw [e19]) (fun k _ _ => hA k (by omega)) (hB1 54 (by decide)) (hB1 55 (by decide))
  have xB : IB A' := by
    obtain ⟨⟨⟨b1, b2, b3⟩, ⟨b4, b5, b6⟩, b7, b8⟩, ⟨⟨b9, b10⟩, b11, b12⟩, b13, ⟨b14, b15⟩, b16, b17, b18⟩ := iB
    unfold IB
    rw [e19, hA 30 (by omega), hA 20 (by omega), hA 25 (by omega), hA 3 (by omega), hA 6 (by omega), hA 5 (by omega), hA 8 (by omega), hA 37 (by omega), hA 0 (by omega), hA 9 (by omega), hA 10 (by omega)]
    exact ⟨⟨⟨b1, b2, i1⟩, ⟨b4, b5, b6⟩, b7, i2⟩, ⟨⟨b9, b10⟩, b11, b12⟩, fun k hk => ⟨(b13 k hk).1, i3 k hk⟩, ⟨b14, b15⟩, b16, b17, b18⟩
  have xI : IP n A' := by
    unfold IP
    rw [e19]
    exact iP
  have xQ : IQ True A' := by
    intro ho
    rw [e19] at ho
    obtain ⟨⟨t0, t1⟩, hp⟩ := iQ ho
    have y := IT_cg_0 t0 (A' := A') (fun k _ _ => hA k (by omega)) (by rw [hA 9 (by omega)]) (by rw [hA 9 (by omega)]) (by rw [hA 3 (by omega)])
    have z := i4 ho
    refine ⟨⟨y, z⟩, ?_⟩
    unfold IPt
    rw [e19, hA 2 (by omega), i5, hA 9 (by omega)]
    exact hp
  exact ⟨⟨⟨xS, xK, xF⟩, ⟨xN, xA, xP⟩, eN, eA, eP⟩, ⟨IN_cg iN (hA 2 (by omega)), xB, xI⟩, xQ⟩

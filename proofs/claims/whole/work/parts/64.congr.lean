/-! the coupling rests on these cells alone -/
theorem EP_co_0 {A B A' B' : mx_Mem} (h : EP_0 A B) (hF : isF (A.1 9 5)) (h0 : A'.1 19 0 = A.1 19 0) (h1 : ∀ j, j < 6 → A'.1 10 j = A.1 10 j) (h4 : A'.1 9 4 = A.1 9 4) (h5 : A'.1 9 5 = A.1 9 5) (hB : ∀ j, j = 10 ∨ (14 ≤ j ∧ j < 20) → B'.1 52 j = B.1 52 j) : EP_0 A' B' := by
  refine ⟨?_, fun hg k hk => ?_⟩
  · rw [hB _ (by omega), h5, h.1]
    rcases hF with e | e | e
    · rw [e, if_pos rfl, if_pos rfl]
    · rw [e, if_neg (by decide), if_neg (by decide)]; exact (h1 4 (by decide)).symm
    · rw [e, if_neg (by decide), if_neg (by decide)]; exact (h1 5 (by decide)).symm
  · rw [hB _ (by omega), h1 k hk, h4, h5]; exact h.2 (by rw [← h0]; exact hg) k hk
theorem EA_co_0 {A B A' B' : mx_Mem} (h : EA_0 A B) (hA : ∀ k, 10 < k → k < 14 → ∀ j, j < 12 → A'.1 k j = A.1 k j) (hB : ∀ j, 20 ≤ j → j < 56 → B'.1 52 j = B.1 52 j) : EA_0 A' B' := by
  intro p hp
  rw [hA 11 (by omega) (by omega) p hp, hA 12 (by omega) (by omega) p hp, hA 13 (by omega) (by omega) p hp, hB (p + 20) (by omega) (by omega), hB (p + 32) (by omega) (by omega), hB (p + 44) (by omega) (by omega)]
  exact h p hp
theorem IT_co_0 {A A' : mx_Mem} (h : IT_0 A) (h1 : ∀ j, j < 6 → A'.1 10 j = A.1 10 j) (hA : ∀ k, 10 < k → k < 13 → ∀ j, j < 12 → A'.1 k j = A.1 k j) (h4 : A'.1 9 4 = A.1 9 4) (h5 : A'.1 9 5 = A.1 9 5) (hs : A'.1 3 2 = A.1 3 2) : IT_0 A' := by
  refine ⟨⟨fun i hi j hj => ?_, fun k hk => ?_⟩, ?_, fun p hp => ?_⟩
  · rw [h1 i hi, h1 j hj]; exact h.1.1 i hi j hj
  · rw [h1 k hk, h4]; exact h.1.2 k hk
  · rw [h4, h5, hs]; exact h.2.1
  · rw [hA 11 (by omega) (by omega) p hp, hA 12 (by omega) (by omega) p hp]
    intro h3
    obtain ⟨q, hq, m1, m2, m3⟩ := h.2.2 p hp h3
    refine ⟨q, hq, m1, by rw [hA 11 (by omega) (by omega) q hq]; exact m2, fun p' hp' => ?_⟩
    rw [hA 11 (by omega) (by omega) p' hp', hA 12 (by omega) (by omega) p' hp']
    exact m3 p' hp'
theorem EP_co_1 {A B A' B' : mx_Mem} (h : EP_1 A B) (hF : isF (A.1 14 5)) (h0 : A'.1 19 0 = A.1 19 0) (h1 : ∀ j, j < 6 → A'.1 15 j = A.1 15 j) (h4 : A'.1 14 4 = A.1 14 4) (h5 : A'.1 14 5 = A.1 14 5) (hB : ∀ j, j = 60 ∨ (64 ≤ j ∧ j < 70) → B'.1 52 j = B.1 52 j) : EP_1 A' B' := by
  refine ⟨?_, fun hg k hk => ?_⟩
  · rw [hB _ (by omega), h5, h.1]
    rcases hF with e | e | e
    · rw [e, if_pos rfl, if_pos rfl]
    · rw [e, if_neg (by decide), if_neg (by decide)]; exact (h1 4 (by decide)).symm
    · rw [e, if_neg (by decide), if_neg (by decide)]; exact (h1 5 (by decide)).symm
  · rw [hB _ (by omega), h1 k hk, h4, h5]; exact h.2 (by rw [← h0]; exact hg) k hk
theorem EA_co_1 {A B A' B' : mx_Mem} (h : EA_1 A B) (hA : ∀ k, 15 < k → k < 19 → ∀ j, j < 12 → A'.1 k j = A.1 k j) (hB : ∀ j, 70 ≤ j → j < 106 → B'.1 52 j = B.1 52 j) : EA_1 A' B' := by
  intro p hp
  rw [hA 16 (by omega) (by omega) p hp, hA 17 (by omega) (by omega) p hp, hA 18 (by omega) (by omega) p hp, hB (p + 70) (by omega) (by omega), hB (p + 82) (by omega) (by omega), hB (p + 94) (by omega) (by omega)]
  exact h p hp
theorem IT_co_1 {A A' : mx_Mem} (h : IT_1 A) (h1 : ∀ j, j < 6 → A'.1 15 j = A.1 15 j) (hA : ∀ k, 15 < k → k < 18 → ∀ j, j < 12 → A'.1 k j = A.1 k j) (h4 : A'.1 14 4 = A.1 14 4) (h5 : A'.1 14 5 = A.1 14 5) (hs : A'.1 6 2 = A.1 6 2) : IT_1 A' := by
  refine ⟨⟨fun i hi j hj => ?_, fun k hk => ?_⟩, ?_, fun p hp => ?_⟩
  · rw [h1 i hi, h1 j hj]; exact h.1.1 i hi j hj
  · rw [h1 k hk, h4]; exact h.1.2 k hk
  · rw [h4, h5, hs]; exact h.2.1
  · rw [hA 16 (by omega) (by omega) p hp, hA 17 (by omega) (by omega) p hp]
    intro h3
    obtain ⟨q, hq, m1, m2, m3⟩ := h.2.2 p hp h3
    refine ⟨q, hq, m1, by rw [hA 16 (by omega) (by omega) q hq]; exact m2, fun p' hp' => ?_⟩
    rw [hA 16 (by omega) (by omega) p' hp', hA 17 (by omega) (by omega) p' hp']
    exact m3 p' hp'
theorem RR_cg {n : Nat} {A B A' B' : mx_Mem} (h : RR n A B) (hA : ∀ k, k < 9 ∨ (31 ≤ k ∧ k < 39) → A'.1 k = A.1 k) (h9 : ∀ j, 4 ≤ j → j < 12 → A'.1 9 j = A.1 9 j ∧ A'.1 14 j = A.1 14 j) (h10 : ∀ j, j < 6 → A'.1 10 j = A.1 10 j ∧ A'.1 15 j = A.1 15 j) (h11 : ∀ k, (11 ≤ k ∧ k ≤ 13) ∨ (16 ≤ k ∧ k ≤ 18) → ∀ j, j < 12 → A'.1 k j = A.1 k j) (h19 : ∀ j, j < 7 → A'.1 19 j = A.1 19 j) (hsv : isB (A'.1 30 1) ∧ isB (A'.1 20 6) ∧ isB (A'.1 25 6)) (hB : ∀ k, (46 < k ∧ k < 52) ∨ (53 < k ∧ k < 57) → B'.1 k = B.1 k) (hB6 : ∀ j, j < 13 → B'.1 46 j = B.1 46 j) (hB52 : ∀ j, j < 106 → B'.1 52 j = B.1 52 j) : RR n A' B' := by
  obtain ⟨⟨⟨hS, hK, hF⟩, ⟨n0, a0, x0⟩, n1, a1, x1⟩, ⟨iN, iB, iP⟩, iQ⟩ := h
  have hff := iB.1.2.2
  have xS : ES A' B' := ES_cg hS (fun k hk => hA k (by omega)) (fun k _ _ => hB k (by omega)) hB6
  have xK : EK A' B' := by
    unfold EK
    rw [h19 0 (by decide), h19 1 (by decide), h19 2 (by decide), h19 3 (by decide), h19 4 (by decide), h19 5 (by decide), h19 6 (by decide), hB52 0 (by decide), hB52 1 (by decide), hB52 2 (by decide), hB52 3 (by decide), hB52 4 (by decide), hB52 5 (by decide), hB52 11 (by decide), hB52 61 (by decide)]
    exact hK
  have xF : EF A' B' := EF_cg hF (h19 1 (by decide)) (fun k _ _ => hA k (by omega)) (hB 54 (by omega)) (hB 55 (by omega))
  have xB : IB A' := by
    obtain ⟨⟨⟨b1, b2, b3⟩, -, b7, b8⟩, ⟨⟨b9, b10⟩, b11, b12⟩, b13, ⟨b14, b15⟩, b16, b17, b18⟩ := iB
    unfold IB
    rw [h19 1 (by decide), (h9 6 (by decide) (by decide)).1, (h9 6 (by decide) (by decide)).2, (h9 5 (by decide) (by decide)).1, (h9 5 (by decide) (by decide)).2, hA 3 (by omega), hA 6 (by omega), hA 5 (by omega), hA 8 (by omega), hA 37 (by omega), hA 0 (by omega)]
    exact ⟨⟨⟨b1, b2, b3⟩, hsv, b7, b8⟩, ⟨⟨b9, b10⟩, b11, b12⟩, fun k hk => by rw [(h10 k hk).1, (h10 k hk).2]; exact b13 k hk, ⟨b14, b15⟩, b16, b17, b18⟩
  have xI : IP n A' := by
    unfold IP
    rw [h19 0 (by decide), h19 1 (by decide)]
    exact iP
  have xQ : IQ True A' := by
    intro ho
    rw [h19 1 (by decide)] at ho
    obtain ⟨⟨t0, t1⟩, hp⟩ := iQ ho
    refine ⟨⟨IT_co_0 t0 (fun j hj => (h10 j hj).1) (fun k _ _ => h11 k (by omega)) (h9 4 (by decide) (by decide)).1 (h9 5 (by decide) (by decide)).1 (by rw [hA 3 (by omega)]), IT_co_1 t1 (fun j hj => (h10 j hj).2) (fun k _ _ => h11 k (by omega)) (h9 4 (by decide) (by decide)).2 (h9 5 (by decide) (by decide)).2 (by rw [hA 6 (by omega)])⟩, ?_⟩
    unfold IPt
    rw [(h9 7 (by decide) (by decide)).1, (h9 7 (by decide) (by decide)).2, h19 2 (by decide), h19 3 (by decide), hA 2 (by omega)]
    exact hp
  exact ⟨⟨⟨xS, xK, xF⟩, ⟨EN_cg_0 n0 (fun j _ _ => (h9 j (by omega) (by omega)).1) (fun j _ => hB52 j (by omega)), EA_co_0 a0 (fun k _ _ => h11 k (by omega)) (fun j _ _ => hB52 j (by omega)), EP_co_0 x0 hff.1 (h19 0 (by decide)) (fun j hj => (h10 j hj).1) (h9 4 (by decide) (by decide)).1 (h9 5 (by decide) (by decide)).1 (fun j _ => hB52 j (by omega))⟩, EN_cg_1 n1 (fun j _ _ => (h9 j (by omega) (by omega)).2) (fun j _ => hB52 j (by omega)), EA_co_1 a1 (fun k _ _ => h11 k (by omega)) (fun j _ _ => hB52 j (by omega)), EP_co_1 x1 hff.2 (h19 0 (by decide)) (fun j hj => (h10 j hj).2) (h9 4 (by decide) (by decide)).2 (h9 5 (by decide) (by decide)).2 (fun j _ => hB52 j (by omega))⟩, ⟨IN_cg iN (hA 2 (by omega)), xB, xI⟩, xQ⟩
/-- the number of the call that threw isn't seen -/
theorem RR_th {n : Nat} {A B : mx_Mem} (h : RR n A B) (v : Int32) : RR n A (mI B 46 13 v) :=
  RR_cg h (fun _ _ => rfl) (fun _ _ _ => ⟨rfl, rfl⟩) (fun _ _ => ⟨rfl, rfl⟩) (fun _ _ _ _ => rfl) (fun _ _ => rfl) h.2.1.2.1.1.2.1 (fun k _ => funext fun j => mI_ne _ _ _ _ (by omega)) (fun j hj => mI_nj _ _ _ (by omega)) (fun j _ => mI_ne _ _ _ _ (by decide))
theorem RR_up {n n' : Nat} {A B : mx_Mem} (h : RR n A B) (hn : n ≤ n') : RR n' A B := by
  obtain ⟨h1, ⟨iN, iB, k, hk, h2⟩, iQ⟩ := h
  exact ⟨h1, ⟨iN, iB, k, by omega, h2⟩, iQ⟩
/-- chances touch nothing that is seen -/
theorem RR_fr {n : Nat} {A B A' B' : mx_Mem} (h : RR n A B) (hA : frC A A') (hB : frM B B') : RR n A' B' := by
  have c := fun k (hk : k < 39) => hA.1 k (Or.inl hk)
  refine RR_cg h (fun k hk => c k (by omega)) (fun j _ _ => ⟨by rw [c 9 (by decide)], by rw [c 14 (by decide)]⟩) (fun j _ => ⟨by rw [c 10 (by decide)], by rw [c 15 (by decide)]⟩) (fun k hk j _ => by rw [c k (by omega)]) (fun j _ => by rw [c 19 (by decide)]) ?_ (fun k hk => hB.1 k (by omega) (by omega)) (fun j _ => by rw [hB.1 46 (by decide) (by decide)]) (fun j _ => by rw [hB.1 52 (by decide) (by decide)])
  rw [c 30 (by decide), c 20 (by decide), c 25 (by decide)]
  exact h.2.1.2.1.1.2.1

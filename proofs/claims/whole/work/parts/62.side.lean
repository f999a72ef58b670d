/-! the coupling: a side-out; a set that may be closed -/
theorem sideX_0 {φ : Prop} {n : Nat} {A B : mx_Mem} {f : Int32} {X : Prop} (h : RG φ n A B) (ho : A.1 19 1 = 1) (hs : ¬ A.1 19 2 = 0) (hf : (A.1 9 5 = -1 ∧ f = -1) ∨ (A.1 9 5 = 4 ∧ f = -1) ∨ (A.1 9 5 = 5 ∧ f = 4)) (hX : X ↔ (B.1 52 10 = -1 ∨ ¬ B.1 52 18 = B.1 48 0)) (hE1 : X → ((f = -1 ∧ B.1 52 10 = -1) ∨ (f = 4 ∧ B.1 52 10 = A.1 10 5)) ∧ ∀ k, k < 6 → B.1 52 (14 + (k + 1) % 6) = if f = nI k then A.1 9 4 else A.1 10 ((k + 1) % 6)) (hE2 : ¬ X → f = -1 ∧ B.1 52 10 = A.1 10 4 ∧ ∀ k, k < 6 → ¬ k = 3 → B.1 52 (14 + (k + 1) % 6) = A.1 10 ((k + 1) % 6)) : RW_0 n (wrM A 9 0) (mtn_0 (mI (mI (mI (ptA_0 B) 52 61 0) 52 11 0) 52 2 0)) := by
  obtain ⟨⟨t0, t1⟩, p0, p1, st, cap, ⟨P1, P2, P3, P4⟩, ⟨P5, P6, P7⟩, P8⟩ := h.2.2 ho
  have hO : ∀ k, k < 6 → isP (A.1 10 k) ∧ isP (A.1 15 k) := h.2.1.2.1.2.2.1
  have hOc : ∀ k, k < 6 → isP (A.1 10 k) := fun k hk => by first | exact (hO k hk).1 | exact (hO k hk).2
  have hEK := h.1.1.2.1
  have hF := h.2.1.2.1.1.2.2
  obtain ⟨n0, a0, x0⟩ := h.1.2.1
  obtain ⟨n1, a1, x1⟩ := h.1.2.2
  obtain ⟨fc, fo, f9, f5, f1⟩ := wrT_0 hs hf
  obtain ⟨g1, g0, ⟨g2, g3, g13, g63, gb, g11, g61, gb6⟩, gX, gY⟩ := ptT_0 X hX rfl
  generalize wrM A 9 0 = A2 at fc fo f9 f5 f1 ⊢
  generalize mtn_0 (mI (mI (mI (ptA_0 B) 52 61 0) 52 11 0) 52 2 0) = B2 at g1 g0 g2 g3 g13 g63 gb g11 g61 gb6 gX gY ⊢
  have hff : isF f := by
    rcases hf with ⟨-, e⟩ | ⟨-, e⟩ | ⟨-, e⟩ <;> rw [e]
    · exact Or.inl rfl
    · exact Or.inl rfl
    · exact Or.inr (Or.inl rfl)
  have eP : EP_0 A2 B2 := by
    have c5 : A2.1 9 5 = f := by rw [fc]; rfl
    have c4 : A2.1 9 4 = A.1 9 4 := by rw [fc]; rfl
    unfold EP_0
    rw [c5, c4]
    by_cases x : X
    · obtain ⟨u1, u2⟩ := gX x
      obtain ⟨v1, v2⟩ := hE1 x
      refine ⟨?_, fun _ k hk => ?_⟩
      · rw [u1]
        rcases v1 with ⟨e, e2⟩ | ⟨e, e2⟩
        · rw [e, if_pos rfl, e2]
        · rw [e, if_neg (by decide), e2]
          exact (f5 4 (by decide)).symm
      · rw [u2 k hk, v2 k hk, f5 k hk]
    · obtain ⟨u1, u2, u3⟩ := gY x
      obtain ⟨v1, v2, v3⟩ := hE2 x
      refine ⟨?_, fun _ k hk => ?_⟩
      · rw [u1, v1, if_pos rfl]
      · rw [v1, if_neg (show ¬ (-1 : Int32) = nI k from fun w => nI_m1 (k := k) (by omega) w.symm), f5 k hk]
        by_cases k3 : k = 3
        · subst k3
          exact u2.trans v2
        · rw [u3 k hk k3, v3 k hk k3]
  have iT : IT_0 A2 := by
    have hT : IT_0 A := by first | exact t0 | exact t1
    have c5 : A2.1 9 5 = f := by rw [fc]; rfl
    have c4 : A2.1 9 4 = A.1 9 4 := by rw [fc]; rfl
    unfold IT_0
    rw [c5, c4, f1 11 (by decide) (by decide) (by decide) (by decide), f1 12 (by decide) (by decide) (by decide) (by decide), f1 3 (by decide) (by decide) (by decide) (by decide)]
    refine ⟨⟨fun i hi j hj => ?_, fun k hk => ?_⟩, ⟨hT.2.1.1, ?_⟩, hT.2.2⟩
    · rw [f5 i hi, f5 j hj]
      intro w
      have := hT.1.1 _ (by omega) _ (by omega) w
      omega
    · rw [f5 k hk]
      exact hT.1.2 _ (by omega)
    · rcases hf with ⟨-, e⟩ | ⟨-, e⟩ | ⟨e2, e⟩
      · exact Or.inl e
      · exact Or.inl e
      · exact Or.inr (hT.2.1.2.resolve_left (by rw [e2]; decide))
  refine RW_mk_0 h (fun k hk => f1 k (by omega) (by omega) (by omega) (by omega)) g1 ?_ (by rw [f9]; exact ho) ho (by rw [f9]; rfl) ⟨?_, ?_, ?_⟩ ⟨?_, ?_, ?_⟩ ?_ ?_ (fun k hk => ?_) ⟨?_, ?_⟩ ?_
  · obtain ⟨⟨k1, k2, k3, k4, k5⟩, k6, k7, k8⟩ := hEK
    refine ⟨⟨?_, ?_, ?_, ?_, ?_⟩, ?_, ?_, ?_⟩
    · rw [f9, g0 _ (by omega) (by omega) (by omega) (by omega) (by omega) (by omega) (by omega) (by omega) (by omega) (by omega)]; exact k1
    · rw [f9, g0 _ (by omega) (by omega) (by omega) (by omega) (by omega) (by omega) (by omega) (by omega) (by omega) (by omega)]; exact k2
    · rw [f9, g3, ← k3]; rfl
    · rw [f9, g0 _ (by omega) (by omega) (by omega) (by omega) (by omega) (by omega) (by omega) (by omega) (by omega) (by omega)]; exact k4
    · rw [f9, g0 _ (by omega) (by omega) (by omega) (by omega) (by omega) (by omega) (by omega) (by omega) (by omega) (by omega)]; exact k5
    · rw [f9, f9, g2]
      show 0 = if A.1 19 1 = 1 then (0 : Int32) else -1
      rw [if_pos ho]
    · rw [f9, f9, g11]; rfl
    · rw [f9, f9, g61]; rfl
  · obtain ⟨⟨z1, z2, z3⟩, z4, z5, z6⟩ := n0
    refine ⟨⟨?_, ?_, ?_⟩, ?_, ?_, ?_⟩
    · rw [fc, gb, ← z1]; rfl
    · rw [fc, g0 _ (by omega) (by omega) (by omega) (by omega) (by omega) (by omega) (by omega) (by omega) (by omega) (by omega)]; exact z2
    · rw [fc, g0 _ (by omega) (by omega) (by omega) (by omega) (by omega) (by omega) (by omega) (by omega) (by omega) (by omega)]; exact z3
    · rw [fc, g0 _ (by omega) (by omega) (by omega) (by omega) (by omega) (by omega) (by omega) (by omega) (by omega) (by omega)]; exact z4
    · rw [fc, gb6, ← z5]; rfl
    · rw [fc, g13]; rfl
  · exact EA_cg_0 a0 (fun k _ _ => f1 k (by omega) (by omega) (by omega) (by omega)) (fun j _ _ => g0 _ (by omega) (by omega) (by omega) (by omega) (by omega) (by omega) (by omega) (by omega) (by omega) (by omega))
  · exact eP
  · obtain ⟨⟨z1, z2, z3⟩, z4, z5, z6⟩ := n1
    refine ⟨⟨?_, ?_, ?_⟩, ?_, ?_, ?_⟩
    · rw [fo, g0 _ (by omega) (by omega) (by omega) (by omega) (by omega) (by omega) (by omega) (by omega) (by omega) (by omega)]; exact z1
    · rw [fo, g0 _ (by omega) (by omega) (by omega) (by omega) (by omega) (by omega) (by omega) (by omega) (by omega) (by omega)]; exact z2
    · rw [fo, g0 _ (by omega) (by omega) (by omega) (by omega) (by omega) (by omega) (by omega) (by omega) (by omega) (by omega)]; exact z3
    · rw [fo, g0 _ (by omega) (by omega) (by omega) (by omega) (by omega) (by omega) (by omega) (by omega) (by omega) (by omega)]; exact z4
    · rw [fo, g0 _ (by omega) (by omega) (by omega) (by omega) (by omega) (by omega) (by omega) (by omega) (by omega) (by omega)]; exact z5
    · rw [fo, g63]; rfl
  · exact EA_cg_1 a1 (fun k _ _ => f1 k (by omega) (by omega) (by omega) (by omega)) (fun j _ _ => g0 _ (by omega) (by omega) (by omega) (by omega) (by omega) (by omega) (by omega) (by omega) (by omega) (by omega))
  · exact EP_cg_1 x1 (by rw [f9]; rfl) (f1 15 (by decide) (by decide) (by decide) (by decide)) (by rw [fo]; rfl) (by rw [fo]; rfl) (fun j hj => g0 _ (by omega) (by omega) (by omega) (by omega) (by omega) (by omega) (by omega) (by omega) (by omega) (by omega))
  · exact ⟨by rw [fc]; exact Or.inl rfl, by rw [fo]; exact Or.inl rfl⟩
  · exact ⟨by rw [fc]; exact hff, by rw [fo]; exact hF.2⟩
  · rw [f5 k hk, f1 15 (by decide) (by decide) (by decide) (by decide)]
    exact ⟨hOc _ (by omega), (hO k hk).2⟩
  · exact iT
  · exact IT_cg_1 t1 (fun k _ _ => f1 k (by omega) (by omega) (by omega) (by omega)) (by rw [fo]; rfl) (by rw [fo]; rfl) (by rw [f1 6 (by decide) (by decide) (by decide) (by decide)])
  · refine ⟨p0 + 1, p1, 0, cap, ⟨?_, ?_, ?_, ?_⟩, by omega, ?_, by omega⟩
    · rw [fc]; show A.1 9 7 + 1 = _; rw [P1, nI_1]
    · rw [fo]; exact P2
    · rw [f9]; rfl
    · rw [f1 2 (by decide) (by decide) (by decide) (by decide)]; exact P4
    · rw [f9]; rfl
theorem side_R_0 {φ : Prop} {n : Nat} {A B : mx_Mem} (hn : n ≤ 1000) (h : RG φ n A B) (ho : A.1 19 1 = 1) (hs : ¬ A.1 19 2 = 0) : RW_0 n (wrM A 9 0) (mtn_0 (mI (mI (mI (ptA_0 B) 52 61 0) 52 11 0) 52 2 0)) := by
  have hO : ∀ k, k < 6 → isP (A.1 10 k) := fun k hk => by first | exact (h.2.1.2.1.2.2.1 k hk).1 | exact (h.2.1.2.1.2.2.1 k hk).2
  have hT : IT_0 A := by first | exact (h.2.2 ho).1.1 | exact (h.2.2 ho).1.2
  have q3 : A.1 3 2 = B.1 48 0 := by first | exact h.1.1.1.2.1.1.1 | exact h.1.1.1.2.1.1.2
  have q5 : A.1 9 4 = B.1 48 0 := hT.2.1.1.trans q3
  rcases plE_0 h hn ho with ⟨e1, e2, e3⟩ | ⟨f, hf, e1, e4, e5, e6, e7, e8⟩
  · refine sideX_0 (f := -1) (X := True) h ho hs (Or.inl ⟨e1, rfl⟩) ⟨fun _ => Or.inl e2, fun _ => trivial⟩ (fun _ => ⟨Or.inl ⟨rfl, e2⟩, fun k hk => ?_⟩) (fun w => absurd trivial w)
    rw [if_neg (show ¬ (-1 : Int32) = nI k from fun w => nI_m1 (k := k) (by omega) w.symm)]
    exact e3 _ (by omega)
  · have hne : ¬ B.1 52 10 = -1 := by rw [e6]; exact isP_m1 (hO f hf)
    rcases e4 with rfl | rfl
    · refine sideX_0 (f := -1) (X := False) h ho hs (Or.inr (Or.inl ⟨e1, rfl⟩)) ⟨fun w => w.elim, fun w => w.elim (fun w => hne w) (fun w => w ?_)⟩ (fun w => w.elim) (fun _ => ⟨rfl, e6, fun k hk k3 => e8 _ (by omega) (by omega)⟩)
      rw [← q5]; exact e7
    · refine sideX_0 (f := 4) (X := True) h ho hs (Or.inr (Or.inr ⟨e1, rfl⟩)) ⟨fun _ => Or.inr ?_, fun _ => trivial⟩ (fun _ => ⟨Or.inr ⟨rfl, e6⟩, fun k hk => ?_⟩) (fun w => absurd trivial w)
      · rw [← q5, show B.1 52 18 = A.1 10 4 from e8 4 (by decide) (by decide)]
        exact hT.1.2 4 (by decide)
      · by_cases k4 : k = 4
        · subst k4
          rw [if_pos (show (4 : Int32) = nI 4 from rfl)]
          exact e7
        · rw [if_neg (show ¬ (4 : Int32) = nI k from fun w => k4 ((nI_k (j := 4) (by decide) (by omega)).mp w).symm)]
          exact e8 _ (by omega) (by omega)
theorem sideX_1 {φ : Prop} {n : Nat} {A B : mx_Mem} {f : Int32} {X : Prop} (h : RG φ n A B) (ho : A.1 19 1 = 1) (hs : ¬ A.1 19 2 = 1) (hf : (A.1 14 5 = -1 ∧ f = -1) ∨ (A.1 14 5 = 4 ∧ f = -1) ∨ (A.1 14 5 = 5 ∧ f = 4)) (hX : X ↔ (B.1 52 60 = -1 ∨ ¬ B.1 52 68 = B.1 48 1)) (hE1 : X → ((f = -1 ∧ B.1 52 60 = -1) ∨ (f = 4 ∧ B.1 52 60 = A.1 15 5)) ∧ ∀ k, k < 6 → B.1 52 (64 + (k + 1) % 6) = if f = nI k then A.1 14 4 else A.1 15 ((k + 1) % 6)) (hE2 : ¬ X → f = -1 ∧ B.1 52 60 = A.1 15 4 ∧ ∀ k, k < 6 → ¬ k = 3 → B.1 52 (64 + (k + 1) % 6) = A.1 15 ((k + 1) % 6)) : RW_1 n (wrM A 14 1) (mtn_1 (mI (mI (mI (ptA_1 B) 52 11 0) 52 61 0) 52 2 1)) := by
  obtain ⟨⟨t0, t1⟩, p0, p1, st, cap, ⟨P1, P2, P3, P4⟩, ⟨P5, P6, P7⟩, P8⟩ := h.2.2 ho
  have hO : ∀ k, k < 6 → isP (A.1 10 k) ∧ isP (A.1 15 k) := h.2.1.2.1.2.2.1
  have hOc : ∀ k, k < 6 → isP (A.1 15 k) := fun k hk => by first | exact (hO k hk).1 | exact (hO k hk).2
  have hEK := h.1.1.2.1
  have hF := h.2.1.2.1.1.2.2
  obtain ⟨n0, a0, x0⟩ := h.1.2.1
  obtain ⟨n1, a1, x1⟩ := h.1.2.2
  obtain ⟨fc, fo, f9, f5, f1⟩ := wrT_1 hs hf
  obtain ⟨g1, g0, ⟨g2, g3, g13, g63, gb, g11, g61, gb6⟩, gX, gY⟩ := ptT_1 X hX rfl
  generalize wrM A 14 1 = A2 at fc fo f9 f5 f1 ⊢
  generalize mtn_1 (mI (mI (mI (ptA_1 B) 52 11 0) 52 61 0) 52 2 1) = B2 at g1 g0 g2 g3 g13 g63 gb g11 g61 gb6 gX gY ⊢
  have hff : isF f := by
    rcases hf with ⟨-, e⟩ | ⟨-, e⟩ | ⟨-, e⟩ <;> rw [e]
    · exact Or.inl rfl
    · exact Or.inl rfl
    · exact Or.inr (Or.inl rfl)
  have eP : EP_1 A2 B2 := by
    have c5 : A2.1 14 5 = f := by rw [fc]; rfl
    have c4 : A2.1 14 4 = A.1 14 4 := by rw [fc]; rfl
    unfold EP_1
    rw [c5, c4]
    by_cases x : X
    · obtain ⟨u1, u2⟩ := gX x
      obtain ⟨v1, v2⟩ := hE1 x
      refine ⟨?_, fun _ k hk => ?_⟩
      · rw [u1]
        rcases v1 with ⟨e, e2⟩ | ⟨e, e2⟩
        · rw [e, if_pos rfl, e2]
        · rw [e, if_neg (by decide), e2]
          exact (f5 4 (by decide)).symm
      · rw [u2 k hk, v2 k hk, f5 k hk]
    · obtain ⟨u1, u2, u3⟩ := gY x
      obtain ⟨v1, v2, v3⟩ := hE2 x
      refine ⟨?_, fun _ k hk => ?_⟩
      · rw [u1, v1, if_pos rfl]
      · rw [v1, if_neg (show ¬ (-1 : Int32) = nI k from fun w => nI_m1 (k := k) (by omega) w.symm), f5 k hk]
        by_cases k3 : k = 3
        · subst k3
          exact u2.trans v2
        · rw [u3 k hk k3, v3 k hk k3]
  have iT : IT_1 A2 := by
    have hT : IT_1 A := by first | exact t0 | exact t1
    have c5 : A2.1 14 5 = f := by rw [fc]; rfl
    have c4 : A2.1 14 4 = A.1 14 4 := by rw [fc]; rfl
    unfold IT_1
    rw [c5, c4, f1 16 (by decide) (by decide) (by decide) (by decide), f1 17 (by decide) (by decide) (by decide) (by decide), f1 6 (by decide) (by decide) (by decide) (by decide)]
    refine ⟨⟨fun i hi j hj => ?_, fun k hk => ?_⟩, ⟨hT.2.1.1, ?_⟩, hT.2.2⟩
    · rw [f5 i hi, f5 j hj]
      intro w
      have := hT.1.1 _ (by omega) _ (by omega) w
      omega
    · rw [f5 k hk]
      exact hT.1.2 _ (by omega)
    · rcases hf with ⟨-, e⟩ | ⟨-, e⟩ | ⟨e2, e⟩
      · exact Or.inl e
      · exact Or.inl e
      · exact Or.inr (hT.2.1.2.resolve_left (by rw [e2]; decide))
  refine RW_mk_1 h (fun k hk => f1 k (by omega) (by omega) (by omega) (by omega)) g1 ?_ (by rw [f9]; exact ho) ho (by rw [f9]; rfl) ⟨?_, ?_, ?_⟩ ⟨?_, ?_, ?_⟩ ?_ ?_ (fun k hk => ?_) ⟨?_, ?_⟩ ?_
  · obtain ⟨⟨k1, k2, k3, k4, k5⟩, k6, k7, k8⟩ := hEK
    refine ⟨⟨?_, ?_, ?_, ?_, ?_⟩, ?_, ?_, ?_⟩
    · rw [f9, g0 _ (by omega) (by omega) (by omega) (by omega) (by omega) (by omega) (by omega) (by omega) (by omega) (by omega)]; exact k1
    · rw [f9, g0 _ (by omega) (by omega) (by omega) (by omega) (by omega) (by omega) (by omega) (by omega) (by omega) (by omega)]; exact k2
    · rw [f9, g3, ← k3]; rfl
    · rw [f9, g0 _ (by omega) (by omega) (by omega) (by omega) (by omega) (by omega) (by omega) (by omega) (by omega) (by omega)]; exact k4
    · rw [f9, g0 _ (by omega) (by omega) (by omega) (by omega) (by omega) (by omega) (by omega) (by omega) (by omega) (by omega)]; exact k5
    · rw [f9, f9, g2]
      show 1 = if A.1 19 1 = 1 then (1 : Int32) else -1
      rw [if_pos ho]
    · rw [f9, f9, g11]; rfl
    · rw [f9, f9, g61]; rfl
  · obtain ⟨⟨z1, z2, z3⟩, z4, z5, z6⟩ := n0
    refine ⟨⟨?_, ?_, ?_⟩, ?_, ?_, ?_⟩
    · rw [fo, g0 _ (by omega) (by omega) (by omega) (by omega) (by omega) (by omega) (by omega) (by omega) (by omega) (by omega)]; exact z1
    · rw [fo, g0 _ (by omega) (by omega) (by omega) (by omega) (by omega) (by omega) (by omega) (by omega) (by omega) (by omega)]; exact z2
    · rw [fo, g0 _ (by omega) (by omega) (by omega) (by omega) (by omega) (by omega) (by omega) (by omega) (by omega) (by omega)]; exact z3
    · rw [fo, g0 _ (by omega) (by omega) (by omega) (by omega) (by omega) (by omega) (by omega) (by omega) (by omega) (by omega)]; exact z4
    · rw [fo, g0 _ (by omega) (by omega) (by omega) (by omega) (by omega) (by omega) (by omega) (by omega) (by omega) (by omega)]; exact z5
    · rw [fo, g13]; rfl
  · exact EA_cg_0 a0 (fun k _ _ => f1 k (by omega) (by omega) (by omega) (by omega)) (fun j _ _ => g0 _ (by omega) (by omega) (by omega) (by omega) (by omega) (by omega) (by omega) (by omega) (by omega) (by omega))
  · exact EP_cg_0 x0 (by rw [f9]; rfl) (f1 10 (by decide) (by decide) (by decide) (by decide)) (by rw [fo]; rfl) (by rw [fo]; rfl) (fun j hj => g0 _ (by omega) (by omega) (by omega) (by omega) (by omega) (by omega) (by omega) (by omega) (by omega) (by omega))
  · obtain ⟨⟨z1, z2, z3⟩, z4, z5, z6⟩ := n1
    refine ⟨⟨?_, ?_, ?_⟩, ?_, ?_, ?_⟩
    · rw [fc, gb, ← z1]; rfl
    · rw [fc, g0 _ (by omega) (by omega) (by omega) (by omega) (by omega) (by omega) (by omega) (by omega) (by omega) (by omega)]; exact z2
    · rw [fc, g0 _ (by omega) (by omega) (by omega) (by omega) (by omega) (by omega) (by omega) (by omega) (by omega) (by omega)]; exact z3
    · rw [fc, g0 _ (by omega) (by omega) (by omega) (by omega) (by omega) (by omega) (by omega) (by omega) (by omega) (by omega)]; exact z4
    · rw [fc, gb6, ← z5]; rfl
    · rw [fc, g63]; rfl
  · exact EA_cg_1 a1 (fun k _ _ => f1 k (by omega) (by omega) (by omega) (by omega)) (fun j _ _ => g0 _ (by omega) (by omega) (by omega) (by omega) (by omega) (by omega) (by omega) (by omega) (by omega) (by omega))
  · exact eP
  · exact ⟨by rw [fo]; exact Or.inl rfl, by rw [fc]; exact Or.inl rfl⟩
  · exact ⟨by rw [fo]; exact hF.1, by rw [fc]; exact hff⟩
  · rw [f1 10 (by decide) (by decide) (by decide) (by decide), f5 k hk]
    exact ⟨(hO k hk).1, hOc _ (by omega)⟩
  · exact IT_cg_0 t0 (fun k _ _ => f1 k (by omega) (by omega) (by omega) (by omega)) (by rw [fo]; rfl) (by rw [fo]; rfl) (by rw [f1 3 (by decide) (by decide) (by decide) (by decide)])
  · exact iT
  · refine ⟨p0, p1 + 1, 0, cap, ⟨?_, ?_, ?_, ?_⟩, by omega, ?_, by omega⟩
    · rw [fo]; exact P1
    · rw [fc]; show A.1 14 7 + 1 = _; rw [P2, nI_1]
    · rw [f9]; rfl
    · rw [f1 2 (by decide) (by decide) (by decide) (by decide)]; exact P4
    · rw [f9]; rfl
theorem side_R_1 {φ : Prop} {n : Nat} {A B : mx_Mem} (hn : n ≤ 1000) (h : RG φ n A B) (ho : A.1 19 1 = 1) (hs : ¬ A.1 19 2 = 1) : RW_1 n (wrM A 14 1) (mtn_1 (mI (mI (mI (ptA_1 B) 52 11 0) 52 61 0) 52 2 1)) := by
  have hO : ∀ k, k < 6 → isP (A.1 15 k) := fun k hk => by first | exact (h.2.1.2.1.2.2.1 k hk).1 | exact (h.2.1.2.1.2.2.1 k hk).2
  have hT : IT_1 A := by first | exact (h.2.2 ho).1.1 | exact (h.2.2 ho).1.2
  have q3 : A.1 6 2 = B.1 48 1 := by first | exact h.1.1.1.2.1.1.1 | exact h.1.1.1.2.1.1.2
  have q5 : A.1 14 4 = B.1 48 1 := hT.2.1.1.trans q3
  rcases plE_1 h hn ho with ⟨e1, e2, e3⟩ | ⟨f, hf, e1, e4, e5, e6, e7, e8⟩
  · refine sideX_1 (f := -1) (X := True) h ho hs (Or.inl ⟨e1, rfl⟩) ⟨fun _ => Or.inl e2, fun _ => trivial⟩ (fun _ => ⟨Or.inl ⟨rfl, e2⟩, fun k hk => ?_⟩) (fun w => absurd trivial w)
    rw [if_neg (show ¬ (-1 : Int32) = nI k from fun w => nI_m1 (k := k) (by omega) w.symm)]
    exact e3 _ (by omega)
  · have hne : ¬ B.1 52 60 = -1 := by rw [e6]; exact isP_m1 (hO f hf)
    rcases e4 with rfl | rfl
    · refine sideX_1 (f := -1) (X := False) h ho hs (Or.inr (Or.inl ⟨e1, rfl⟩)) ⟨fun w => w.elim, fun w => w.elim (fun w => hne w) (fun w => w ?_)⟩ (fun w => w.elim) (fun _ => ⟨rfl, e6, fun k hk k3 => e8 _ (by omega) (by omega)⟩)
      rw [← q5]; exact e7
    · refine sideX_1 (f := 4) (X := True) h ho hs (Or.inr (Or.inr ⟨e1, rfl⟩)) ⟨fun _ => Or.inr ?_, fun _ => trivial⟩ (fun _ => ⟨Or.inr ⟨rfl, e6⟩, fun k hk => ?_⟩) (fun w => absurd trivial w)
      · rw [← q5, show B.1 52 68 = A.1 15 4 from e8 4 (by decide) (by decide)]
        exact hT.1.2 4 (by decide)
      · by_cases k4 : k = 4
        · subst k4
          rw [if_pos (show (4 : Int32) = nI 4 from rfl)]
          exact e7
        · rw [if_neg (show ¬ (4 : Int32) = nI k from fun w => k4 ((nI_k (j := 4) (by decide) (by omega)).mp w).symm)]
          exact e8 _ (by omega) (by omega)

/-! the coupling: a set is closed; rallies, servers found wrong -/
theorem tgt_sw (f : Nat → Int32) (a b : Int32) : tgt f a b = tgt f b a := by
  unfold tgt
  by_cases h : ¬ f 3 - 1 ≤ 0 ∧ a = f 3 - 1 ∧ b = f 3 - 1
  · rw [if_pos h, if_pos ⟨h.1, h.2.2, h.2.1⟩]
  · rw [if_neg h, if_neg (fun q => h ⟨q.1, q.2.2, q.2.1⟩)]
theorem tgE {A B : mx_Mem} (h : RE A B) (hN : IN A) : tgM B = tgt (A.1 2) (A.1 9 8) (A.1 14 8) := by
  obtain ⟨g, cap, la, st, ⟨-, -, -, e3⟩, -, -, -, hst⟩ := hN
  have q0 := h.1.1.1.1 0 (by decide)
  have q2 := h.1.1.1.1 2 (by decide)
  have q3 := h.1.1.1.1 3 (by decide)
  have q7 := h.2.1.1.1.2.1
  have q57 := h.2.2.1.1.2.1
  have e : (¬ A.1 2 3 - 1 ≤ 0) ↔ ¬ A.1 2 3 ≤ 1 := by
    rw [e3, show (1 : Int32) = nI 1 from rfl, pk_sub hst.1, show (0 : Int32) = nI 0 from rfl, nI_leI (by omega) (by omega), nI_leI (by omega) (by omega)]
    omega
  unfold tgM tgt
  rw [← q0, ← q2, ← q3, ← q7, ← q57]
  by_cases w : ¬ A.1 2 3 ≤ 1 ∧ A.1 9 8 = A.1 2 3 - 1 ∧ A.1 14 8 = A.1 2 3 - 1
  · rw [if_pos w, if_pos ⟨e.mpr w.1, w.2⟩]
  · rw [if_neg w, if_neg (fun y => w ⟨e.mp y.1, y.2⟩)]
theorem wrM_8_0 (A : mx_Mem) : (wrM A 9 0).1 2 = A.1 2 ∧ (wrM A 9 0).1 9 8 = A.1 9 8 ∧ (wrM A 9 0).1 14 8 = A.1 14 8 := by
  unfold wrM wrB wrA
  dsimp only
  by_cases h : A.1 19 2 = 0
  · rw [if_pos h]
    unfold csM
    exact ⟨rfl, rfl, rfl⟩
  · rw [if_neg h]
    unfold tnM
    dsimp only
    split
    · exact ⟨rfl, rfl, rfl⟩
    · exact ⟨rfl, rfl, rfl⟩
theorem close_mk_0 {n : Nat} {A B A' B' : mx_Mem} {w w' : Int32} (h : RW_0 n A B) (hw : w = w') (fc : ∀ j, A'.1 9 j = if j = 8 then A.1 9 8 + 1 else A.1 9 j) (f9 : ∀ j, A'.1 19 j = if j = 6 then w else if j = 5 then 0 else if j = 1 then 0 else A.1 19 j) (f1 : ∀ k, k ≠ 9 → k ≠ 19 → A'.1 k = A.1 k) (g : ∀ j, B'.1 52 j = if j = 4 then w' else if j = 7 then B.1 52 7 + 1 else if j = 5 then 0 else if j = 2 then -1 else if j = 1 then 0 else B.1 52 j) (g1 : ∀ k, k ≠ 52 → B'.1 k = B.1 k) : RR n A' B' := by
  obtain ⟨⟨⟨hS, hK, hF⟩, ⟨n0, a0, x0⟩, n1, a1, x1⟩, ⟨iN, iB, iP⟩, ho, it, -⟩ := h
  have g0 : ∀ j, j ≠ 4 → j ≠ 7 → j ≠ 5 → j ≠ 2 → j ≠ 1 → B'.1 52 j = B.1 52 j := fun j m1 m2 m3 m4 m5 => by rw [g, if_neg m1, if_neg m2, if_neg m3, if_neg m4, if_neg m5]
  have off : A'.1 19 1 = 0 := by rw [f9]; rfl
  have xS : ES A' B' := ES_cg hS (fun k hk => f1 k (by omega) (by omega)) (fun k _ _ => g1 k (by omega)) (fun j _ => by rw [g1 46 (by decide)])
  have xK : EK A' B' := by
    obtain ⟨⟨k1, k2, k3, k4, k5⟩, k6, k7, k8⟩ := hK
    refine ⟨⟨?_, ?_, ?_, ?_, ?_⟩, ?_, ?_, ?_⟩
    · rw [f9, g0 _ (by decide) (by decide) (by decide) (by decide) (by decide)]; exact k1
    · rw [f9, g]; rfl
    · rw [f9, g0 _ (by decide) (by decide) (by decide) (by decide) (by decide)]; exact k3
    · rw [f9, g, hw]; rfl
    · rw [f9, g]; rfl
    · rw [off, if_neg (by decide), g]; rfl
    · rw [f9, f9, g0 _ (by decide) (by decide) (by decide) (by decide) (by decide)]; exact k7
    · rw [f9, f9, g0 _ (by decide) (by decide) (by decide) (by decide) (by decide)]; exact k8
  have xF : EF A' B' := fun q => by rw [off] at q; exact absurd q (by decide)
  have xNt : EN_0 A' B' := by
    have nt : EN_0 A B := by first | exact n0 | exact n1
    obtain ⟨⟨z1, z2, z3⟩, z4, z5, z6⟩ := nt
    refine ⟨⟨?_, ?_, ?_⟩, ?_, ?_, ?_⟩
    · rw [fc, g0 _ (by decide) (by decide) (by decide) (by decide) (by decide)]; exact z1
    · rw [fc, g, z2]; rfl
    · rw [fc, g0 _ (by decide) (by decide) (by decide) (by decide) (by decide)]; exact z3
    · rw [fc, g0 _ (by decide) (by decide) (by decide) (by decide) (by decide)]; exact z4
    · rw [fc, g0 _ (by decide) (by decide) (by decide) (by decide) (by decide)]; exact z5
    · rw [fc, g0 _ (by decide) (by decide) (by decide) (by decide) (by decide)]; exact z6
  have xNo := EN_cg_1 n1 (A' := A') (B' := B') (fun j _ _ => by rw [f1 14 (by decide) (by decide)]) (fun j hj => g0 j (by omega) (by omega) (by omega) (by omega) (by omega))
  have xA0 := EA_cg_0 a0 (A' := A') (B' := B') (fun k _ _ => f1 k (by omega) (by omega)) (fun j _ _ => g0 j (by omega) (by omega) (by omega) (by omega) (by omega))
  have xA1 := EA_cg_1 a1 (A' := A') (B' := B') (fun k _ _ => f1 k (by omega) (by omega)) (fun j _ _ => g0 j (by omega) (by omega) (by omega) (by omega) (by omega))
  have xP0 := EP_cg_0 x0 (A' := A') (B' := B') (by rw [f9]; rfl) (f1 10 (by decide) (by decide)) (by rw [fc]; rfl) (by rw [fc]; rfl) (fun j hj => g0 j (by omega) (by omega) (by omega) (by omega) (by omega))
  have xP1 := EP_cg_1 x1 (A' := A') (B' := B') (by rw [f9]; rfl) (f1 15 (by decide) (by decide)) (by rw [f1 14 (by decide) (by decide)]) (by rw [f1 14 (by decide) (by decide)]) (fun j hj => g0 j (by omega) (by omega) (by omega) (by omega) (by omega))
  have xB : IB A' := by
    obtain ⟨⟨⟨b1, b2, b3⟩, ⟨b4, b5, b6⟩, b7, b8⟩, ⟨⟨b9, b10⟩, b11, b12⟩, b13, ⟨b14, b15⟩, b16, b17, b18⟩ := iB
    unfold IB
    rw [off, f1 30 (by decide) (by decide), f1 20 (by decide) (by decide), f1 25 (by decide) (by decide), f1 3 (by decide) (by decide), f1 6 (by decide) (by decide), f1 5 (by decide) (by decide), f1 8 (by decide) (by decide), f1 37 (by decide) (by decide), f1 0 (by decide) (by decide), f1 10 (by decide) (by decide), f1 15 (by decide) (by decide), f1 14 (by decide) (by decide), fc, fc]
    exact ⟨⟨⟨Or.inl rfl, b2, b3⟩, ⟨b4, b5, b6⟩, b7, b8⟩, ⟨⟨b9, b10⟩, b11, b12⟩, b13, ⟨b14, b15⟩, fun q => absurd q (by decide), b17, b18⟩
  have xI : IP n A' := by
    unfold IP
    rw [off]
    obtain ⟨k, h1, h2, h3⟩ := iP
    exact ⟨k, h1, by rw [f9]; exact h2, fun q => absurd q (by decide)⟩
  exact ⟨⟨⟨xS, xK, xF⟩, ⟨xNt, xA0, xP0⟩, xNo, xA1, xP1⟩, ⟨IN_cg iN (f1 2 (by decide) (by decide)), xB, xI⟩, fun q => by rw [off] at q; exact absurd q (by decide)⟩
theorem close_R_0 {n : Nat} {A B : mx_Mem} {g : Int32} (h : RW_0 n A B) (hg : g = tgt (A.1 2) (A.1 9 8) (A.1 14 8)) : clR A 9 14 = ptR_0 B g ∧ RR n (clM A 9 14 0) (ptM_0 B g) := by
  have h' := h
  obtain ⟨⟨⟨hS, hK, hF⟩, ⟨n0, a0, x0⟩, n1, a1, x1⟩, ⟨iN, iB, iP⟩, ho, it, p0, p1, st, cap, ⟨P1, P2, P3, P4⟩, ⟨P5, P6, P7, P8⟩, P9, P10⟩ := h
  have q1 := hS.1.1 1 (by decide)
  have q3 := hS.1.1 3 (by decide)
  have z0 := n0.1
  have z1 := n1.1
  have hW : clW A 9 14 ↔ ptW_0 B g := by
    show (A.1 2 1 ≤ A.1 9 7 ∨ (tgt (A.1 2) (A.1 9 8) (A.1 14 8) ≤ A.1 9 7 ∧ 2 ≤ A.1 9 7 - A.1 14 7)) ↔ ((g ≤ B.1 52 6 ∧ 2 ≤ B.1 52 6 - B.1 52 56) ∨ B.1 49 1 ≤ B.1 52 6)
    rw [← hg, q1, z0.1, z1.1]
    exact Or.comm
  unfold clR clM ptR_0 ptM_0
  by_cases w : clW A 9 14
  · have w2 := hW.mp w
    rw [if_pos w, if_pos w, if_pos w2, if_pos w2]
    have hM : (A.1 2 3 ≤ A.1 9 8 + 1) ↔ (B.1 49 3 ≤ B.1 52 7 + 1) := by rw [q3, z0.2.1]
    have cN : ∀ j, (clN A 9 0).1 9 j = if j = 8 then A.1 9 8 + 1 else A.1 9 j := fun j => by unfold clN; simp only [mI_ap]; simp
    have c9 : ∀ j, (clN A 9 0).1 19 j = if j = 5 then 0 else if j = 1 then 0 else A.1 19 j := fun j => by unfold clN; simp only [mI_ap]; simp
    have c1 : ∀ k, k ≠ 9 → k ≠ 19 → (clN A 9 0).1 k = A.1 k := fun k m1 m2 => funext fun j => by unfold clN; rw [mI_ne _ _ _ _ m2, mI_ne _ _ _ _ m2, mI_ne _ _ _ _ m1]
    have d0 : ∀ j, (ptN_0 B).1 52 j = if j = 7 then B.1 52 7 + 1 else if j = 5 then 0 else if j = 2 then -1 else if j = 1 then 0 else B.1 52 j := fun j => by unfold ptN_0; simp only [mI_ap]; simp
    have d1 : ∀ k, k ≠ 52 → (ptN_0 B).1 k = B.1 k := fun k m => funext fun j => by unfold ptN_0; rw [mI_ne _ _ _ _ m, mI_ne _ _ _ _ m, mI_ne _ _ _ _ m, mI_ne _ _ _ _ m]
    generalize clN A 9 0 = A1 at cN c9 c1 ⊢
    generalize ptN_0 B = B1 at d0 d1 ⊢
    by_cases m : A.1 2 3 ≤ A.1 9 8 + 1
    · rw [if_pos m, if_pos m, if_pos (hM.mp m), if_pos (hM.mp m)]
      refine ⟨rfl, close_mk_0 (w := 0) (w' := 0) h' rfl (fun j => by rw [mI_ne _ _ _ _ (by decide)]; exact cN j) (fun j => by rw [mI_ap, c9]; simp) (fun k m1 m2 => funext fun j => by rw [mI_ne _ _ _ _ m2, c1 k m1 m2]) (fun j => by rw [mI_ap, d0]; simp) (fun k m1 => funext fun j => by rw [mI_ne _ _ _ _ m1, d1 k m1])⟩
    · have m2 := fun y => m (hM.mpr y)
      rw [if_neg m, if_neg m, if_neg m2, if_neg m2]
      refine ⟨rfl, close_mk_0 (w := A.1 19 6) (w' := B.1 52 4) h' hK.1.2.2.2.1 cN (fun j => ?_) c1 (fun j => ?_) d1⟩
      · rw [c9]
        by_cases j6 : j = 6
        · subst j6; rfl
        · rw [if_neg j6]
      · rw [d0]
        by_cases j4 : j = 4
        · subst j4; rfl
        · rw [if_neg j4]
  · have w2 := fun y => w (hW.mpr y)
    rw [if_neg w, if_neg w, if_neg w2, if_neg w2]
    refine ⟨rfl, ⟨⟨hS, hK, hF⟩, ⟨n0, a0, x0⟩, n1, a1, x1⟩, ⟨iN, iB, iP⟩, fun _ => ⟨it, p0, p1, st, cap, ⟨P1, P2, P3, P4⟩, ?_, ?_⟩⟩
    · have : ¬ nI cap ≤ nI p0 := fun y => w (Or.inl (by rw [P4, P1]; exact y))
      rw [nI_leI (by omega) (by omega)] at this
      omega
    · first | exact Or.inl ⟨P9, fun _ => P10⟩ | exact Or.inr ⟨P9, fun _ => P10⟩
theorem point_R_0 {φ : Prop} {n : Nat} {A B : mx_Mem} (hn : n ≤ 1000) (hφ : A.1 19 2 = 0 → φ) (h : RG φ n A B) (ho : A.1 19 1 = 1) : clR (wrM A 9 0) 9 14 = ptR_0 (ptB_0 B) (tgM B) ∧ RR n (clM (wrM A 9 0) 9 14 0) (ptM_0 (ptB_0 B) (tgM B)) := by
  have hg : tgM B = tgt ((wrM A 9 0).1 2) ((wrM A 9 0).1 9 8) ((wrM A 9 0).1 14 8) := by
    obtain ⟨w1, w2, w3⟩ := wrM_8_0 A
    rw [w1, w2, w3]
    exact (tgE h.1 h.2.1.1).trans rfl
  have hsv : B.1 52 2 = A.1 19 2 := by rw [h.1.1.2.1.2.1, if_pos ho]
  refine close_R_0 ?_ hg
  unfold ptB_0
  rw [hsv]
  by_cases hs : A.1 19 2 = 0
  · rw [if_pos hs]
    exact serve_R_0 hn hφ h ho hs
  · rw [if_neg hs]
    exact side_R_0 hn h ho hs
theorem rally_R_0 {n : Nat} {A B : mx_Mem} (hn : n ≤ 1000) (h : RR n A B) : rlR A 9 14 0 = (if B.1 52 1 = 1 then ptR_0 (ptB_0 B) (tgM B) else -1) ∧ RR n (rlM A 9 14 0) (if B.1 52 1 = 1 then ptM_0 (ptB_0 B) (tgM B) else B) := by
  have q := on_R h
  unfold rlR rlM
  by_cases hoff : A.1 19 1 = 0
  · have q2 := q.mp hoff
    rw [if_pos hoff, if_pos hoff, if_neg q2, if_neg q2]
    exact ⟨rfl, h⟩
  · have q2 : B.1 52 1 = 1 := Classical.not_not.mp fun y => hoff (q.mpr y)
    rw [if_neg hoff, if_neg hoff, if_pos q2, if_pos q2]
    exact point_R_0 hn (fun _ => trivial) h ((isB_ne h.2.1.2.1.1.1.1).mp hoff)
theorem wrM_8_1 (A : mx_Mem) : (wrM A 14 1).1 2 = A.1 2 ∧ (wrM A 14 1).1 9 8 = A.1 9 8 ∧ (wrM A 14 1).1 14 8 = A.1 14 8 := by
  unfold wrM wrB wrA
  dsimp only
  by_cases h : A.1 19 2 = 1
  · rw [if_pos h]
    unfold csM
    exact ⟨rfl, rfl, rfl⟩
  · rw [if_neg h]
    unfold tnM
    dsimp only
    split
    · exact ⟨rfl, rfl, rfl⟩
    · exact ⟨rfl, rfl, rfl⟩
theorem close_mk_1 {n : Nat} {A B A' B' : mx_Mem} {w w' : Int32} (h : RW_1 n A B) (hw : w = w') (fc : ∀ j, A'.1 14 j = if j = 8 then A.1 14 8 + 1 else A.1 14 j) (f9 : ∀ j, A'.1 19 j = if j = 6 then w else if j = 5 then 1 else if j = 1 then 0 else A.1 19 j) (f1 : ∀ k, k ≠ 14 → k ≠ 19 → A'.1 k = A.1 k) (g : ∀ j, B'.1 52 j = if j = 4 then w' else if j = 57 then B.1 52 57 + 1 else if j = 5 then 1 else if j = 2 then -1 else if j = 1 then 0 else B.1 52 j) (g1 : ∀ k, k ≠ 52 → B'.1 k = B.1 k) : RR n A' B' := by
  obtain ⟨⟨⟨hS, hK, hF⟩, ⟨n0, a0, x0⟩, n1, a1, x1⟩, ⟨iN, iB, iP⟩, ho, it, -⟩ := h
  have g0 : ∀ j, j ≠ 4 → j ≠ 57 → j ≠ 5 → j ≠ 2 → j ≠ 1 → B'.1 52 j = B.1 52 j := fun j m1 m2 m3 m4 m5 => by rw [g, if_neg m1, if_neg m2, if_neg m3, if_neg m4, if_neg m5]
  have off : A'.1 19 1 = 0 := by rw [f9]; rfl
  have xS : ES A' B' := ES_cg hS (fun k hk => f1 k (by omega) (by omega)) (fun k _ _ => g1 k (by omega)) (fun j _ => by rw [g1 46 (by decide)])
  have xK : EK A' B' := by
    obtain ⟨⟨k1, k2, k3, k4, k5⟩, k6, k7, k8⟩ := hK
    refine ⟨⟨?_, ?_, ?_, ?_, ?_⟩, ?_, ?_, ?_⟩
    · rw [f9, g0 _ (by decide) (by decide) (by decide) (by decide) (by decide)]; exact k1
    · rw [f9, g]; rfl
    · rw [f9, g0 _ (by decide) (by decide) (by decide) (by decide) (by decide)]; exact k3
    · rw [f9, g, hw]; rfl
    · rw [f9, g]; rfl
    · rw [off, if_neg (by decide), g]; rfl
    · rw [f9, f9, g0 _ (by decide) (by decide) (by decide) (by decide) (by decide)]; exact k7
    · rw [f9, f9, g0 _ (by decide) (by decide) (by decide) (by decide) (by decide)]; exact k8
  have xF : EF A' B' := fun q => by rw [off] at q; exact absurd q (by decide)
  have xNt : EN_1 A' B' := by
    have nt : EN_1 A B := by first | exact n0 | exact n1
    obtain ⟨⟨z1, z2, z3⟩, z4, z5, z6⟩ := nt
    refine ⟨⟨?_, ?_, ?_⟩, ?_, ?_, ?_⟩
    · rw [fc, g0 _ (by decide) (by decide) (by decide) (by decide) (by decide)]; exact z1
    · rw [fc, g, z2]; rfl
    · rw [fc, g0 _ (by decide) (by decide) (by decide) (by decide) (by decide)]; exact z3
    · rw [fc, g0 _ (by decide) (by decide) (by decide) (by decide) (by decide)]; exact z4
    · rw [fc, g0 _ (by decide) (by decide) (by decide) (by decide) (by decide)]; exact z5
    · rw [fc, g0 _ (by decide) (by decide) (by decide) (by decide) (by decide)]; exact z6
  have xNo := EN_cg_0 n0 (A' := A') (B' := B') (fun j _ _ => by rw [f1 9 (by decide) (by decide)]) (fun j hj => g0 j (by omega) (by omega) (by omega) (by omega) (by omega))
  have xA0 := EA_cg_0 a0 (A' := A') (B' := B') (fun k _ _ => f1 k (by omega) (by omega)) (fun j _ _ => g0 j (by omega) (by omega) (by omega) (by omega) (by omega))
  have xA1 := EA_cg_1 a1 (A' := A') (B' := B') (fun k _ _ => f1 k (by omega) (by omega)) (fun j _ _ => g0 j (by omega) (by omega) (by omega) (by omega) (by omega))
  have xP0 := EP_cg_0 x0 (A' := A') (B' := B') (by rw [f9]; rfl) (f1 10 (by decide) (by decide)) (by rw [f1 9 (by decide) (by decide)]) (by rw [f1 9 (by decide) (by decide)]) (fun j hj => g0 j (by omega) (by omega) (by omega) (by omega) (by omega))
  have xP1 := EP_cg_1 x1 (A' := A') (B' := B') (by rw [f9]; rfl) (f1 15 (by decide) (by decide)) (by rw [fc]; rfl) (by rw [fc]; rfl) (fun j hj => g0 j (by omega) (by omega) (by omega) (by omega) (by omega))
  have xB : IB A' := by
    obtain ⟨⟨⟨b1, b2, b3⟩, ⟨b4, b5, b6⟩, b7, b8⟩, ⟨⟨b9, b10⟩, b11, b12⟩, b13, ⟨b14, b15⟩, b16, b17, b18⟩ := iB
    unfold IB
    rw [off, f1 30 (by decide) (by decide), f1 20 (by decide) (by decide), f1 25 (by decide) (by decide), f1 3 (by decide) (by decide), f1 6 (by decide) (by decide), f1 5 (by decide) (by decide), f1 8 (by decide) (by decide), f1 37 (by decide) (by decide), f1 0 (by decide) (by decide), f1 10 (by decide) (by decide), f1 15 (by decide) (by decide), f1 9 (by decide) (by decide), fc, fc]
    exact ⟨⟨⟨Or.inl rfl, b2, b3⟩, ⟨b4, b5, b6⟩, b7, b8⟩, ⟨⟨b9, b10⟩, b11, b12⟩, b13, ⟨b14, b15⟩, fun q => absurd q (by decide), b17, b18⟩
  have xI : IP n A' := by
    unfold IP
    rw [off]
    obtain ⟨k, h1, h2, h3⟩ := iP
    exact ⟨k, h1, by rw [f9]; exact h2, fun q => absurd q (by decide)⟩
  exact ⟨⟨⟨xS, xK, xF⟩, ⟨xNo, xA0, xP0⟩, xNt, xA1, xP1⟩, ⟨IN_cg iN (f1 2 (by decide) (by decide)), xB, xI⟩, fun q => by rw [off] at q; exact absurd q (by decide)⟩
theorem close_R_1 {n : Nat} {A B : mx_Mem} {g : Int32} (h : RW_1 n A B) (hg : g = tgt (A.1 2) (A.1 14 8) (A.1 9 8)) : clR A 14 9 = ptR_1 B g ∧ RR n (clM A 14 9 1) (ptM_1 B g) := by
  have h' := h
  obtain ⟨⟨⟨hS, hK, hF⟩, ⟨n0, a0, x0⟩, n1, a1, x1⟩, ⟨iN, iB, iP⟩, ho, it, p0, p1, st, cap, ⟨P1, P2, P3, P4⟩, ⟨P5, P6, P7, P8⟩, P9, P10⟩ := h
  have q1 := hS.1.1 1 (by decide)
  have q3 := hS.1.1 3 (by decide)
  have z0 := n0.1
  have z1 := n1.1
  have hW : clW A 14 9 ↔ ptW_1 B g := by
    show (A.1 2 1 ≤ A.1 14 7 ∨ (tgt (A.1 2) (A.1 14 8) (A.1 9 8) ≤ A.1 14 7 ∧ 2 ≤ A.1 14 7 - A.1 9 7)) ↔ ((g ≤ B.1 52 56 ∧ 2 ≤ B.1 52 56 - B.1 52 6) ∨ B.1 49 1 ≤ B.1 52 56)
    rw [← hg, q1, z0.1, z1.1]
    exact Or.comm
  unfold clR clM ptR_1 ptM_1
  by_cases w : clW A 14 9
  · have w2 := hW.mp w
    rw [if_pos w, if_pos w, if_pos w2, if_pos w2]
    have hM : (A.1 2 3 ≤ A.1 14 8 + 1) ↔ (B.1 49 3 ≤ B.1 52 57 + 1) := by rw [q3, z1.2.1]
    have cN : ∀ j, (clN A 14 1).1 14 j = if j = 8 then A.1 14 8 + 1 else A.1 14 j := fun j => by unfold clN; simp only [mI_ap]; simp
    have c9 : ∀ j, (clN A 14 1).1 19 j = if j = 5 then 1 else if j = 1 then 0 else A.1 19 j := fun j => by unfold clN; simp only [mI_ap]; simp
    have c1 : ∀ k, k ≠ 14 → k ≠ 19 → (clN A 14 1).1 k = A.1 k := fun k m1 m2 => funext fun j => by unfold clN; rw [mI_ne _ _ _ _ m2, mI_ne _ _ _ _ m2, mI_ne _ _ _ _ m1]
    have d0 : ∀ j, (ptN_1 B).1 52 j = if j = 57 then B.1 52 57 + 1 else if j = 5 then 1 else if j = 2 then -1 else if j = 1 then 0 else B.1 52 j := fun j => by unfold ptN_1; simp only [mI_ap]; simp
    have d1 : ∀ k, k ≠ 52 → (ptN_1 B).1 k = B.1 k := fun k m => funext fun j => by unfold ptN_1; rw [mI_ne _ _ _ _ m, mI_ne _ _ _ _ m, mI_ne _ _ _ _ m, mI_ne _ _ _ _ m]
    generalize clN A 14 1 = A1 at cN c9 c1 ⊢
    generalize ptN_1 B = B1 at d0 d1 ⊢
    by_cases m : A.1 2 3 ≤ A.1 14 8 + 1
    · rw [if_pos m, if_pos m, if_pos (hM.mp m), if_pos (hM.mp m)]
      refine ⟨rfl, close_mk_1 (w := 1) (w' := 1) h' rfl (fun j => by rw [mI_ne _ _ _ _ (by decide)]; exact cN j) (fun j => by rw [mI_ap, c9]; simp) (fun k m1 m2 => funext fun j => by rw [mI_ne _ _ _ _ m2, c1 k m1 m2]) (fun j => by rw [mI_ap, d0]; simp) (fun k m1 => funext fun j => by rw [mI_ne _ _ _ _ m1, d1 k m1])⟩
    · have m2 := fun y => m (hM.mpr y)
      rw [if_neg m, if_neg m, if_neg m2, if_neg m2]
      refine ⟨rfl, close_mk_1 (w := A.1 19 6) (w' := B.1 52 4) h' hK.1.2.2.2.1 cN (fun j => ?_) c1 (fun j => ?_) d1⟩
      · rw [c9]
        by_cases j6 : j = 6
        · subst j6; rfl
        · rw [if_neg j6]
      · rw [d0]
        by_cases j4 : j = 4
        · subst j4; rfl
        · rw [if_neg j4]
  · have w2 := fun y => w (hW.mpr y)
    rw [if_neg w, if_neg w, if_neg w2, if_neg w2]
    refine ⟨rfl, ⟨⟨hS, hK, hF⟩, ⟨n0, a0, x0⟩, n1, a1, x1⟩, ⟨iN, iB, iP⟩, fun _ => ⟨it, p0, p1, st, cap, ⟨P1, P2, P3, P4⟩, ?_, ?_⟩⟩
    · have : ¬ nI cap ≤ nI p1 := fun y => w (Or.inl (by rw [P4, P2]; exact y))
      rw [nI_leI (by omega) (by omega)] at this
      omega
    · first | exact Or.inl ⟨P9, fun _ => P10⟩ | exact Or.inr ⟨P9, fun _ => P10⟩
theorem point_R_1 {φ : Prop} {n : Nat} {A B : mx_Mem} (hn : n ≤ 1000) (hφ : A.1 19 2 = 1 → φ) (h : RG φ n A B) (ho : A.1 19 1 = 1) : clR (wrM A 14 1) 14 9 = ptR_1 (ptB_1 B) (tgM B) ∧ RR n (clM (wrM A 14 1) 14 9 1) (ptM_1 (ptB_1 B) (tgM B)) := by
  have hg : tgM B = tgt ((wrM A 14 1).1 2) ((wrM A 14 1).1 14 8) ((wrM A 14 1).1 9 8) := by
    obtain ⟨w1, w2, w3⟩ := wrM_8_1 A
    rw [w1, w2, w3]
    exact (tgE h.1 h.2.1.1).trans (tgt_sw _ _ _)
  have hsv : B.1 52 2 = A.1 19 2 := by rw [h.1.1.2.1.2.1, if_pos ho]
  refine close_R_1 ?_ hg
  unfold ptB_1
  rw [hsv]
  by_cases hs : A.1 19 2 = 1
  · rw [if_pos hs]
    exact serve_R_1 hn hφ h ho hs
  · rw [if_neg hs]
    exact side_R_1 hn h ho hs
theorem rally_R_1 {n : Nat} {A B : mx_Mem} (hn : n ≤ 1000) (h : RR n A B) : rlR A 14 9 1 = (if B.1 52 1 = 1 then ptR_1 (ptB_1 B) (tgM B) else -1) ∧ RR n (rlM A 14 9 1) (if B.1 52 1 = 1 then ptM_1 (ptB_1 B) (tgM B) else B) := by
  have q := on_R h
  unfold rlR rlM
  by_cases hoff : A.1 19 1 = 0
  · have q2 := q.mp hoff
    rw [if_pos hoff, if_pos hoff, if_neg q2, if_neg q2]
    exact ⟨rfl, h⟩
  · have q2 : B.1 52 1 = 1 := Classical.not_not.mp fun y => hoff (q.mpr y)
    rw [if_neg hoff, if_neg hoff, if_pos q2, if_pos q2]
    exact point_R_1 hn (fun _ => trivial) h ((isB_ne h.2.1.2.1.1.1.1).mp hoff)

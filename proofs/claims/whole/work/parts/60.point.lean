/-! the coupling: a point -/
/-- behind a rally of team t, before the set may be closed -/
def RW_0 (n : Nat) (A B : mx_Mem) : Prop := RE A B ∧ (IN A ∧ IB A ∧ IP n A) ∧ A.1 19 1 = 1 ∧ (IT_0 A ∧ IT_1 A) ∧ ∃ p0 p1 st cap : Nat, (A.1 9 7 = nI p0 ∧ A.1 14 7 = nI p1 ∧ A.1 19 3 = nI st ∧ A.1 2 1 = nI cap) ∧ (p0 ≤ cap ∧ p1 ≤ cap ∧ cap ≤ 30 ∧ p1 < cap) ∧ A.1 19 2 = 0 ∧ st ≤ p0
theorem RW_mk_0 {φ : Prop} {n : Nat} {A B A1 B1 : mx_Mem} (h : RG φ n A B) (hA : ∀ k, (k < 9 ∨ 20 ≤ k) → A1.1 k = A.1 k) (hB : ∀ k, k ≠ 52 → B1.1 k = B.1 k) (eK : EK A1 B1) (on1 : A1.1 19 1 = 1) (on0 : A.1 19 1 = 1) (num : A1.1 19 0 = A.1 19 0) (e0 : EN_0 A1 B1 ∧ EA_0 A1 B1 ∧ EP_0 A1 B1) (e1 : EN_1 A1 B1 ∧ EA_1 A1 B1 ∧ EP_1 A1 B1) (ib : isB (A1.1 9 6) ∧ isB (A1.1 14 6)) (jf : isF (A1.1 9 5) ∧ isF (A1.1 14 5)) (io : ∀ k, k < 6 → isP (A1.1 10 k) ∧ isP (A1.1 15 k)) (it : IT_0 A1 ∧ IT_1 A1) (pts : ∃ p0 p1 st cap : Nat, (A1.1 9 7 = nI p0 ∧ A1.1 14 7 = nI p1 ∧ A1.1 19 3 = nI st ∧ A1.1 2 1 = nI cap) ∧ (p0 ≤ cap ∧ p1 ≤ cap ∧ cap ≤ 30 ∧ p1 < cap) ∧ A1.1 19 2 = 0 ∧ st ≤ p0) : RW_0 n A1 B1 := by
  obtain ⟨⟨⟨hS, hK, hF⟩, -, -⟩, ⟨iN, iB, iP⟩, -⟩ := h
  have xS : ES A1 B1 := ES_cg hS (fun k hk => hA k (by omega)) (fun k _ _ => hB k (by omega)) (fun j _ => by rw [hB 46 (by decide)])
  have xF : EF A1 B1 := EF_cg hF (on1.trans on0.symm) (fun k _ _ => hA k (by omega)) (hB 54 (by decide)) (hB 55 (by decide))
  have xB : IB A1 := by
    obtain ⟨⟨⟨b1, b2, b3⟩, ⟨b4, b5, b6⟩, b7, b8⟩, ⟨⟨b9, b10⟩, b11, b12⟩, b13, ⟨b14, b15⟩, b16, b17, b18⟩ := iB
    unfold IB
    rw [on1, hA 30 (by omega), hA 20 (by omega), hA 25 (by omega), hA 3 (by omega), hA 6 (by omega), hA 5 (by omega), hA 8 (by omega), hA 37 (by omega), hA 0 (by omega)]
    exact ⟨⟨⟨Or.inr rfl, ib.1, ib.2⟩, ⟨b4, b5, b6⟩, jf.1, jf.2⟩, ⟨⟨b9, b10⟩, b11, b12⟩, io, ⟨b14, b15⟩, fun _ => b16 on0, b17, b18⟩
  have xI : IP n A1 := by
    unfold IP
    rw [num, on1]
    obtain ⟨k, h1, h2, h3⟩ := iP
    exact ⟨k, h1, h2, fun _ => h3 on0⟩
  exact ⟨⟨⟨xS, eK, xF⟩, e0, e1⟩, ⟨IN_cg iN (hA 2 (by omega)), xB, xI⟩, on1, it, pts⟩
theorem serve_R_0 {φ : Prop} {n : Nat} {A B : mx_Mem} (hn : n ≤ 1000) (hφ : A.1 19 2 = 0 → φ) (h : RG φ n A B) (ho : A.1 19 1 = 1) (hs : A.1 19 2 = 0) : RW_0 n (wrM A 9 0) (ptS_0 (ptA_0 B) (B.1 52 14)) := by
  obtain ⟨⟨t0, t1⟩, p0, p1, st, cap, ⟨P1, P2, P3, P4⟩, ⟨P5, P6, P7⟩, P8⟩ := h.2.2 ho
  have hO : ∀ k, k < 6 → isP (A.1 10 k) ∧ isP (A.1 15 k) := h.2.1.2.1.2.2.1
  have hEK := h.1.1.2.1
  obtain ⟨n0, a0, x0⟩ := h.1.2.1
  obtain ⟨n1, a1, x1⟩ := h.1.2.2
  have hpl : B.1 52 14 = A.1 10 0 := by
    rcases plE_0 h hn ho with ⟨e1, e2, e3⟩ | ⟨f, hf, e1, e4, e5, e6, e7, e8⟩
    · exact e3 0 (by decide)
    · exact e8 0 (by decide) (by omega)
  obtain ⟨s, hs12, es⟩ := isP_n (by first | exact (hO 0 (by decide)).1 | exact (hO 0 (by decide)).2 : isP (A.1 10 0))
  have eA1 : wrM A 9 0 = mI (mI (mI (mI (mI (mI A 9 7 (A.1 9 7 + 1)) 13 s (A.1 13 s + 1)) 19 3 (A.1 19 3 + 1)) 19 4 (A.1 19 4 + 1)) 9 6 0) 14 6 0 := by
    have e : (mI A 9 7 (A.1 9 7 + 1)).1 10 0 = nI s := es
    unfold wrM wrB wrA csM
    dsimp only
    rw [if_pos hs, e, nI_clamp (by omega)]
    rfl
  have eB1 : ptS_0 (ptA_0 B) (B.1 52 14) = mI (mI (mI (mI (mI (mI B 52 3 (B.1 52 3 + 1)) 52 13 0) 52 63 0) 52 6 (B.1 52 6 + 1)) 52 11 (B.1 52 11 + 1)) 52 (s + 44) (B.1 52 (s + 44) + 1) := by
    unfold ptS_0 ptA_0
    dsimp only
    rw [hpl, es, nI_clamp (by omega)]
    have e2 : (mI (mI (mI (mI (mI B 52 3 (B.1 52 3 + 1)) 52 13 0) 52 63 0) 52 6 (B.1 52 6 + 1)) 52 11 ((mI (mI (mI (mI B 52 3 (B.1 52 3 + 1)) 52 13 0) 52 63 0) 52 6 (B.1 52 6 + 1)).1 52 11 + 1)).1 52 (s + 44) = B.1 52 (s + 44) := by
      rw [mI_nj _ _ _ (by omega), mI_nj _ _ _ (by omega), mI_nj _ _ _ (by omega), mI_nj _ _ _ (by omega), mI_nj _ _ _ (by omega)]
    rw [e2]
    rfl
  rw [eA1, eB1]
  generalize hA2 : mI (mI (mI (mI (mI (mI A 9 7 (A.1 9 7 + 1)) 13 s (A.1 13 s + 1)) 19 3 (A.1 19 3 + 1)) 19 4 (A.1 19 4 + 1)) 9 6 0) 14 6 0 = A2
  generalize hB2 : mI (mI (mI (mI (mI (mI B 52 3 (B.1 52 3 + 1)) 52 13 0) 52 63 0) 52 6 (B.1 52 6 + 1)) 52 11 (B.1 52 11 + 1)) 52 (s + 44) (B.1 52 (s + 44) + 1) = B2
  have f1 : ∀ k, k ≠ 9 → k ≠ 14 → k ≠ 19 → k ≠ 13 → A2.1 k = A.1 k := fun k m1 m2 m3 m4 => funext fun j => by
    rw [← hA2, mI_ne _ _ _ _ m2, mI_ne _ _ _ _ m1, mI_ne _ _ _ _ m3, mI_ne _ _ _ _ m3, mI_ne _ _ _ _ m4, mI_ne _ _ _ _ m1]
  have fc : ∀ j, A2.1 9 j = if j = 6 then 0 else if j = 7 then A.1 9 7 + 1 else A.1 9 j := fun j => by
    rw [← hA2]; simp [mI_ap]
  have fo : ∀ j, A2.1 14 j = if j = 6 then 0 else A.1 14 j := fun j => by
    rw [← hA2]; simp [mI_ap]
  have f4 : ∀ p, A2.1 13 p = if p = s then A.1 13 s + 1 else A.1 13 p := fun j => by
    rw [← hA2]; simp [mI_ap]
  have f9 : ∀ j, A2.1 19 j = if j = 4 then A.1 19 4 + 1 else if j = 3 then A.1 19 3 + 1 else A.1 19 j := fun j => by
    rw [← hA2]; simp [mI_ap]
  have g1 : ∀ k, k ≠ 52 → B2.1 k = B.1 k := fun k m1 => funext fun j => by
    rw [← hB2, mI_ne _ _ _ _ m1, mI_ne _ _ _ _ m1, mI_ne _ _ _ _ m1, mI_ne _ _ _ _ m1, mI_ne _ _ _ _ m1, mI_ne _ _ _ _ m1]
  have gs : B2.1 52 (s + 44) = B.1 52 (s + 44) + 1 := by rw [← hB2, mI_self]
  have g0 : ∀ j, j ≠ 3 → j ≠ 13 → j ≠ 63 → j ≠ 6 → j ≠ 11 → j ≠ s + 44 → B2.1 52 j = B.1 52 j := fun j m1 m2 m3 m4 m5 m6 => by
    rw [← hB2, mI_nj _ _ _ m6, mI_nj _ _ _ m5, mI_nj _ _ _ m4, mI_nj _ _ _ m3, mI_nj _ _ _ m2, mI_nj _ _ _ m1]
  have g3 : B2.1 52 3 = B.1 52 3 + 1 := by rw [← hB2, mI_nj _ _ _ (by omega)]; simp [mI_ap]
  have g13 : B2.1 52 13 = 0 := by rw [← hB2, mI_nj _ _ _ (by omega)]; simp [mI_ap]
  have g63 : B2.1 52 63 = 0 := by rw [← hB2, mI_nj _ _ _ (by omega)]; simp [mI_ap]
  have gb : B2.1 52 6 = B.1 52 6 + 1 := by rw [← hB2, mI_nj _ _ _ (by omega)]; simp [mI_ap]
  have gb5 : B2.1 52 11 = B.1 52 11 + 1 := by rw [← hB2, mI_nj _ _ _ (by omega)]; simp [mI_ap]
  have hsv : ∀ p, p < 12 → A.1 13 p = B.1 52 (p + 44) → A2.1 13 p = B2.1 52 (p + 44) := fun p hp w => by
    rw [f4]
    by_cases e : p = s
    · rw [if_pos e, e, gs, ← e, ← w]
    · rw [if_neg e, g0 _ (by omega) (by omega) (by omega) (by omega) (by omega) (by omega)]; exact w
  clear hA2 hB2 eA1 eB1
  refine RW_mk_0 h (fun k hk => f1 k (by omega) (by omega) (by omega) (by omega)) g1 ?_ (by rw [f9]; exact ho) ho (by rw [f9]; rfl) ⟨?_, ?_, ?_⟩ ⟨?_, ?_, ?_⟩ ?_ ?_ (fun k hk => ?_) ⟨?_, ?_⟩ ?_
  · obtain ⟨⟨k1, k2, k3, k4, k5⟩, k6, k7, k8⟩ := hEK
    refine ⟨⟨?_, ?_, ?_, ?_, ?_⟩, ?_, ?_, ?_⟩
    · rw [f9, g0 _ (by omega) (by omega) (by omega) (by omega) (by omega) (by omega)]; exact k1
    · rw [f9, g0 _ (by omega) (by omega) (by omega) (by omega) (by omega) (by omega)]; exact k2
    · rw [f9, g3, ← k3]; rfl
    · rw [f9, g0 _ (by omega) (by omega) (by omega) (by omega) (by omega) (by omega)]; exact k4
    · rw [f9, g0 _ (by omega) (by omega) (by omega) (by omega) (by omega) (by omega)]; exact k5
    · rw [f9, f9, g0 _ (by omega) (by omega) (by omega) (by omega) (by omega) (by omega)]; exact k6
    · rw [f9, f9]
      show B2.1 52 11 = if A.1 19 2 = 0 then A.1 19 3 + 1 else 0
      rw [gb5, k7, if_pos hs, if_pos hs]
    · rw [f9, f9]
      show B2.1 52 61 = if A.1 19 2 = 1 then A.1 19 3 + 1 else 0
      rw [g0 _ (by omega) (by omega) (by omega) (by omega) (by omega) (by omega), k8, hs, if_neg (by decide), if_neg (by decide)]
  · obtain ⟨⟨z1, z2, z3⟩, z4, z5, z6⟩ := n0
    refine ⟨⟨?_, ?_, ?_⟩, ?_, ?_, ?_⟩
    · rw [fc, gb, ← z1]; rfl
    · rw [fc, g0 _ (by omega) (by omega) (by omega) (by omega) (by omega) (by omega)]; exact z2
    · rw [fc, g0 _ (by omega) (by omega) (by omega) (by omega) (by omega) (by omega)]; exact z3
    · rw [fc, g0 _ (by omega) (by omega) (by omega) (by omega) (by omega) (by omega)]; exact z4
    · rw [fc, g0 _ (by omega) (by omega) (by omega) (by omega) (by omega) (by omega)]; exact z5
    · rw [fc, g13]; rfl
  · intro p hp
    have w := a0 p hp
    rw [f1 11 (by decide) (by decide) (by decide) (by decide), f1 12 (by decide) (by decide) (by decide) (by decide), g0 (p + 20) (by omega) (by omega) (by omega) (by omega) (by omega) (by omega), g0 (p + 32) (by omega) (by omega) (by omega) (by omega) (by omega) (by omega)]
    refine ⟨w.1, ?_, w.2.2⟩
    exact hsv p hp w.2.1
  · exact EP_cg_0 x0 (by rw [f9]; rfl) (f1 10 (by decide) (by decide) (by decide) (by decide)) (by rw [fc]; rfl) (by rw [fc]; rfl) (fun j hj => g0 _ (by omega) (by omega) (by omega) (by omega) (by omega) (by omega))
  · obtain ⟨⟨z1, z2, z3⟩, z4, z5, z6⟩ := n1
    refine ⟨⟨?_, ?_, ?_⟩, ?_, ?_, ?_⟩
    · rw [fo, g0 _ (by omega) (by omega) (by omega) (by omega) (by omega) (by omega)]; exact z1
    · rw [fo, g0 _ (by omega) (by omega) (by omega) (by omega) (by omega) (by omega)]; exact z2
    · rw [fo, g0 _ (by omega) (by omega) (by omega) (by omega) (by omega) (by omega)]; exact z3
    · rw [fo, g0 _ (by omega) (by omega) (by omega) (by omega) (by omega) (by omega)]; exact z4
    · rw [fo, g0 _ (by omega) (by omega) (by omega) (by omega) (by omega) (by omega)]; exact z5
    · rw [fo, g63]; rfl
  · intro p hp
    have w := a1 p hp
    rw [f1 16 (by decide) (by decide) (by decide) (by decide), f1 17 (by decide) (by decide) (by decide) (by decide), g0 (p + 70) (by omega) (by omega) (by omega) (by omega) (by omega) (by omega), g0 (p + 82) (by omega) (by omega) (by omega) (by omega) (by omega) (by omega)]
    refine ⟨w.1, ?_, w.2.2⟩
    rw [f1 18 (by decide) (by decide) (by decide) (by decide), g0 _ (by omega) (by omega) (by omega) (by omega) (by omega) (by omega)]; exact w.2.1
  · exact EP_cg_1 x1 (by rw [f9]; rfl) (f1 15 (by decide) (by decide) (by decide) (by decide)) (by rw [fo]; rfl) (by rw [fo]; rfl) (fun j hj => g0 _ (by omega) (by omega) (by omega) (by omega) (by omega) (by omega))
  · exact ⟨by rw [fc]; exact Or.inl rfl, by rw [fo]; exact Or.inl rfl⟩
  · have hF := h.2.1.2.1.1.2.2
    exact ⟨by rw [fc]; exact hF.1, by rw [fo]; exact hF.2⟩
  · rw [f1 10 (by decide) (by decide) (by decide) (by decide), f1 15 (by decide) (by decide) (by decide) (by decide)]
    exact hO k hk
  · exact IT_cg_0 t0 (fun k _ _ => f1 k (by omega) (by omega) (by omega) (by omega)) (by rw [fc]; rfl) (by rw [fc]; rfl) (by rw [f1 3 (by decide) (by decide) (by decide) (by decide)])
  · exact IT_cg_1 t1 (fun k _ _ => f1 k (by omega) (by omega) (by omega) (by omega)) (by rw [fo]; rfl) (by rw [fo]; rfl) (by rw [f1 6 (by decide) (by decide) (by decide) (by decide)])
  · have hst : st ≤ p0 := by
      rcases P8 with ⟨q1, q2⟩ | ⟨q1, q2⟩
      · first | exact q2 (hφ hs) | exact absurd (q1.symm.trans hs) (by decide)
      · first | exact q2 (hφ hs) | exact absurd (q1.symm.trans hs) (by decide)
    refine ⟨p0 + 1, p1, st + 1, cap, ⟨?_, ?_, ?_, ?_⟩, by omega, ?_, by omega⟩
    · rw [fc]; show A.1 9 7 + 1 = _; rw [P1, nI_1]
    · rw [fo]; exact P2
    · rw [f9]; show A.1 19 3 + 1 = _; rw [P3, nI_1]
    · rw [f1 2 (by decide) (by decide) (by decide) (by decide)]; exact P4
    · rw [f9]; exact hs
/-- behind a rally of team t, before the set may be closed -/
def RW_1 (n : Nat) (A B : mx_Mem) : Prop := RE A B ∧ (IN A ∧ IB A ∧ IP n A) ∧ A.1 19 1 = 1 ∧ (IT_0 A ∧ IT_1 A) ∧ ∃ p0 p1 st cap : Nat, (A.1 9 7 = nI p0 ∧ A.1 14 7 = nI p1 ∧ A.1 19 3 = nI st ∧ A.1 2 1 = nI cap) ∧ (p0 ≤ cap ∧ p1 ≤ cap ∧ cap ≤ 30 ∧ p0 < cap) ∧ A.1 19 2 = 1 ∧ st ≤ p1
theorem RW_mk_1 {φ : Prop} {n : Nat} {A B A1 B1 : mx_Mem} (h : RG φ n A B) (hA : ∀ k, (k < 9 ∨ 20 ≤ k) → A1.1 k = A.1 k) (hB : ∀ k, k ≠ 52 → B1.1 k = B.1 k) (eK : EK A1 B1) (on1 : A1.1 19 1 = 1) (on0 : A.1 19 1 = 1) (num : A1.1 19 0 = A.1 19 0) (e0 : EN_0 A1 B1 ∧ EA_0 A1 B1 ∧ EP_0 A1 B1) (e1 : EN_1 A1 B1 ∧ EA_1 A1 B1 ∧ EP_1 A1 B1) (ib : isB (A1.1 9 6) ∧ isB (A1.1 14 6)) (jf : isF (A1.1 9 5) ∧ isF (A1.1 14 5)) (io : ∀ k, k < 6 → isP (A1.1 10 k) ∧ isP (A1.1 15 k)) (it : IT_0 A1 ∧ IT_1 A1) (pts : ∃ p0 p1 st cap : Nat, (A1.1 9 7 = nI p0 ∧ A1.1 14 7 = nI p1 ∧ A1.1 19 3 = nI st ∧ A1.1 2 1 = nI cap) ∧ (p0 ≤ cap ∧ p1 ≤ cap ∧ cap ≤ 30 ∧ p0 < cap) ∧ A1.1 19 2 = 1 ∧ st ≤ p1) : RW_1 n A1 B1 := by
  obtain ⟨⟨⟨hS, hK, hF⟩, -, -⟩, ⟨iN, iB, iP⟩, -⟩ := h
  have xS : ES A1 B1 := ES_cg hS (fun k hk => hA k (by omega)) (fun k _ _ => hB k (by omega)) (fun j _ => by rw [hB 46 (by decide)])
  have xF : EF A1 B1 := EF_cg hF (on1.trans on0.symm) (fun k _ _ => hA k (by omega)) (hB 54 (by decide)) (hB 55 (by decide))
  have xB : IB A1 := by
    obtain ⟨⟨⟨b1, b2, b3⟩, ⟨b4, b5, b6⟩, b7, b8⟩, ⟨⟨b9, b10⟩, b11, b12⟩, b13, ⟨b14, b15⟩, b16, b17, b18⟩ := iB
    unfold IB
    rw [on1, hA 30 (by omega), hA 20 (by omega), hA 25 (by omega), hA 3 (by omega), hA 6 (by omega), hA 5 (by omega), hA 8 (by omega), hA 37 (by omega), hA 0 (by omega)]
    exact ⟨⟨⟨Or.inr rfl, ib.1, ib.2⟩, ⟨b4, b5, b6⟩, jf.1, jf.2⟩, ⟨⟨b9, b10⟩, b11, b12⟩, io, ⟨b14, b15⟩, fun _ => b16 on0, b17, b18⟩
  have xI : IP n A1 := by
    unfold IP
    rw [num, on1]
    obtain ⟨k, h1, h2, h3⟩ := iP
    exact ⟨k, h1, h2, fun _ => h3 on0⟩
  exact ⟨⟨⟨xS, eK, xF⟩, e0, e1⟩, ⟨IN_cg iN (hA 2 (by omega)), xB, xI⟩, on1, it, pts⟩
theorem serve_R_1 {φ : Prop} {n : Nat} {A B : mx_Mem} (hn : n ≤ 1000) (hφ : A.1 19 2 = 1 → φ) (h : RG φ n A B) (ho : A.1 19 1 = 1) (hs : A.1 19 2 = 1) : RW_1 n (wrM A 14 1) (ptS_1 (ptA_1 B) (B.1 52 64)) := by
  obtain ⟨⟨t0, t1⟩, p0, p1, st, cap, ⟨P1, P2, P3, P4⟩, ⟨P5, P6, P7⟩, P8⟩ := h.2.2 ho
  have hO : ∀ k, k < 6 → isP (A.1 10 k) ∧ isP (A.1 15 k) := h.2.1.2.1.2.2.1
  have hEK := h.1.1.2.1
  obtain ⟨n0, a0, x0⟩ := h.1.2.1
  obtain ⟨n1, a1, x1⟩ := h.1.2.2
  have hpl : B.1 52 64 = A.1 15 0 := by
    rcases plE_1 h hn ho with ⟨e1, e2, e3⟩ | ⟨f, hf, e1, e4, e5, e6, e7, e8⟩
    · exact e3 0 (by decide)
    · exact e8 0 (by decide) (by omega)
  obtain ⟨s, hs12, es⟩ := isP_n (by first | exact (hO 0 (by decide)).1 | exact (hO 0 (by decide)).2 : isP (A.1 15 0))
  have eA1 : wrM A 14 1 = mI (mI (mI (mI (mI (mI A 14 7 (A.1 14 7 + 1)) 18 s (A.1 18 s + 1)) 19 3 (A.1 19 3 + 1)) 19 4 (A.1 19 4 + 1)) 9 6 0) 14 6 0 := by
    have e : (mI A 14 7 (A.1 14 7 + 1)).1 15 0 = nI s := es
    unfold wrM wrB wrA csM
    dsimp only
    rw [if_pos hs, e, nI_clamp (by omega)]
    rfl
  have eB1 : ptS_1 (ptA_1 B) (B.1 52 64) = mI (mI (mI (mI (mI (mI B 52 3 (B.1 52 3 + 1)) 52 13 0) 52 63 0) 52 56 (B.1 52 56 + 1)) 52 61 (B.1 52 61 + 1)) 52 (s + 94) (B.1 52 (s + 94) + 1) := by
    unfold ptS_1 ptA_1
    dsimp only
    rw [hpl, es, nI_clamp (by omega)]
    have e2 : (mI (mI (mI (mI (mI B 52 3 (B.1 52 3 + 1)) 52 13 0) 52 63 0) 52 56 (B.1 52 56 + 1)) 52 61 ((mI (mI (mI (mI B 52 3 (B.1 52 3 + 1)) 52 13 0) 52 63 0) 52 56 (B.1 52 56 + 1)).1 52 61 + 1)).1 52 (s + 94) = B.1 52 (s + 94) := by
      rw [mI_nj _ _ _ (by omega), mI_nj _ _ _ (by omega), mI_nj _ _ _ (by omega), mI_nj _ _ _ (by omega), mI_nj _ _ _ (by omega)]
    rw [e2]
    rfl
  rw [eA1, eB1]
  generalize hA2 : mI (mI (mI (mI (mI (mI A 14 7 (A.1 14 7 + 1)) 18 s (A.1 18 s + 1)) 19 3 (A.1 19 3 + 1)) 19 4 (A.1 19 4 + 1)) 9 6 0) 14 6 0 = A2
  generalize hB2 : mI (mI (mI (mI (mI (mI B 52 3 (B.1 52 3 + 1)) 52 13 0) 52 63 0) 52 56 (B.1 52 56 + 1)) 52 61 (B.1 52 61 + 1)) 52 (s + 94) (B.1 52 (s + 94) + 1) = B2
  have f1 : ∀ k, k ≠ 9 → k ≠ 14 → k ≠ 19 → k ≠ 18 → A2.1 k = A.1 k := fun k m1 m2 m3 m4 => funext fun j => by
    rw [← hA2, mI_ne _ _ _ _ m2, mI_ne _ _ _ _ m1, mI_ne _ _ _ _ m3, mI_ne _ _ _ _ m3, mI_ne _ _ _ _ m4, mI_ne _ _ _ _ m2]
  have fc : ∀ j, A2.1 14 j = if j = 6 then 0 else if j = 7 then A.1 14 7 + 1 else A.1 14 j := fun j => by
    rw [← hA2]; simp [mI_ap]
  have fo : ∀ j, A2.1 9 j = if j = 6 then 0 else A.1 9 j := fun j => by
    rw [← hA2]; simp [mI_ap]
  have f4 : ∀ p, A2.1 18 p = if p = s then A.1 18 s + 1 else A.1 18 p := fun j => by
    rw [← hA2]; simp [mI_ap]
  have f9 : ∀ j, A2.1 19 j = if j = 4 then A.1 19 4 + 1 else if j = 3 then A.1 19 3 + 1 else A.1 19 j := fun j => by
    rw [← hA2]; simp [mI_ap]
  have g1 : ∀ k, k ≠ 52 → B2.1 k = B.1 k := fun k m1 => funext fun j => by
    rw [← hB2, mI_ne _ _ _ _ m1, mI_ne _ _ _ _ m1, mI_ne _ _ _ _ m1, mI_ne _ _ _ _ m1, mI_ne _ _ _ _ m1, mI_ne _ _ _ _ m1]
  have gs : B2.1 52 (s + 94) = B.1 52 (s + 94) + 1 := by rw [← hB2, mI_self]
  have g0 : ∀ j, j ≠ 3 → j ≠ 13 → j ≠ 63 → j ≠ 56 → j ≠ 61 → j ≠ s + 94 → B2.1 52 j = B.1 52 j := fun j m1 m2 m3 m4 m5 m6 => by
    rw [← hB2, mI_nj _ _ _ m6, mI_nj _ _ _ m5, mI_nj _ _ _ m4, mI_nj _ _ _ m3, mI_nj _ _ _ m2, mI_nj _ _ _ m1]
  have g3 : B2.1 52 3 = B.1 52 3 + 1 := by rw [← hB2, mI_nj _ _ _ (by omega)]; simp [mI_ap]
  have g13 : B2.1 52 13 = 0 := by rw [← hB2, mI_nj _ _ _ (by omega)]; simp [mI_ap]
  have g63 : B2.1 52 63 = 0 := by rw [← hB2, mI_nj _ _ _ (by omega)]; simp [mI_ap]
  have gb : B2.1 52 56 = B.1 52 56 + 1 := by rw [← hB2, mI_nj _ _ _ (by omega)]; simp [mI_ap]
  have gb5 : B2.1 52 61 = B.1 52 61 + 1 := by rw [← hB2, mI_nj _ _ _ (by omega)]; simp [mI_ap]
  have hsv : ∀ p, p < 12 → A.1 18 p = B.1 52 (p + 94) → A2.1 18 p = B2.1 52 (p + 94) := fun p hp w => by
    rw [f4]
    by_cases e : p = s
    · rw [if_pos e, e, gs, ← e, ← w]
    · rw [if_neg e, g0 _ (by omega) (by omega) (by omega) (by omega) (by omega) (by omega)]; exact w
  clear hA2 hB2 eA1 eB1
  refine RW_mk_1 h (fun k hk => f1 k (by omega) (by omega) (by omega) (by omega)) g1 ?_ (by rw [f9]; exact ho) ho (by rw [f9]; rfl) ⟨?_, ?_, ?_⟩ ⟨?_, ?_, ?_⟩ ?_ ?_ (fun k hk => ?_) ⟨?_, ?_⟩ ?_
  · obtain ⟨⟨k1, k2, k3, k4, k5⟩, k6, k7, k8⟩ := hEK
    refine ⟨⟨?_, ?_, ?_, ?_, ?_⟩, ?_, ?_, ?_⟩
    · rw [f9, g0 _ (by omega) (by omega) (by omega) (by omega) (by omega) (by omega)]; exact k1
    · rw [f9, g0 _ (by omega) (by omega) (by omega) (by omega) (by omega) (by omega)]; exact k2
    · rw [f9, g3, ← k3]; rfl
    · rw [f9, g0 _ (by omega) (by omega) (by omega) (by omega) (by omega) (by omega)]; exact k4
    · rw [f9, g0 _ (by omega) (by omega) (by omega) (by omega) (by omega) (by omega)]; exact k5
    · rw [f9, f9, g0 _ (by omega) (by omega) (by omega) (by omega) (by omega) (by omega)]; exact k6
    · rw [f9, f9]
      show B2.1 52 11 = if A.1 19 2 = 0 then A.1 19 3 + 1 else 0
      rw [g0 _ (by omega) (by omega) (by omega) (by omega) (by omega) (by omega), k7, hs, if_neg (by decide), if_neg (by decide)]
    · rw [f9, f9]
      show B2.1 52 61 = if A.1 19 2 = 1 then A.1 19 3 + 1 else 0
      rw [gb5, k8, if_pos hs, if_pos hs]
  · obtain ⟨⟨z1, z2, z3⟩, z4, z5, z6⟩ := n0
    refine ⟨⟨?_, ?_, ?_⟩, ?_, ?_, ?_⟩
    · rw [fo, g0 _ (by omega) (by omega) (by omega) (by omega) (by omega) (by omega)]; exact z1
    · rw [fo, g0 _ (by omega) (by omega) (by omega) (by omega) (by omega) (by omega)]; exact z2
    · rw [fo, g0 _ (by omega) (by omega) (by omega) (by omega) (by omega) (by omega)]; exact z3
    · rw [fo, g0 _ (by omega) (by omega) (by omega) (by omega) (by omega) (by omega)]; exact z4
    · rw [fo, g0 _ (by omega) (by omega) (by omega) (by omega) (by omega) (by omega)]; exact z5
    · rw [fo, g13]; rfl
  · intro p hp
    have w := a0 p hp
    rw [f1 11 (by decide) (by decide) (by decide) (by decide), f1 12 (by decide) (by decide) (by decide) (by decide), g0 (p + 20) (by omega) (by omega) (by omega) (by omega) (by omega) (by omega), g0 (p + 32) (by omega) (by omega) (by omega) (by omega) (by omega) (by omega)]
    refine ⟨w.1, ?_, w.2.2⟩
    rw [f1 13 (by decide) (by decide) (by decide) (by decide), g0 _ (by omega) (by omega) (by omega) (by omega) (by omega) (by omega)]; exact w.2.1
  · exact EP_cg_0 x0 (by rw [f9]; rfl) (f1 10 (by decide) (by decide) (by decide) (by decide)) (by rw [fo]; rfl) (by rw [fo]; rfl) (fun j hj => g0 _ (by omega) (by omega) (by omega) (by omega) (by omega) (by omega))
  · obtain ⟨⟨z1, z2, z3⟩, z4, z5, z6⟩ := n1
    refine ⟨⟨?_, ?_, ?_⟩, ?_, ?_, ?_⟩
    · rw [fc, gb, ← z1]; rfl
    · rw [fc, g0 _ (by omega) (by omega) (by omega) (by omega) (by omega) (by omega)]; exact z2
    · rw [fc, g0 _ (by omega) (by omega) (by omega) (by omega) (by omega) (by omega)]; exact z3
    · rw [fc, g0 _ (by omega) (by omega) (by omega) (by omega) (by omega) (by omega)]; exact z4
    · rw [fc, g0 _ (by omega) (by omega) (by omega) (by omega) (by omega) (by omega)]; exact z5
    · rw [fc, g63]; rfl
  · intro p hp
    have w := a1 p hp
    rw [f1 16 (by decide) (by decide) (by decide) (by decide), f1 17 (by decide) (by decide) (by decide) (by decide), g0 (p + 70) (by omega) (by omega) (by omega) (by omega) (by omega) (by omega), g0 (p + 82) (by omega) (by omega) (by omega) (by omega) (by omega) (by omega)]
    refine ⟨w.1, ?_, w.2.2⟩
    exact hsv p hp w.2.1
  · exact EP_cg_1 x1 (by rw [f9]; rfl) (f1 15 (by decide) (by decide) (by decide) (by decide)) (by rw [fc]; rfl) (by rw [fc]; rfl) (fun j hj => g0 _ (by omega) (by omega) (by omega) (by omega) (by omega) (by omega))
  · exact ⟨by rw [fo]; exact Or.inl rfl, by rw [fc]; exact Or.inl rfl⟩
  · have hF := h.2.1.2.1.1.2.2
    exact ⟨by rw [fo]; exact hF.1, by rw [fc]; exact hF.2⟩
  · rw [f1 10 (by decide) (by decide) (by decide) (by decide), f1 15 (by decide) (by decide) (by decide) (by decide)]
    exact hO k hk
  · exact IT_cg_0 t0 (fun k _ _ => f1 k (by omega) (by omega) (by omega) (by omega)) (by rw [fo]; rfl) (by rw [fo]; rfl) (by rw [f1 3 (by decide) (by decide) (by decide) (by decide)])
  · exact IT_cg_1 t1 (fun k _ _ => f1 k (by omega) (by omega) (by omega) (by omega)) (by rw [fc]; rfl) (by rw [fc]; rfl) (by rw [f1 6 (by decide) (by decide) (by decide) (by decide)])
  · have hst : st ≤ p1 := by
      rcases P8 with ⟨q1, q2⟩ | ⟨q1, q2⟩
      · first | exact q2 (hφ hs) | exact absurd (q1.symm.trans hs) (by decide)
      · first | exact q2 (hφ hs) | exact absurd (q1.symm.trans hs) (by decide)
    refine ⟨p0, p1 + 1, st + 1, cap, ⟨?_, ?_, ?_, ?_⟩, by omega, ?_, by omega⟩
    · rw [fo]; exact P1
    · rw [fc]; show A.1 14 7 + 1 = _; rw [P2, nI_1]
    · rw [f9]; show A.1 19 3 + 1 = _; rw [P3, nI_1]
    · rw [f1 2 (by decide) (by decide) (by decide) (by decide)]; exact P4
    · rw [f9]; exact hs

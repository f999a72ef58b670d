/-! the coupling: a sheet -/
theorem RR_stat {n : Nat} {A B A' B' : mx_Mem} (h : RR n A B) (xS : ES A' B') (hA : ∀ k, 9 ≤ k → k < 37 → A'.1 k = A.1 k) (hB : ∀ k, k = 52 ∨ k = 54 ∨ k = 55 → B'.1 k = B.1 k) (xN : IN A') (xB : IB A') (hl : A.1 19 1 = 1 → A'.1 3 2 = A.1 3 2 ∧ A'.1 6 2 = A.1 6 2 ∧ A'.1 2 1 = A.1 2 1) : RR n A' B' := by
  obtain ⟨⟨⟨hS, hK, hF⟩, ⟨n0, a0, x0⟩, n1, a1, x1⟩, ⟨iN, iB, iP⟩, iQ⟩ := h
  have c := fun k h1 h2 => hA k h1 h2
  have b52 := hB 52 (by omega)
  refine ⟨⟨⟨xS, EK_cg hK (c 19 (by omega) (by omega)) (fun j _ => by rw [b52]), EF_cg hF (by rw [c 19 (by omega) (by omega)]) (fun k _ _ => c k (by omega) (by omega)) (hB 54 (by omega)) (hB 55 (by omega))⟩, ⟨EN_cg_0 n0 (fun j _ _ => by rw [c 9 (by omega) (by omega)]) (fun j _ => by rw [b52]), EA_cg_0 a0 (fun k _ _ => c k (by omega) (by omega)) (fun j _ _ => by rw [b52]), EP_cg_0 x0 (by rw [c 19 (by omega) (by omega)]) (c 10 (by omega) (by omega)) (by rw [c 9 (by omega) (by omega)]) (by rw [c 9 (by omega) (by omega)]) (fun j _ => by rw [b52])⟩, EN_cg_1 n1 (fun j _ _ => by rw [c 14 (by omega) (by omega)]) (fun j _ => by rw [b52]), EA_cg_1 a1 (fun k _ _ => c k (by omega) (by omega)) (fun j _ _ => by rw [b52]), EP_cg_1 x1 (by rw [c 19 (by omega) (by omega)]) (c 15 (by omega) (by omega)) (by rw [c 14 (by omega) (by omega)]) (by rw [c 14 (by omega) (by omega)]) (fun j _ => by rw [b52])⟩, ⟨xN, xB, ?_⟩, fun ho => ?_⟩
  · unfold IP
    rw [c 19 (by omega) (by omega)]
    exact iP
  · rw [c 19 (by omega) (by omega)] at ho
    obtain ⟨⟨t0, t1⟩, hp⟩ := iQ ho
    obtain ⟨l0, l1, l2⟩ := hl ho
    refine ⟨⟨IT_cg_0 t0 (fun k _ _ => c k (by omega) (by omega)) (by rw [c 9 (by omega) (by omega)]) (by rw [c 9 (by omega) (by omega)]) l0, IT_cg_1 t1 (fun k _ _ => c k (by omega) (by omega)) (by rw [c 14 (by omega) (by omega)]) (by rw [c 14 (by omega) (by omega)]) l1⟩, ?_⟩
    unfold IPt
    rw [c 9 (by omega) (by omega), c 14 (by omega) (by omega), c 19 (by omega) (by omega), l2]
    exact hp
theorem RR_len {n : Nat} {A B : mx_Mem} (h : RR n A B) {m : Nat} (hm : m ≤ 100) : RR n (mI A 37 1 (nI m)) (mI (mI B 46 13 0) 46 10 (nI m)) := by
  have fA : ∀ k, k ≠ 37 → (mI A 37 1 (nI m)).1 k = A.1 k := fun k hk => funext fun j => mI_ne _ _ _ _ hk
  have fB : ∀ k, k ≠ 46 → (mI (mI B 46 13 0) 46 10 (nI m)).1 k = B.1 k := fun k hk => funext fun j => by rw [mI_ne _ _ _ _ hk, mI_ne _ _ _ _ hk]
  refine RR_stat h ?_ (fun k _ _ => fA k (by omega)) (fun k _ => fB k (by omega)) (IN_cg h.2.1.1 (fA 2 (by decide))) ?_ (fun _ => ⟨rfl, rfl, rfl⟩)
  · obtain ⟨s1, s2, s3, ⟨s4, s5⟩, s6⟩ := h.1.1.1
    exact ⟨s1, s2, s3, ⟨by rw [mI_self, mI_self], s5⟩, s6⟩
  · obtain ⟨b1, b2, b3, b4, b5, b6, b7⟩ := h.2.1.2.1
    exact ⟨b1, b2, b3, b4, b5, ⟨m, hm, mI_self _ _ _ _⟩, b7⟩
theorem dl_R {n : Nat} {A B : mx_Mem} (hn : n ≤ 1000) (h0 : RR n A B) {e : Nat} (he : e ≤ 80) : ∀ f N M p k, e - p < f → RR n N M → SV A N → SM B M → mff (B.1 56) e f p = none → mOK e f M p ∧ (diL e f N p k).1 = (mdL e f M p k).1 ∧ RR n (diL e f N p k).2 (mdL e f M p k).2 := by
  intro f
  induction f with
  | zero => intro N M p k h; omega
  | succ f ih =>
    intro N M p k hk h hN hM hf
    rw [mff] at hf
    rw [mOK, diL, mdL]
    by_cases hp : e ≤ p
    · rw [if_pos hp, if_pos hp]
      exact ⟨Or.inl hp, rfl, h⟩
    · rw [if_neg hp] at hf
      rw [if_neg hp, if_neg hp]
      by_cases hr : 0 ≤ mrd (B.1 56) p e
      · rw [if_pos hr] at hf
        have e56 : M.1 56 = B.1 56 := hM.1 56 (by decide) (by decide)
        have hA : isA (M.1 56 p) := by rw [e56]; exact mrd_isA (by omega) hr
        obtain ⟨i1, i2⟩ := item_R hn h (by omega) hA
        have hN' := SV_di hN (nI p)
        have hM' := SM_di hM p
        have e56' : (mdiM M p).1 56 = B.1 56 := hM'.1 56 (by decide) (by decide)
        by_cases hd : mdiR M p = 0
        · rw [if_pos hd, if_pos (i1.mpr hd)]
          exact ⟨Or.inr ⟨⟨RR_MI hn h, hA⟩, Or.inl hd⟩, rfl, RR_back h0 hN' hM'⟩
        · rw [if_neg hd, if_neg (fun w => hd (i1.mp w))]
          have hr' : 0 ≤ mrd ((mdiM M p).1 56) p e := by rw [e56']; exact hr
          have hit := itn_mrd (f := (diM N (nI p)).1 38) (g := (mdiM M p).1 56) i2.1.1.1.2.2.2.1.2 (by omega) hr'
          obtain ⟨-, w2, -⟩ := mrd_e _ p e (by omega) hr'
          rw [hit]
          obtain ⟨j1, j2, j3⟩ := ih (diM N (nI p)) (mdiM M p) (p + (mrd ((mdiM M p).1 56) p e).toNatClampNeg) (k + 1) (by omega) i2 hN' hM' (by rw [e56']; exact hf)
          exact ⟨Or.inr ⟨⟨RR_MI hn h, hA⟩, Or.inr ⟨hr', j1⟩⟩, j2, j3⟩
      · rw [if_neg hr] at hf
        cases hf
/-- after the copies are made -/
theorem RR_sv {n : Nat} {A B : mx_Mem} (h : RR n A B) : RR n (svM A) (mcy 52 53 B 106) := by
  have s := SV_sv A
  have o : ∀ k, (9 ≤ k ∧ k < 20) ∨ (31 ≤ k) ∨ k < 9 → (svM A).1 k = A.1 k := fun k hk => by
    unfold svM
    rw [mCp7_ne _ (by omega), mCo_ne _ (by omega), mCo_ne _ (by omega)]
  have hb := h.2.1.2.1.1.1
  refine RR_cg h (fun k hk => o k (by omega)) (fun j _ _ => ⟨by rw [o 9 (by omega)], by rw [o 14 (by omega)]⟩) (fun j _ => ⟨by rw [o 10 (by omega)], by rw [o 15 (by omega)]⟩) (fun k hk j _ => by rw [o k (by omega)]) (fun j _ => by rw [o 19 (by omega)]) ⟨?_, ?_, ?_⟩ (fun k _ => mcy_ne _ _ _ (by omega) 106) (fun j _ => by rw [mcy_ne _ _ _ (by decide)]) (fun j _ => by rw [mcy_ne _ _ _ (by decide)])
  · rw [s.2.2.2.2 1 (by decide)]; exact hb.1
  · rw [(s.2.1 6 (by decide) (by decide)).1]; exact hb.2.1
  · rw [(s.2.1 6 (by decide) (by decide)).2]; exact hb.2.2
def sheR (A : mx_Mem) (n : Nat) : Int32 := if A.1 19 1 = 0 then -100 else if shF A n = -1 then (diL n 101 (svM (mI A 37 1 0)) 0 0).1 else -1 - shF A n
def sheM (A : mx_Mem) (n : Nat) : mx_Mem := if A.1 19 1 = 0 then mI A 37 1 0 else if shF A n = -1 then (diL n 101 (svM (mI A 37 1 0)) 0 0).2 else mI A 37 1 0
theorem sheet_R {n : Nat} {A B : mx_Mem} (hn : n ≤ 1000) (h : RR n A B) {m : Nat} (hm : m ≤ 100) : (B.1 52 1 = 1 → mff (B.1 56) (min m 80) 101 0 = none → m ≤ 80 → mOK m 101 (mcy 52 53 (msM B) 106) 0) ∧ sheR A m = (mshV B m).1 ∧ RR n (sheM A m) (mshV B m).2 := by
  have h1 : RR n (mI A 37 1 0) (msM B) := RR_len h (m := 0) (by decide)
  have h2 := RR_sv h1
  have hoff := on_R h
  have hf := ff_R (n := m) h.1.1.1.2.2.2.1.2 (rd := min m 80) (by omega) 101 0 (by omega) (by omega)
  have hd : m ≤ 80 → mff (B.1 56) m 101 0 = none → _ := fun h8 hz => dl_R hn h1 (e := m) h8 101 _ _ 0 0 (by omega) h2 (SV_sv _) (SM_as _) hz
  refine ⟨fun _ hz h8 => (hd h8 (by rw [Nat.min_eq_left h8] at hz; exact hz)).1, ?_⟩
  unfold sheR sheM mshV
  by_cases ho : A.1 19 1 = 0
  · rw [if_pos ho, if_pos ho, if_pos (hoff.mp ho)]
    exact ⟨rfl, h1⟩
  · rw [if_neg ho, if_neg ho, if_neg (fun w => ho (hoff.mpr w))]
    cases hz : mff (B.1 56) (min m 80) 101 0 with
    | some r =>
      obtain ⟨w1, w2⟩ := hf.1 r hz
      rw [if_neg (show ¬ shF A m = -1 from w1), if_neg (show ¬ shF A m = -1 from w1)]
      exact ⟨w2, h1⟩
    | none =>
      have w := hf.2 hz
      by_cases h8 : 80 < m
      · rw [if_pos h8] at w
        have w1 : shF A m = nI 80 := by rw [show shF A m = nI (min m 80) from w, Nat.min_eq_right (by omega)]
        rw [w1, if_neg (nI_m1 (by decide)), if_neg (nI_m1 (by decide))]
        dsimp only
        rw [if_pos h8]
        exact ⟨show (-1 : Int32) - nI 80 = -81 by decide, h1⟩
      · rw [if_neg h8] at w
        rw [if_pos (show shF A m = -1 from w), if_pos (show shF A m = -1 from w)]
        dsimp only
        rw [if_neg h8]
        rw [Nat.min_eq_left (by omega)] at hz
        exact (hd (by omega) hz).2

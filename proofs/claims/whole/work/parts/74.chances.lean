/-! the coupling: chances -/
theorem cn_RR_0 {n : Nat} {A B : mx_Mem} (hn : n ≤ 1000) (h : RR n A B) (ho : A.1 19 1 = 1) : ∀ i, i < 6 → cnV B 0 i = A.1 10 i := by
  intro i hi
  have hT : IT_0 A := by first | exact (h.2.2 ho).1.1 | exact (h.2.2 ho).1.2
  have hO : ∀ k, k < 6 → isP (A.1 10 k) := fun k hk => by first | exact (h.2.1.2.1.2.2.1 k hk).1 | exact (h.2.1.2.1.2.2.1 k hk).2
  have q3 : A.1 3 2 = B.1 48 0 := by first | exact h.1.1.1.2.1.1.1 | exact h.1.1.1.2.1.1.2
  have q5 : A.1 9 4 = B.1 48 0 := hT.2.1.1.trans q3
  show (if ¬ B.1 52 10 = -1 ∧ B.1 52 (14 + i) = B.1 48 0 then B.1 52 10 else B.1 52 (14 + i)) = A.1 10 i
  rcases plE_0 h hn ho with ⟨e1, e2, e3⟩ | ⟨f, hf, e1, e4, e5, e6, e7, e8⟩
  · rw [if_neg (fun w => w.1 e2)]; exact e3 i hi
  · by_cases hif : i = f
    · subst hif
      rw [if_pos ⟨by rw [e6]; exact isP_m1 (hO i hi), by rw [← q5]; exact e7⟩]; exact e6
    · have w := e8 i hi hif
      rw [if_neg]
      · exact w
      · rintro ⟨-, q⟩
        rw [← q5] at q
        exact hT.1.2 i hi (w.symm.trans q)
theorem cn_RR_1 {n : Nat} {A B : mx_Mem} (hn : n ≤ 1000) (h : RR n A B) (ho : A.1 19 1 = 1) : ∀ i, i < 6 → cnV B 1 i = A.1 15 i := by
  intro i hi
  have hT : IT_1 A := by first | exact (h.2.2 ho).1.1 | exact (h.2.2 ho).1.2
  have hO : ∀ k, k < 6 → isP (A.1 15 k) := fun k hk => by first | exact (h.2.1.2.1.2.2.1 k hk).1 | exact (h.2.1.2.1.2.2.1 k hk).2
  have q3 : A.1 6 2 = B.1 48 1 := by first | exact h.1.1.1.2.1.1.1 | exact h.1.1.1.2.1.1.2
  have q5 : A.1 14 4 = B.1 48 1 := hT.2.1.1.trans q3
  show (if ¬ B.1 52 60 = -1 ∧ B.1 52 (64 + i) = B.1 48 1 then B.1 52 60 else B.1 52 (64 + i)) = A.1 15 i
  rcases plE_1 h hn ho with ⟨e1, e2, e3⟩ | ⟨f, hf, e1, e4, e5, e6, e7, e8⟩
  · rw [if_neg (fun w => w.1 e2)]; exact e3 i hi
  · by_cases hif : i = f
    · subst hif
      rw [if_pos ⟨by rw [e6]; exact isP_m1 (hO i hi), by rw [← q5]; exact e7⟩]; exact e6
    · have w := e8 i hi hif
      rw [if_neg]
      · exact w
      · rintro ⟨-, q⟩
        rw [← q5] at q
        exact hT.1.2 i hi (w.symm.trans q)
theorem EC_now {n : Nat} {A B : mx_Mem} (hn : n ≤ 1000) (h : RR n A B) (ho : A.1 19 1 = 1) : EC (tkC A) (cnM B) := by
  have c0 := cn_RR_0 hn h ho
  have c1 := cn_RR_1 hn h ho
  have hO := h.2.1.2.1.2.2.1
  refine ⟨fun j hj => ?_, fun i hi => ?_, fun i hi => ?_⟩
  · rw [tkC_ne A (by decide) (by decide), tkC_ne A (by decide) (by decide), cnM_ne B (by decide)]
    exact h.1.1.1.1.2 j hj
  · rw [(tk_40 A i hi).1, (tk_40 A i hi).2, (cnM_58 B i hi).1, (cnM_58 B i hi).2, c0 i hi, c1 i hi]
    exact ⟨rfl, rfl⟩
  · rw [cn_all B i hi]
    split
    · rename_i q
      rw [c0 i q]; exact (hO i q).1
    · rw [c1 _ (by omega)]; exact (hO _ (by omega)).2
theorem tgt_n {A : mx_Mem} (h : IN A) (a b : Int32) : ∃ tg, tg ≤ 25 ∧ tgt (A.1 2) a b = nI tg := by
  obtain ⟨g, cap, la, st, ⟨q0, q1, q2, q3⟩, r0, r1, r2, r3⟩ := h
  unfold tgt
  split
  · exact ⟨la, r2.2, q2⟩
  · exact ⟨g, r0.2, q0⟩
theorem RR_SO {n : Nat} {A B : mx_Mem} (h : RR n A B) (ho : A.1 19 1 = 1) : ∃ s p0 p1 tg cap : Nat, (s = 0 ∨ s = 1) ∧ SO A s p0 p1 tg cap ∧ MO B s p0 p1 tg cap ∧ p0 < cap ∧ p1 < cap := by
  obtain ⟨-, p0, p1, st, cap, ⟨P1, P2, P3, P4⟩, ⟨P5, P6, P7⟩, P8⟩ := h.2.2 ho
  obtain ⟨tg, t1, t2⟩ := tgt_n h.2.1.1 (A.1 9 8) (A.1 14 8)
  have k2 : B.1 52 2 = A.1 19 2 := by rw [h.1.1.2.1.2.1, if_pos ho]
  have e0 := h.1.2.1.1.1.1
  have e1 := h.1.2.2.1.1.1
  have ecap := h.1.1.1.1.1 1 (by decide)
  have key : ∀ s : Nat, s < 2 → A.1 19 2 = nI s → (s = 0 ∨ s = 1) ∧ SO A s p0 p1 tg cap ∧ MO B s p0 p1 tg cap ∧ p0 < cap ∧ p1 < cap := fun s hs e => ⟨by omega, ⟨⟨e, P1, P2⟩, ⟨t2, P4⟩, by omega, by omega, by omega, by omega⟩, ⟨⟨k2.trans e, e0.symm.trans P1, e1.symm.trans P2⟩, ⟨(tgE h.1 h.2.1.1).trans t2, ecap.symm.trans P4⟩, by omega, by omega, by omega, by omega, hs⟩, P5, P6⟩
  rcases P8 with ⟨e, -⟩ | ⟨e, -⟩
  · exact ⟨0, p0, p1, tg, cap, key 0 (by decide) e⟩
  · exact ⟨1, p0, p1, tg, cap, key 1 (by decide) e⟩
theorem EC_turn {n : Nat} {A B : mx_Mem} (h : RR n A B) (h0 : A.1 3 3 = 1) (h1 : A.1 6 3 = 1) (a b : Nat) : EC (tkT A a b) (nxM B a b) := by
  have s6 := h.1.1.1.2.2.1
  have p0 := (h.2.1.2.1.2.2.2.1.1 h0).1
  have p1 := (h.2.1.2.1.2.2.2.1.2 h1).1
  refine ⟨fun j hj => ?_, fun i hi => ?_, fun i hi => ?_⟩
  · rw [(frC_tkT A a b).1 4 (by decide), (frC_tkT A a b).1 7 (by decide), (frM_nx B a b).1 47 (by decide) (by decide)]
    exact h.1.1.1.1.2 j hj
  · rw [(tkT_o A a b i hi).1, (tkT_o A a b i hi).2, (nx_58 B a b i hi).1, (nx_58 B a b i hi).2]
    exact ⟨(s6 _ (by omega)).1, (s6 _ (by omega)).2⟩
  · rw [nx_all B a b i hi]
    split
    · rw [← (s6 _ (by omega)).1]; exact p0 _ (by omega)
    · rw [← (s6 _ (by omega)).2]; exact p1 _ (by omega)
theorem tuF_cg (t : Int32) {W W' : Nat → Int32} : ∀ n, n ≤ 6 → (∀ r, r < 6 → W r = W' r) → tuF t W n = tuF t W' n
  | 0, _, _ => rfl
  | n + 1, hn, h => by
    rw [tuF, tuF, tuF_cg t n (by omega) h, h n (by omega)]
theorem tuW_R {n : Nat} {A B : mx_Mem} (h : RR n A B) (h0 : A.1 3 3 = 1) (h1 : A.1 6 3 = 1) (t f tg cap : Nat) (hf : f < 2) (r : Nat) : tuW A t f tg cap r = mtW B t f tg cap r := by
  unfold tuW mtW
  rw [VU0 (EC_turn h h0 h1 _ _) hf]
theorem adF_cg (t v0 : Int32) {m m' W W' : Nat → Nat → Int32} (hm : ∀ o i, m o i = m' o i) (hW : ∀ o i, o < 12 → i < 12 → m o i = 0 → W o i = W' o i) : ∀ n, n ≤ 144 → adF t m W v0 n = adF t m' W' v0 n
  | 0, _ => rfl
  | n + 1, hn => by
    rw [adF, adF, adF_cg t v0 hm hW n (by omega), ← hm]
    by_cases e : m (n / 12) (n % 12) = 0
    · rw [hW _ _ (by omega) (by omega) e]
    · rw [if_neg (fun q => e q.1), if_neg (fun q => e q.1)]
theorem adM_R_0 {n : Nat} {A B : mx_Mem} (hn : n ≤ 1000) (h : RR n A B) (o i : Nat) : adM A 9 o i = mmA_0 B o i := may_R_0 hn h (nI o) (nI i)
theorem adW_R_0 {n : Nat} {A B : mx_Mem} (hn : n ≤ 1000) (h : RR n A B) {sv p0 p1 tg cap : Nat} (hs : sv < 2) {o i : Nat} (hi : i < 12) (hm : adM A 9 o i = 0) : adW A 40 sv p0 p1 tg cap o i = maW_0 B sv p0 p1 tg cap o i := by
  obtain ⟨ho, ⟨hx, hy, hxy⟩, ⟨m1, m2⟩, ⟨m3, m4⟩, hst⟩ := may_0_0 hn h (x := nI o) (y := nI i) hm
  have hT : IT_0 A := by first | exact (h.2.2 ho).1.1 | exact (h.2.2 ho).1.2
  have hE := EC_now hn h ho
  have hz : ¬ nI o = A.1 9 4 := fun q => m1 (plc_none (fun j hj => by rw [q]; exact hT.1.2 j hj))
  have hpx : plc (mpl_0 B) (nI o) = plc (A.1 10) (nI o) := by rw [plO_0 h hn ho _ hz, if_neg m2]
  rcases plc_c (f := A.1 10) (nI o) with ⟨w1, -⟩ | ⟨q, hq, w1, w2⟩
  · exact absurd w1 m1
  unfold adW maW_0
  rw [hpx, w1, nI_clamp (by omega)]
  refine congrArg nI (VU0 ?_ hs tg cap p0 p1)
  refine ⟨fun j hj => ?_, fun j hj => ?_, fun j hj => ?_⟩
  · rw [rpM_ne _ _ _ (by decide), rpM_ne _ _ _ (by decide)]
    have e : (mI (cnM B) 58 (0 + q) (nI i)).1 47 = (cnM B).1 47 := funext fun j => mI_ne _ _ _ _ (by decide)
    rw [e]
    exact hE.1 j hj
  · have w := hE.2.1 j hj
    rw [mI_ap, mI_ap]
    have own : (rpM (tkC A) 40 (nI o) (nI i) 6).1 40 j = if j = q then nI i else (tkC A).1 40 j := by
      rw [rpM_k]
      have tj : (tkC A).1 40 j = A.1 10 j := (tk_40 A j hj).1
      by_cases e : j = q
      · rw [if_pos e, if_pos ⟨hj, by rw [tj, e]; exact w2⟩]
      · rw [if_neg e, if_neg]
        rintro ⟨-, e2⟩
        rw [tj, ← w2] at e2
        exact e (hT.1.1 j hj q hq e2)
    have oth : (rpM (tkC A) 40 (nI o) (nI i) 6).1 41 j = (tkC A).1 41 j := by rw [rpM_ne _ _ _ (by decide)]
    rw [own, oth]
    by_cases e : j = q
    · rw [if_pos e, if_pos ⟨rfl, by omega⟩, if_neg (by omega)]; exact ⟨rfl, w.2⟩
    · rw [if_neg e, if_neg (by omega), if_neg (by omega)]; exact w
  · rw [mI_ap]
    split
    · exact hy
    · exact hE.2.2 j hj
theorem adM_R_1 {n : Nat} {A B : mx_Mem} (hn : n ≤ 1000) (h : RR n A B) (o i : Nat) : adM A 14 o i = mmA_1 B o i := may_R_1 hn h (nI o) (nI i)
theorem adW_R_1 {n : Nat} {A B : mx_Mem} (hn : n ≤ 1000) (h : RR n A B) {sv p0 p1 tg cap : Nat} (hs : sv < 2) {o i : Nat} (hi : i < 12) (hm : adM A 14 o i = 0) : adW A 41 sv p0 p1 tg cap o i = maW_1 B sv p0 p1 tg cap o i := by
  obtain ⟨ho, ⟨hx, hy, hxy⟩, ⟨m1, m2⟩, ⟨m3, m4⟩, hst⟩ := may_0_1 hn h (x := nI o) (y := nI i) hm
  have hT : IT_1 A := by first | exact (h.2.2 ho).1.1 | exact (h.2.2 ho).1.2
  have hE := EC_now hn h ho
  have hz : ¬ nI o = A.1 14 4 := fun q => m1 (plc_none (fun j hj => by rw [q]; exact hT.1.2 j hj))
  have hpx : plc (mpl_1 B) (nI o) = plc (A.1 15) (nI o) := by rw [plO_1 h hn ho _ hz, if_neg m2]
  rcases plc_c (f := A.1 15) (nI o) with ⟨w1, -⟩ | ⟨q, hq, w1, w2⟩
  · exact absurd w1 m1
  unfold adW maW_1
  rw [hpx, w1, nI_clamp (by omega)]
  refine congrArg nI (VU0 ?_ hs tg cap p0 p1)
  refine ⟨fun j hj => ?_, fun j hj => ?_, fun j hj => ?_⟩
  · rw [rpM_ne _ _ _ (by decide), rpM_ne _ _ _ (by decide)]
    have e : (mI (cnM B) 58 (6 + q) (nI i)).1 47 = (cnM B).1 47 := funext fun j => mI_ne _ _ _ _ (by decide)
    rw [e]
    exact hE.1 j hj
  · have w := hE.2.1 j hj
    rw [mI_ap, mI_ap]
    have own : (rpM (tkC A) 41 (nI o) (nI i) 6).1 41 j = if j = q then nI i else (tkC A).1 41 j := by
      rw [rpM_k]
      have tj : (tkC A).1 41 j = A.1 15 j := (tk_40 A j hj).2
      by_cases e : j = q
      · rw [if_pos e, if_pos ⟨hj, by rw [tj, e]; exact w2⟩]
      · rw [if_neg e, if_neg]
        rintro ⟨-, e2⟩
        rw [tj, ← w2] at e2
        exact e (hT.1.1 j hj q hq e2)
    have oth : (rpM (tkC A) 41 (nI o) (nI i) 6).1 40 j = (tkC A).1 40 j := by rw [rpM_ne _ _ _ (by decide)]
    rw [own, oth]
    by_cases e : j = q
    · rw [if_pos e, if_neg (by omega), if_pos ⟨rfl, by omega⟩]; exact ⟨w.1, rfl⟩
    · rw [if_neg e, if_neg (by omega), if_neg (by omega)]; exact w
  · rw [mI_ap]
    split
    · exact hy
    · exact hE.2.2 j hj

/-! the coupling: skills, numbers, line-ups, feet, texts -/
def bj (x : Int32) (i : Nat) : Bool := x.toBitVec.getLsbD i
theorem bj_ext {x y : Int32} (h : ∀ i, i < 32 → bj x i = bj y i) : x = y := Int32.toBitVec_inj.mp (BitVec.eq_of_getLsbD_eq (fun i hi => h i hi))
theorem bj_and (x y : Int32) (i : Nat) : bj (x &&& y) i = (bj x i && bj y i) := by unfold bj; rw [Int32.toBitVec_and, BitVec.getLsbD_and]
theorem bj_255 : ∀ i, i < 32 → bj 255 i = decide (i < 8) := by decide +kernel
theorem bj_l : ∀ n, n < 32 → ((nI n &&& 31).toBitVec.smod 32).toNat = n := by decide +kernel
theorem bj_u : ∀ n, n < 32 → (((nI n).toUInt32 &&& Int32.toUInt32 31).toBitVec % 32).toNat = n := by decide +kernel
theorem bj_ushr (n : Nat) (hn : n < 32) (x : Int32) (i : Nat) : bj ((x.toUInt32 >>> ((nI n).toUInt32 &&& Int32.toUInt32 31)).toInt32) i = bj x (n + i) := by
  show (x.toUInt32 >>> ((nI n).toUInt32 &&& Int32.toUInt32 31)).toBitVec.getLsbD i = x.toUInt32.toBitVec.getLsbD (n + i)
  rw [UInt32.toBitVec_shiftRight]
  show (x.toUInt32.toBitVec >>> (((nI n).toUInt32 &&& Int32.toUInt32 31).toBitVec % 32).toNat).getLsbD i = _
  rw [bj_u n hn, BitVec.getLsbD_ushiftRight]
theorem bj_sshr (n : Nat) (hn : n < 32) (x : Int32) {i : Nat} (hi : i < 32) (hni : n + i < 32) : bj (x >>> (nI n &&& 31)) i = bj x (n + i) := by
  unfold bj
  rw [Int32.toBitVec_shiftRight]
  show (x.toBitVec.sshiftRight ((nI n &&& 31).toBitVec.smod 32).toNat).getLsbD i = _
  rw [bj_l n hn, BitVec.getLsbD_sshiftRight, BitVec.msb_eq_getLsbD_last]
  simp [hi, hni]
theorem sh_255 (v : Int32) {n : Nat} (hn : n ≤ 24) : (v.toUInt32 >>> ((nI n).toUInt32 &&& Int32.toUInt32 31)).toInt32 &&& 255 = (v >>> (nI n &&& 31)) &&& 255 := by
  apply bj_ext
  intro i hi
  rw [bj_and, bj_and, bj_255 i hi]
  by_cases h : i < 8
  · rw [bj_ushr n (by omega), bj_sshr n (by omega) v hi (by omega)]
  · simp [h]
theorem t8_255 (z : Int32) : (z &&& 255).toInt8 = z.toInt8 := by
  apply Int8.toBitVec_inj.mp
  rw [Int32.toBitVec_toInt8, Int32.toBitVec_toInt8, Int32.toBitVec_and]
  apply BitVec.eq_of_getLsbD_eq
  intro i hi
  have h255 : (255 : Int32).toBitVec.getLsbD i = true := by
    have := bj_255 i (by omega)
    rw [decide_eq_true hi] at this
    exact this
  rw [BitVec.getLsbD_signExtend, BitVec.getLsbD_signExtend, if_pos (by omega), if_pos (by omega), BitVec.getLsbD_and, h255, Bool.and_true]
theorem sg_all : ∀ m, m < 256 → sgR (nI m) (nI m).toInt8.toInt32 := by decide +kernel
theorem sg_byte (z : Int32) : sgR (z &&& 255) z.toInt8.toInt32 := by
  obtain ⟨m, hm, e⟩ := pk_andE z (m := 255) 8 rfl
  rw [← t8_255 z, e]
  exact sg_all m hm
theorem nar_255 (b : Int32) : vp_nar .char ((b &&& 255).toUInt32 % 65536).toInt32 = b &&& 255 := by
  rw [sc_c2]
  unfold vp_nar
  rw [sc_nar]
theorem sgC_R (v : Int32) {n : Nat} (hn : n ≤ 24) : sgR (sgC v (nI n)) (bby v (nI n)) := by
  unfold sgC bby
  rw [nar_255, sh_255 v hn]
  exact sg_byte _
theorem sgD_R (v : Int32) : sgR (sgD v) (bby v 0) := by
  unfold sgD bby
  rw [nar_255, sb_shr0]
  exact sg_byte _
theorem le_n {a b : Nat} {v : Int32} (hb : b < 1000) (h1 : nI a ≤ v) (h2 : v ≤ nI b) (ha : a < 1000) : ∃ k, a ≤ k ∧ k ≤ b ∧ v = nI k := by
  have g1 := Int32.le_iff_toInt_le.mp h1
  have g2 := Int32.le_iff_toInt_le.mp h2
  rw [nI_toInt (by omega)] at g1 g2
  refine ⟨v.toInt.toNat, by omega, by omega, ?_⟩
  apply Int32.toInt_inj.1
  rw [nI_toInt (by omega)]
  omega
theorem skill_RR_0 {n : Nat} {A B : mx_Mem} (h : RR n A B) {p w : Nat} (hp : p < 12) (hw : w < 4) (v : Int32) : RR n (mI A 4 (p * 4 + w) v) (mI B 47 ((0 + p) * 4 + w) v) := by
  have fA : ∀ k, k ≠ 4 → (mI A 4 (p * 4 + w) v).1 k = A.1 k := fun k hk => funext fun j => mI_ne _ _ _ _ hk
  have fB : ∀ k, k ≠ 47 → (mI B 47 ((0 + p) * 4 + w) v).1 k = B.1 k := fun k hk => funext fun j => mI_ne _ _ _ _ hk
  refine RR_stat h ?_ (fun k _ _ => fA k (by omega)) (fun k _ => fB k (by omega)) (IN_cg h.2.1.1 (fA 2 (by decide))) h.2.1.2.1 (fun _ => ⟨rfl, rfl, rfl⟩)
  obtain ⟨⟨s1, s2⟩, s3⟩ := h.1.1.1
  refine ⟨⟨s1, fun j hj => ?_⟩, s3⟩
  have w2 := s2 j hj
  rw [mI_ap, mI_ap, mI_ap, mI_ap]
  by_cases e : j = p * 4 + w
  · rw [if_pos ⟨rfl, e⟩, if_pos ⟨rfl, by omega⟩, if_neg (fun q => absurd q.1 (by decide)), if_neg (by omega)]; exact ⟨rfl, w2.2⟩
  · rw [if_neg (by omega), if_neg (by omega), if_neg (by omega), if_neg (by omega)]; exact w2
theorem libre_RR_0 {n : Nat} {A B : mx_Mem} (h : RR n A B) {p : Int32} (hp : isL p) (ho : A.1 19 1 = 0) : RR n (mI A 3 2 p) (mI B 48 0 p) := by
  have fA : ∀ k, k ≠ 3 → (mI A 3 2 p).1 k = A.1 k := fun k hk => funext fun j => mI_ne _ _ _ _ hk
  have fB : ∀ k, k ≠ 48 → (mI B 48 0 p).1 k = B.1 k := fun k hk => funext fun j => mI_ne _ _ _ _ hk
  refine RR_stat h ?_ (fun k _ _ => fA k (by omega)) (fun k _ => fB k (by omega)) (IN_cg h.2.1.1 (fA 2 (by decide))) ?_ (fun q => absurd (ho.symm.trans q) (by decide))
  · obtain ⟨s1, ⟨⟨s2, s3⟩, s4⟩, s5⟩ := h.1.1.1
    exact ⟨s1, ⟨⟨rfl, s3⟩, s4⟩, s5⟩
  · obtain ⟨b1, ⟨b2, b3, b4⟩, b5⟩ := h.2.1.2.1
    exact ⟨b1, ⟨b2, hp, b4⟩, b5⟩
theorem tell_RR_0 {n : Nat} {A B : mx_Mem} (h : RR n A B) {a b c d e f : Int32} (hp : (isP a ∧ isP b ∧ isP c) ∧ isP d ∧ isP e ∧ isP f) (hd : (a ≠ b) ∧ (a ≠ c ∧ b ≠ c) ∧ (a ≠ d ∧ b ≠ d ∧ c ≠ d) ∧ (a ≠ e ∧ b ≠ e ∧ c ≠ e ∧ d ≠ e) ∧ (a ≠ f ∧ b ≠ f ∧ c ≠ f ∧ d ≠ f ∧ e ≠ f)) (ho : A.1 19 1 = 0) : RR n (telM A 3 a b c d e f) (mtl_0 (six6 B a b c d e f) a b c d e f) := by
  have fA : ∀ k, k ≠ 3 → k ≠ 5 → (telM A 3 a b c d e f).1 k = A.1 k := fun k h1 h2 => funext fun j => by
    unfold telM
    rw [mI_ne _ _ _ _ h1, mI_ne _ _ _ _ h2, mI_ne _ _ _ _ h2, mI_ne _ _ _ _ h2, mI_ne _ _ _ _ h2, mI_ne _ _ _ _ h2, mI_ne _ _ _ _ h2]
  have fB : ∀ k, k ≠ 46 → k ≠ 50 → k ≠ 51 → k ≠ 57 → (mtl_0 (six6 B a b c d e f) a b c d e f).1 k = B.1 k := fun k h1 h2 h3 h4 => funext fun j => by
    unfold mtl_0 six6
    rw [mI_ne _ _ _ _ h3, mI_ne _ _ _ _ h2, mI_ne _ _ _ _ h2, mI_ne _ _ _ _ h2, mI_ne _ _ _ _ h2, mI_ne _ _ _ _ h2, mI_ne _ _ _ _ h2, mI_ne _ _ _ _ h4, mI_ne _ _ _ _ h4, mI_ne _ _ _ _ h4, mI_ne _ _ _ _ h4, mI_ne _ _ _ _ h4, mI_ne _ _ _ _ h4, mI_ne _ _ _ _ h1]
  have c6 : ∀ j, j < 6 → j = 0 ∨ j = 1 ∨ j = 2 ∨ j = 3 ∨ j = 4 ∨ j = 5 := fun j hj => by omega
  refine RR_stat h ?_ (fun k _ _ => fA k (by omega) (by omega)) (fun k _ => fB k (by omega) (by omega) (by omega) (by omega)) (IN_cg h.2.1.1 (fA 2 (by decide) (by decide))) ?_ (fun q => absurd (ho.symm.trans q) (by decide))
  · obtain ⟨s1, ⟨s2, ⟨s3, s4⟩⟩, s5, s6, s7⟩ := h.1.1.1
    refine ⟨s1, ⟨s2, ⟨rfl, s4⟩⟩, fun k hk => ?_, s6, s7⟩
    have w := s5 k hk
    rcases c6 k hk with rfl | rfl | rfl | rfl | rfl | rfl
    all_goals exact ⟨rfl, w.2⟩
  · obtain ⟨b1, ⟨⟨b2, b3⟩, b4⟩, b5, ⟨b6, b7⟩, b8, b9⟩ := h.2.1.2.1
    refine ⟨b1, ⟨⟨Or.inr rfl, b3⟩, b4⟩, b5, ⟨fun _ => ⟨fun k hk => ?_, fun i hi j hj => ?_⟩, b7⟩, fun q => absurd (ho.symm.trans q) (by decide), b9⟩
    · rcases c6 k hk with rfl | rfl | rfl | rfl | rfl | rfl
      · exact hp.1.1
      · exact hp.1.2.1
      · exact hp.1.2.2
      · exact hp.2.1
      · exact hp.2.2.1
      · exact hp.2.2.2
    · obtain ⟨d1, ⟨d2, d3⟩, ⟨d4, d5, d6⟩, ⟨d7, d8, d9, d10⟩, d11, d12, d13, d14, d15⟩ := hd
      rcases c6 i hi with rfl | rfl | rfl | rfl | rfl | rfl <;> rcases c6 j hj with rfl | rfl | rfl | rfl | rfl | rfl
      all_goals first | exact fun _ => rfl | exact fun q => absurd q d1 | exact fun q => absurd q.symm d1 | exact fun q => absurd q d2 | exact fun q => absurd q.symm d2 | exact fun q => absurd q d3 | exact fun q => absurd q.symm d3 | exact fun q => absurd q d4 | exact fun q => absurd q.symm d4 | exact fun q => absurd q d5 | exact fun q => absurd q.symm d5 | exact fun q => absurd q d6 | exact fun q => absurd q.symm d6 | exact fun q => absurd q d7 | exact fun q => absurd q.symm d7 | exact fun q => absurd q d8 | exact fun q => absurd q.symm d8 | exact fun q => absurd q d9 | exact fun q => absurd q.symm d9 | exact fun q => absurd q d10 | exact fun q => absurd q.symm d10 | exact fun q => absurd q d11 | exact fun q => absurd q.symm d11 | exact fun q => absurd q d12 | exact fun q => absurd q.symm d12 | exact fun q => absurd q d13 | exact fun q => absurd q.symm d13 | exact fun q => absurd q d14 | exact fun q => absurd q.symm d14 | exact fun q => absurd q d15 | exact fun q => absurd q.symm d15
theorem feet_RR_0 {n : Nat} {A B : mx_Mem} (h : RR n A B) {k : Nat} (hk : k < 6) (x y : Int32) : RR n (mI (mI A 32 k x) 33 k y) (mI (mI B 54 (0 + k) x) 55 (0 + k) y) := by
  have fA : ∀ k', k' ≠ 32 → k' ≠ 33 → (mI (mI A 32 k x) 33 k y).1 k' = A.1 k' := fun k' h1 h2 => funext fun j => by rw [mI_ne _ _ _ _ h2, mI_ne _ _ _ _ h1]
  have fB : ∀ k', k' ≠ 54 → k' ≠ 55 → (mI (mI B 54 (0 + k) x) 55 (0 + k) y).1 k' = B.1 k' := fun k' h1 h2 => funext fun j => by rw [mI_ne _ _ _ _ h2, mI_ne _ _ _ _ h1]
  obtain ⟨⟨⟨hS, hK, hF⟩, hT⟩, hI⟩ := h
  refine ⟨⟨⟨hS, hK, fun ho j hj => ?_⟩, hT⟩, hI⟩
  have w := hF ho j hj
  have e1 : ∀ z : mx_Mem, (mI z 55 (0 + k) y).1 54 = z.1 54 := fun z => funext fun j => mI_ne _ _ _ _ (by decide)
  have e2 : (mI (mI B 54 (0 + k) x) 55 (0 + k) y).1 54 j = if j = 0 + k then x else B.1 54 j := by rw [e1, mI_ap]; simp
  have e3 : (mI (mI B 54 (0 + k) x) 55 (0 + k) y).1 54 (6 + j) = if 6 + j = 0 + k then x else B.1 54 (6 + j) := by rw [e1, mI_ap]; simp
  have e4 : (mI (mI B 54 (0 + k) x) 55 (0 + k) y).1 55 j = if j = 0 + k then y else B.1 55 j := by rw [mI_ap, mI_ne _ _ _ _ (by decide)]; simp
  have e5 : (mI (mI B 54 (0 + k) x) 55 (0 + k) y).1 55 (6 + j) = if 6 + j = 0 + k then y else B.1 55 (6 + j) := by rw [mI_ap, mI_ne _ _ _ _ (by decide)]; simp
  have a1 : (mI (mI A 32 k x) 33 k y).1 32 j = if j = k then x else A.1 32 j := by rw [mI_ne _ _ _ _ (by decide), mI_ap]; simp
  have a2 : (mI (mI A 32 k x) 33 k y).1 33 j = if j = k then y else A.1 33 j := by rw [mI_ap, mI_ne _ _ _ _ (by decide)]; simp
  rw [e2, e3, e4, e5, a1, a2, fA 35 (by decide) (by decide), fA 36 (by decide) (by decide)]
  by_cases e : j = k
  · rw [if_pos e, if_pos e, if_pos (by omega), if_pos (by omega), if_neg (by omega), if_neg (by omega)]; exact ⟨⟨rfl, rfl⟩, w.2⟩
  · rw [if_neg e, if_neg e, if_neg (by omega), if_neg (by omega), if_neg (by omega), if_neg (by omega)]; exact w
theorem skill_RR_1 {n : Nat} {A B : mx_Mem} (h : RR n A B) {p w : Nat} (hp : p < 12) (hw : w < 4) (v : Int32) : RR n (mI A 7 (p * 4 + w) v) (mI B 47 ((12 + p) * 4 + w) v) := by
  have fA : ∀ k, k ≠ 7 → (mI A 7 (p * 4 + w) v).1 k = A.1 k := fun k hk => funext fun j => mI_ne _ _ _ _ hk
  have fB : ∀ k, k ≠ 47 → (mI B 47 ((12 + p) * 4 + w) v).1 k = B.1 k := fun k hk => funext fun j => mI_ne _ _ _ _ hk
  refine RR_stat h ?_ (fun k _ _ => fA k (by omega)) (fun k _ => fB k (by omega)) (IN_cg h.2.1.1 (fA 2 (by decide))) h.2.1.2.1 (fun _ => ⟨rfl, rfl, rfl⟩)
  obtain ⟨⟨s1, s2⟩, s3⟩ := h.1.1.1
  refine ⟨⟨s1, fun j hj => ?_⟩, s3⟩
  have w2 := s2 j hj
  rw [mI_ap, mI_ap, mI_ap, mI_ap]
  by_cases e : j = p * 4 + w
  · rw [if_neg (fun q => absurd q.1 (by decide)), if_neg (by omega), if_pos ⟨rfl, e⟩, if_pos ⟨rfl, by omega⟩]; exact ⟨w2.1, rfl⟩
  · rw [if_neg (by omega), if_neg (by omega), if_neg (by omega), if_neg (by omega)]; exact w2
theorem libre_RR_1 {n : Nat} {A B : mx_Mem} (h : RR n A B) {p : Int32} (hp : isL p) (ho : A.1 19 1 = 0) : RR n (mI A 6 2 p) (mI B 48 1 p) := by
  have fA : ∀ k, k ≠ 6 → (mI A 6 2 p).1 k = A.1 k := fun k hk => funext fun j => mI_ne _ _ _ _ hk
  have fB : ∀ k, k ≠ 48 → (mI B 48 1 p).1 k = B.1 k := fun k hk => funext fun j => mI_ne _ _ _ _ hk
  refine RR_stat h ?_ (fun k _ _ => fA k (by omega)) (fun k _ => fB k (by omega)) (IN_cg h.2.1.1 (fA 2 (by decide))) ?_ (fun q => absurd (ho.symm.trans q) (by decide))
  · obtain ⟨s1, ⟨⟨s2, s3⟩, s4⟩, s5⟩ := h.1.1.1
    exact ⟨s1, ⟨⟨s2, rfl⟩, s4⟩, s5⟩
  · obtain ⟨b1, ⟨b2, b3, b4⟩, b5⟩ := h.2.1.2.1
    exact ⟨b1, ⟨b2, b3, hp⟩, b5⟩
theorem tell_RR_1 {n : Nat} {A B : mx_Mem} (h : RR n A B) {a b c d e f : Int32} (hp : (isP a ∧ isP b ∧ isP c) ∧ isP d ∧ isP e ∧ isP f) (hd : (a ≠ b) ∧ (a ≠ c ∧ b ≠ c) ∧ (a ≠ d ∧ b ≠ d ∧ c ≠ d) ∧ (a ≠ e ∧ b ≠ e ∧ c ≠ e ∧ d ≠ e) ∧ (a ≠ f ∧ b ≠ f ∧ c ≠ f ∧ d ≠ f ∧ e ≠ f)) (ho : A.1 19 1 = 0) : RR n (telM A 6 a b c d e f) (mtl_1 (six6 B a b c d e f) a b c d e f) := by
  have fA : ∀ k, k ≠ 6 → k ≠ 8 → (telM A 6 a b c d e f).1 k = A.1 k := fun k h1 h2 => funext fun j => by
    unfold telM
    rw [mI_ne _ _ _ _ h1, mI_ne _ _ _ _ h2, mI_ne _ _ _ _ h2, mI_ne _ _ _ _ h2, mI_ne _ _ _ _ h2, mI_ne _ _ _ _ h2, mI_ne _ _ _ _ h2]
  have fB : ∀ k, k ≠ 46 → k ≠ 50 → k ≠ 51 → k ≠ 57 → (mtl_1 (six6 B a b c d e f) a b c d e f).1 k = B.1 k := fun k h1 h2 h3 h4 => funext fun j => by
    unfold mtl_1 six6
    rw [mI_ne _ _ _ _ h3, mI_ne _ _ _ _ h2, mI_ne _ _ _ _ h2, mI_ne _ _ _ _ h2, mI_ne _ _ _ _ h2, mI_ne _ _ _ _ h2, mI_ne _ _ _ _ h2, mI_ne _ _ _ _ h4, mI_ne _ _ _ _ h4, mI_ne _ _ _ _ h4, mI_ne _ _ _ _ h4, mI_ne _ _ _ _ h4, mI_ne _ _ _ _ h4, mI_ne _ _ _ _ h1]
  have c6 : ∀ j, j < 6 → j = 0 ∨ j = 1 ∨ j = 2 ∨ j = 3 ∨ j = 4 ∨ j = 5 := fun j hj => by omega
  refine RR_stat h ?_ (fun k _ _ => fA k (by omega) (by omega)) (fun k _ => fB k (by omega) (by omega) (by omega) (by omega)) (IN_cg h.2.1.1 (fA 2 (by decide) (by decide))) ?_ (fun q => absurd (ho.symm.trans q) (by decide))
  · obtain ⟨s1, ⟨s2, ⟨s3, s4⟩⟩, s5, s6, s7⟩ := h.1.1.1
    refine ⟨s1, ⟨s2, ⟨s3, rfl⟩⟩, fun k hk => ?_, s6, s7⟩
    have w := s5 k hk
    rcases c6 k hk with rfl | rfl | rfl | rfl | rfl | rfl
    all_goals exact ⟨w.1, rfl⟩
  · obtain ⟨b1, ⟨⟨b2, b3⟩, b4⟩, b5, ⟨b6, b7⟩, b8, b9⟩ := h.2.1.2.1
    refine ⟨b1, ⟨⟨b2, Or.inr rfl⟩, b4⟩, b5, ⟨b6, fun _ => ⟨fun k hk => ?_, fun i hi j hj => ?_⟩⟩, fun q => absurd (ho.symm.trans q) (by decide), b9⟩
    · rcases c6 k hk with rfl | rfl | rfl | rfl | rfl | rfl
      · exact hp.1.1
      · exact hp.1.2.1
      · exact hp.1.2.2
      · exact hp.2.1
      · exact hp.2.2.1
      · exact hp.2.2.2
    · obtain ⟨d1, ⟨d2, d3⟩, ⟨d4, d5, d6⟩, ⟨d7, d8, d9, d10⟩, d11, d12, d13, d14, d15⟩ := hd
      rcases c6 i hi with rfl | rfl | rfl | rfl | rfl | rfl <;> rcases c6 j hj with rfl | rfl | rfl | rfl | rfl | rfl
      all_goals first | exact fun _ => rfl | exact fun q => absurd q d1 | exact fun q => absurd q.symm d1 | exact fun q => absurd q d2 | exact fun q => absurd q.symm d2 | exact fun q => absurd q d3 | exact fun q => absurd q.symm d3 | exact fun q => absurd q d4 | exact fun q => absurd q.symm d4 | exact fun q => absurd q d5 | exact fun q => absurd q.symm d5 | exact fun q => absurd q d6 | exact fun q => absurd q.symm d6 | exact fun q => absurd q d7 | exact fun q => absurd q.symm d7 | exact fun q => absurd q d8 | exact fun q => absurd q.symm d8 | exact fun q => absurd q d9 | exact fun q => absurd q.symm d9 | exact fun q => absurd q d10 | exact fun q => absurd q.symm d10 | exact fun q => absurd q d11 | exact fun q => absurd q.symm d11 | exact fun q => absurd q d12 | exact fun q => absurd q.symm d12 | exact fun q => absurd q d13 | exact fun q => absurd q.symm d13 | exact fun q => absurd q d14 | exact fun q => absurd q.symm d14 | exact fun q => absurd q d15 | exact fun q => absurd q.symm d15
theorem feet_RR_1 {n : Nat} {A B : mx_Mem} (h : RR n A B) {k : Nat} (hk : k < 6) (x y : Int32) : RR n (mI (mI A 35 k x) 36 k y) (mI (mI B 54 (6 + k) x) 55 (6 + k) y) := by
  have fA : ∀ k', k' ≠ 35 → k' ≠ 36 → (mI (mI A 35 k x) 36 k y).1 k' = A.1 k' := fun k' h1 h2 => funext fun j => by rw [mI_ne _ _ _ _ h2, mI_ne _ _ _ _ h1]
  have fB : ∀ k', k' ≠ 54 → k' ≠ 55 → (mI (mI B 54 (6 + k) x) 55 (6 + k) y).1 k' = B.1 k' := fun k' h1 h2 => funext fun j => by rw [mI_ne _ _ _ _ h2, mI_ne _ _ _ _ h1]
  obtain ⟨⟨⟨hS, hK, hF⟩, hT⟩, hI⟩ := h
  refine ⟨⟨⟨hS, hK, fun ho j hj => ?_⟩, hT⟩, hI⟩
  have w := hF ho j hj
  have e1 : ∀ z : mx_Mem, (mI z 55 (6 + k) y).1 54 = z.1 54 := fun z => funext fun j => mI_ne _ _ _ _ (by decide)
  have e2 : (mI (mI B 54 (6 + k) x) 55 (6 + k) y).1 54 j = if j = 6 + k then x else B.1 54 j := by rw [e1, mI_ap]; simp
  have e3 : (mI (mI B 54 (6 + k) x) 55 (6 + k) y).1 54 (6 + j) = if 6 + j = 6 + k then x else B.1 54 (6 + j) := by rw [e1, mI_ap]; simp
  have e4 : (mI (mI B 54 (6 + k) x) 55 (6 + k) y).1 55 j = if j = 6 + k then y else B.1 55 j := by rw [mI_ap, mI_ne _ _ _ _ (by decide)]; simp
  have e5 : (mI (mI B 54 (6 + k) x) 55 (6 + k) y).1 55 (6 + j) = if 6 + j = 6 + k then y else B.1 55 (6 + j) := by rw [mI_ap, mI_ne _ _ _ _ (by decide)]; simp
  have a1 : (mI (mI A 35 k x) 36 k y).1 35 j = if j = k then x else A.1 35 j := by rw [mI_ne _ _ _ _ (by decide), mI_ap]; simp
  have a2 : (mI (mI A 35 k x) 36 k y).1 36 j = if j = k then y else A.1 36 j := by rw [mI_ap, mI_ne _ _ _ _ (by decide)]; simp
  rw [e2, e3, e4, e5, a1, a2, fA 32 (by decide) (by decide), fA 33 (by decide) (by decide)]
  by_cases e : j = k
  · rw [if_pos e, if_pos e, if_neg (by omega), if_neg (by omega), if_pos (by omega), if_pos (by omega)]; exact ⟨w.1, rfl, rfl⟩
  · rw [if_neg e, if_neg e, if_neg (by omega), if_neg (by omega), if_neg (by omega), if_neg (by omega)]; exact w
theorem set_RR {n : Nat} {A B : mx_Mem} (hn : n ≤ 1000) (h : RR n A B) {w : Nat} (hw : w < 6) {v : Int32} (h1 : nbL.getD w 0 ≤ v) (h2 : v ≤ nbH.getD w 0) (h0 : A.1 19 0 = -1) : RR n (mI A 2 w v) (mI B 49 w v) := by
  have fA : ∀ k, k ≠ 2 → (mI A 2 w v).1 k = A.1 k := fun k hk => funext fun j => mI_ne _ _ _ _ hk
  have fB : ∀ k, k ≠ 49 → (mI B 49 w v).1 k = B.1 k := fun k hk => funext fun j => mI_ne _ _ _ _ hk
  refine RR_stat h ?_ (fun k _ _ => fA k (by omega)) (fun k _ => fB k (by omega)) ?_ h.2.1.2.1 (fun q => absurd h0 (RR_nn h hn q))
  · obtain ⟨⟨s1, s2⟩, s3⟩ := h.1.1.1
    refine ⟨⟨fun j hj => ?_, s2⟩, s3⟩
    rw [mI_ap, mI_ap]
    by_cases e : j = w
    · rw [if_pos ⟨rfl, e⟩, if_pos ⟨rfl, e⟩]
    · rw [if_neg (by omega), if_neg (by omega)]; exact s1 j hj
  · obtain ⟨g, cap, la, st, ⟨q0, q1, q2, q3⟩, r0, r1, r2, r3⟩ := h.2.1.1
    have : w = 0 ∨ w = 1 ∨ w = 2 ∨ w = 3 ∨ w = 4 ∨ w = 5 := by omega
    rcases this with rfl | rfl | rfl | rfl | rfl | rfl
    · obtain ⟨k, u1, u2, u3⟩ := le_n (a := 5) (b := 25) (by decide) h1 h2 (by decide)
      exact ⟨k, cap, la, st, ⟨by rw [mI_self]; exact u3, q1, q2, q3⟩, ⟨u1, u2⟩, r1, r2, r3⟩
    · obtain ⟨k, u1, u2, u3⟩ := le_n (a := 5) (b := 30) (by decide) h1 h2 (by decide)
      exact ⟨g, k, la, st, ⟨q0, by rw [mI_self]; exact u3, q2, q3⟩, r0, ⟨u1, u2⟩, r2, r3⟩
    · obtain ⟨k, u1, u2, u3⟩ := le_n (a := 5) (b := 25) (by decide) h1 h2 (by decide)
      exact ⟨g, cap, k, st, ⟨q0, q1, by rw [mI_self]; exact u3, q3⟩, r0, r1, ⟨u1, u2⟩, r3⟩
    · obtain ⟨k, u1, u2, u3⟩ := le_n (a := 1) (b := 3) (by decide) h1 h2 (by decide)
      exact ⟨g, cap, la, k, ⟨q0, q1, q2, by rw [mI_self]; exact u3⟩, r0, r1, r2, ⟨u1, u2⟩⟩
    · exact ⟨g, cap, la, st, ⟨q0, q1, q2, q3⟩, r0, r1, r2, r3⟩
    · exact ⟨g, cap, la, st, ⟨q0, q1, q2, q3⟩, r0, r1, r2, r3⟩
theorem row_RR {n : Nat} {A B : mx_Mem} (h : RR n A B) (v : Int32) : RR n (mI (mI A 0 13 1) 0 14 v) (mI (mI B 46 11 v) 46 12 1) := by
  have fA : ∀ k, k ≠ 0 → (mI (mI A 0 13 1) 0 14 v).1 k = A.1 k := fun k hk => funext fun j => by rw [mI_ne _ _ _ _ hk, mI_ne _ _ _ _ hk]
  have fB : ∀ k, k ≠ 46 → (mI (mI B 46 11 v) 46 12 1).1 k = B.1 k := fun k hk => funext fun j => by rw [mI_ne _ _ _ _ hk, mI_ne _ _ _ _ hk]
  refine RR_stat h ?_ (fun k _ _ => fA k (by omega)) (fun k _ => fB k (by omega)) (IN_cg h.2.1.1 (fA 2 (by decide))) ?_ (fun _ => ⟨rfl, rfl, rfl⟩)
  · obtain ⟨s1, s2, s3, s4, s5⟩ := h.1.1.1
    exact ⟨s1, s2, s3, s4, rfl, rfl⟩
  · obtain ⟨b1, b2, b3, b4, b5, b6, b7⟩ := h.2.1.2.1
    exact ⟨b1, b2, b3, b4, b5, b6, Or.inr rfl⟩
/-- one sign more -/
theorem ap_RR {n : Nat} {A B : mx_Mem} (h : RR n A B) {m : Nat} (hm : m < 100) (hl : A.1 37 1 = nI m) {x y : Int32} (hs : sgR x y) : RR n (apM A x) (apB B m y) ∧ (apM A x).1 37 1 = nI (m + 1) := by
  have e1 : (apM A x).1 37 1 = nI (m + 1) := by
    unfold apM
    rw [mI_self, hl, nI_1]
  have fA : ∀ k, k ≠ 37 → k ≠ 38 → (apM A x).1 k = A.1 k := fun k h1 h2 => funext fun j => by unfold apM; rw [mI_ne _ _ _ _ h1, mI_ne _ _ _ _ h2]
  have fB : ∀ k, k ≠ 46 → k ≠ 56 → (apB B m y).1 k = B.1 k := fun k h1 h2 => funext fun j => by unfold apB; rw [mI_ne _ _ _ _ h2, mI_ne _ _ _ _ h1]
  refine ⟨RR_stat h ?_ (fun k _ _ => fA k (by omega) (by omega)) (fun k _ => fB k (by omega) (by omega)) (IN_cg h.2.1.1 (fA 2 (by decide) (by decide))) ?_ (fun _ => ⟨by rw [fA 3 (by decide) (by decide)], by rw [fA 6 (by decide) (by decide)], by rw [fA 2 (by decide) (by decide)]⟩), e1⟩
  · obtain ⟨s1, s2, s3, ⟨s4, s5⟩, s6⟩ := h.1.1.1
    refine ⟨s1, s2, s3, ⟨?_, fun j hj => ?_⟩, s6⟩
    · rw [e1]
      show nI (m + 1) = nI m + 1
      rw [nI_1]
    · have w := s5 j hj
      unfold apM apB
      rw [mI_ne _ _ _ _ (by decide), mI_ap, mI_ap, hl, nI_clamp (by omega), mI_ne _ _ _ _ (by decide)]
      by_cases e : j = m
      · rw [if_pos ⟨rfl, e⟩, if_pos ⟨rfl, e⟩]; exact hs
      · rw [if_neg (by omega), if_neg (by omega)]; exact w
  · obtain ⟨b1, b2, b3, b4, b5, b6, b7⟩ := h.2.1.2.1
    exact ⟨b1, b2, b3, b4, b5, ⟨m + 1, by omega, e1⟩, b7⟩
theorem sign_RR {n : Nat} {A B : mx_Mem} (h : RR n A B) {m : Nat} (hm : m + 4 ≤ 100) (hl : A.1 37 1 = nI m) (v : Int32) : RR n (sgM A v) (msg B m v) := by
  obtain ⟨h1, l1⟩ := ap_RR (RR_th h 0) (by omega) hl (sgC_R v (n := 24) (by decide))
  obtain ⟨h2, l2⟩ := ap_RR h1 (by omega) l1 (sgC_R v (n := 16) (by decide))
  obtain ⟨h3, l3⟩ := ap_RR h2 (by omega) l2 (sgC_R v (n := 8) (by decide))
  exact (ap_RR h3 (by omega) l3 (sgD_R v)).1

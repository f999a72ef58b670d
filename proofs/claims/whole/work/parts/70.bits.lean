/-! six unlike players leave six bits -/
theorem nI_or (a b : Nat) : nI a ||| nI b = nI (a ||| b) := by
  apply Int32.toBitVec_inj.1
  show BitVec.ofNat 32 a ||| BitVec.ofNat 32 b = BitVec.ofNat 32 (a ||| b)
  rw [BitVec.ofNat_or]
theorem nI_and (a b : Nat) : nI a &&& nI b = nI (a &&& b) := by
  apply Int32.toBitVec_inj.1
  show BitVec.ofNat 32 a &&& BitVec.ofNat 32 b = BitVec.ofNat 32 (a &&& b)
  rw [BitVec.ofNat_and]
def pcn (x : Nat) : Nat := (x.testBit 0).toNat + (x.testBit 1).toNat + (x.testBit 2).toNat + (x.testBit 3).toNat + (x.testBit 4).toNat + (x.testBit 5).toNat + (x.testBit 6).toNat + (x.testBit 7).toNat + (x.testBit 8).toNat + (x.testBit 9).toNat + (x.testBit 10).toNat + (x.testBit 11).toNat
set_option maxRecDepth 100000 in
theorem bcF_n : ∀ x, x < 4096 → bcF (nI x) = nI (pcn x) := by decide +kernel
theorem pcn_or (x : Nat) {k : Nat} (hk : k < 12) : pcn (x ||| 2 ^ k) = pcn x + (if x.testBit k = true then 0 else 1) := by
  have h : ∀ i, (x ||| 2 ^ k).testBit i = (x.testBit i || decide (k = i)) := fun i => by rw [Nat.testBit_or, Nat.testBit_two_pow]
  unfold pcn
  simp only [h]
  have : k = 0 ∨ k = 1 ∨ k = 2 ∨ k = 3 ∨ k = 4 ∨ k = 5 ∨ k = 6 ∨ k = 7 ∨ k = 8 ∨ k = 9 ∨ k = 10 ∨ k = 11 := by omega
  rcases this with rfl | rfl | rfl | rfl | rfl | rfl | rfl | rfl | rfl | rfl | rfl | rfl <;> simp only [reduceCtorEq, decide_true, decide_false, Bool.or_true, Bool.or_false, show ∀ a b : Nat, decide (a = b) = decide (a = b) from fun _ _ => rfl] <;> (split <;> rename_i e <;> simp [e] <;> omega)
theorem bto_n {k : Nat} (hk : k < 12) : bto (nI k) = nI (2 ^ k) := by
  have h1 : isP (nI k) := ⟨nI_pos' (by omega), nI_ge (b := 12) hk (by decide)⟩
  unfold bto
  rw [if_pos h1]
  have : k = 0 ∨ k = 1 ∨ k = 2 ∨ k = 3 ∨ k = 4 ∨ k = 5 ∨ k = 6 ∨ k = 7 ∨ k = 8 ∨ k = 9 ∨ k = 10 ∨ k = 11 := by omega
  rcases this with rfl | rfl | rfl | rfl | rfl | rfl | rfl | rfl | rfl | rfl | rfl | rfl <;> decide
/-- the players among some numbers, as bits -/
def bts : List Int32 → Nat
  | [] => 0
  | p :: r => bts r ||| (if isP p then 2 ^ p.toNatClampNeg else 0)
theorem bts_lt : ∀ l, bts l < 4096
  | [] => by decide
  | p :: r => by
    unfold bts
    have h1 := bts_lt r
    split
    · rename_i h
      obtain ⟨k, hk, rfl⟩ := isP_n h
      rw [nI_clamp (by omega)]
      refine Nat.or_lt_two_pow (n := 12) h1 ?_
      exact Nat.pow_lt_pow_right (by decide) hk
    · rw [Nat.or_zero]; exact h1
theorem bts_bit {k : Nat} (hk : k < 12) : ∀ l, (bts l).testBit k = true ↔ nI k ∈ l
  | [] => by simp [bts]
  | p :: r => by
    have ih := bts_bit hk r
    unfold bts
    rw [Nat.testBit_or, Bool.or_eq_true, ih, List.mem_cons]
    have : (Nat.testBit (if isP p then 2 ^ p.toNatClampNeg else 0) k = true) ↔ nI k = p := by
      split
      · rename_i h
        obtain ⟨j, hj, rfl⟩ := isP_n h
        rw [nI_clamp (by omega), Nat.testBit_two_pow, decide_eq_true_eq, nI_k (by omega) (by omega)]
        exact eq_comm
      · rename_i h
        rw [Nat.zero_testBit]
        constructor
        · intro q; cases q
        · rintro rfl
          exact absurd ⟨nI_pos' (by omega), nI_ge (b := 12) hk (by decide)⟩ h
    rw [this]
    exact or_comm
/-- all are players, and no two are alike -/
def alk : List Int32 → Prop
  | [] => True
  | p :: r => isP p ∧ ¬ p ∈ r ∧ alk r
theorem bts_le : ∀ l, pcn (bts l) ≤ l.length
  | [] => by decide
  | p :: r => by
    have ih := bts_le r
    unfold bts
    split
    · rename_i h
      obtain ⟨k, hk, rfl⟩ := isP_n h
      rw [nI_clamp (by omega), pcn_or _ hk]
      simp only [List.length_cons]
      split <;> omega
    · rw [Nat.or_zero]
      simp only [List.length_cons]
      omega
theorem bts_eq : ∀ l, pcn (bts l) = l.length ↔ alk l
  | [] => ⟨fun _ => trivial, fun _ => by decide⟩
  | p :: r => by
    have ih := bts_eq r
    have hle := bts_le r
    unfold bts alk
    by_cases h : isP p
    · rw [if_pos h]
      obtain ⟨k, hk, rfl⟩ := isP_n h
      rw [nI_clamp (by omega), pcn_or _ hk, ← bts_bit hk r]
      simp only [List.length_cons]
      by_cases e : (bts r).testBit k = true
      · rw [if_pos e]
        exact ⟨fun q => by omega, fun q => absurd e q.2.1⟩
      · rw [if_neg e, ← ih]
        exact ⟨fun q => ⟨h, e, by omega⟩, fun q => by omega⟩
    · rw [if_neg h, Nat.or_zero]
      simp only [List.length_cons]
      exact ⟨fun q => by omega, fun q => absurd q.1 h⟩
theorem bto_b (p : Int32) : bto p = nI (if isP p then 2 ^ p.toNatClampNeg else 0) := by
  by_cases h : isP p
  · rw [if_pos h]
    obtain ⟨k, hk, rfl⟩ := isP_n h
    rw [bto_n hk, nI_clamp (by omega)]
  · unfold bto
    rw [if_neg h, if_neg h]; rfl
theorem sx_bts (a b c d e f : Int32) : sx6 a b c d e f = nI (bts [f, e, d, c, b, a]) := by
  unfold sx6
  rw [bto_b a, bto_b b, bto_b c, bto_b d, bto_b e, bto_b f, nI_or, nI_or, nI_or, nI_or, nI_or]
  simp only [bts, Nat.zero_or]
theorem lu_iff {M : mx_Mem} {z : Int32} (hz : isL z) (a b c d e f : Int32) : (bcF (sx6 a b c d e f) = 6 ∧ sx6 a b c d e f &&& bto z = 0) ↔ alk [f, e, d, c, b, a] ∧ ¬ z ∈ [f, e, d, c, b, a] := by
  have hlt := bts_lt [f, e, d, c, b, a]
  have hle := bts_le [f, e, d, c, b, a]
  have heq := bts_eq [f, e, d, c, b, a]
  rw [sx_bts, bcF_n _ hlt]
  have e1 : nI (pcn (bts [f, e, d, c, b, a])) = 6 ↔ alk [f, e, d, c, b, a] := by
    rw [← heq, show (6 : Int32) = nI 6 from rfl, nI_k (by simp only [List.length_cons, List.length_nil] at hle; omega) (by decide)]
    exact Iff.rfl
  rw [e1]
  refine and_congr_right fun hal => ?_
  rcases hz with rfl | hz
  · have : bto (-1) = nI 0 := by decide
    rw [this, nI_and, Nat.and_zero]
    refine ⟨fun _ hm => ?_, fun _ => rfl⟩
    have key : ∀ l : List Int32, alk l → ¬ (-1 : Int32) ∈ l := by
      intro l
      induction l with
      | nil => intro _ h; cases h
      | cons p r ih =>
        intro h hm
        rcases List.mem_cons.mp hm with e | e
        · exact isP_m1 h.1 e.symm
        · exact ih h.2.2 e
    exact key _ hal hm
  · obtain ⟨k, hk, rfl⟩ := isP_n hz
    rw [bto_n hk, nI_and, ← bts_bit hk]
    have hand : bts [f, e, d, c, b, a] &&& 2 ^ k < 4096 := Nat.lt_of_le_of_lt Nat.and_le_left hlt
    rw [show (0 : Int32) = nI 0 from rfl, nI_eq (by omega) (by decide)]
    generalize bts [f, e, d, c, b, a] = x
    constructor
    · intro q h9
      have : (x &&& 2 ^ k).testBit k = true := by
        rw [Nat.testBit_and, h9, Nat.testBit_two_pow]; simp
      rw [q, Nat.zero_testBit] at this
      cases this
    · intro q
      have hf : x.testBit k = false := by simpa using q
      apply Nat.eq_of_testBit_eq
      intro i
      rw [Nat.testBit_and, Nat.testBit_two_pow, Nat.zero_testBit]
      by_cases e : k = i
      · subst e; rw [hf]; rfl
      · simp [e]

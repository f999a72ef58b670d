/-! rows where the numbers are known -/
section MXK
variable {G : mx_G} {X : mx_X} {own : String} {cc : ByteArray} {nL pc : Nat} {L S : List Value} {M : mx_Mem}
theorem r_iincK (q : Nat) (hX : mx_OK G X own cc nL) {k : Nat} {n : Int} {x w : Int32} (hd : decode cc pc = .ok (.iinc k n, 3)) (hv : L[k]? = some (.int x)) (hw : x + Int32.ofInt n = w) (hi : mx_st1 L k = true) (kk : mx_WW G X q (L.set k (.int w)) S M) (hq : pc + 3 = q := by rfl) : mx_WW G X pc L S M :=
  r_iinc q hX hd hv rfl hi (by rw [hw]; exact kk) hq
theorem r_iaddK (q : Nat) (hX : mx_OK G X own cc nL) {x y w : Int32} (hd : decode cc pc = .ok (.iadd, 1)) (hw : x + y = w) (kk : mx_WW G X q L (.int w :: S) M) (hq : pc + 1 = q := by rfl) : mx_WW G X pc L (.int y :: .int x :: S) M := r_iadd q hX hd (by rw [hw]; exact kk) hq
theorem r_isubK (q : Nat) (hX : mx_OK G X own cc nL) {x y w : Int32} (hd : decode cc pc = .ok (.isub, 1)) (hw : x - y = w) (kk : mx_WW G X q L (.int w :: S) M) (hq : pc + 1 = q := by rfl) : mx_WW G X pc L (.int y :: .int x :: S) M := r_isub q hX hd (by rw [hw]; exact kk) hq
theorem r_imulK (q : Nat) (hX : mx_OK G X own cc nL) {x y w : Int32} (hd : decode cc pc = .ok (.imul, 1)) (hw : x * y = w) (kk : mx_WW G X q L (.int w :: S) M) (hq : pc + 1 = q := by rfl) : mx_WW G X pc L (.int y :: .int x :: S) M := r_imul q hX hd (by rw [hw]; exact kk) hq
theorem r_idivK (q : Nat) (hX : mx_OK G X own cc nL) {x y w : Int32} (hd : decode cc pc = .ok (.idiv, 1)) (hne : ¬ y = 0) (hw : x / y = w) (kk : mx_WW G X q L (.int w :: S) M) (hq : pc + 1 = q := by rfl) : mx_WW G X pc L (.int y :: .int x :: S) M := r_idiv q hX hd hne (by rw [hw]; exact kk) hq
theorem r_iremK (q : Nat) (hX : mx_OK G X own cc nL) {x y w : Int32} (hd : decode cc pc = .ok (.irem, 1)) (hne : ¬ y = 0) (hw : x - x / y * y = w) (kk : mx_WW G X q L (.int w :: S) M) (hq : pc + 1 = q := by rfl) : mx_WW G X pc L (.int y :: .int x :: S) M := r_irem q hX hd hne (by rw [hw]; exact kk) hq
theorem r_ialdK (q : Nat) (hX : mx_OK G X own cc nL) {k n j : Nat} {i : Int32} (hd : decode cc pc = .ok (.iaload, 1)) (hs : mx_sh k = .inl (.int, n)) (hk : Nat.blt k 61 = true) (hi : vp_in i n) (hj : i.toNatClampNeg = j) (kk : mx_WW G X q L (.int (M.1 k j) :: S) M) (hq : pc + 1 = q := by rfl) : mx_WW G X pc L (.int i :: .ref k :: S) M := r_iald q hX hd hs hk hi (by rw [hj]; exact kk) hq
theorem r_zaldK (q : Nat) (hX : mx_OK G X own cc nL) {k n j : Nat} {i : Int32} (hd : decode cc pc = .ok (.baload, 1)) (hs : mx_sh k = .inl (.boolean, n)) (hk : Nat.blt k 61 = true) (hi : vp_in i n) (hj : i.toNatClampNeg = j) (kk : mx_WW G X q L (.int (M.1 k j) :: S) M) (hq : pc + 1 = q := by rfl) : mx_WW G X pc L (.int i :: .ref k :: S) M := r_zald q hX hd hs hk hi (by rw [hj]; exact kk) hq
theorem r_iastK (q : Nat) (hX : mx_OK G X own cc nL) {k n j : Nat} {i x : Int32} (hd : decode cc pc = .ok (.iastore, 1)) (hs : mx_sh k = .inl (.int, n)) (hk : Nat.blt k 61 = true) (hi : vp_in i n) (hj : i.toNatClampNeg = j) (kk : mx_WW G X q L S (mI M k j x)) (hq : pc + 1 = q := by rfl) : mx_WW G X pc L (.int x :: .int i :: .ref k :: S) M := r_iast q hX hd hs hk hi (by rw [hj]; exact kk) hq
theorem r_zastK (q : Nat) (hX : mx_OK G X own cc nL) {k n j : Nat} {i x y : Int32} (hd : decode cc pc = .ok (.bastore, 1)) (hs : mx_sh k = .inl (.boolean, n)) (hk : Nat.blt k 61 = true) (hi : vp_in i n) (hj : i.toNatClampNeg = j) (hy : vp_nar .boolean x = y) (kk : mx_WW G X q L S (mI M k j y)) (hq : pc + 1 = q := by rfl) : mx_WW G X pc L (.int x :: .int i :: .ref k :: S) M := r_zast q hX hd hs hk hi (by rw [hj, hy]; exact kk) hq
theorem r_taldK (q : Nat) (hX : mx_OK G X own cc nL) {k j : Nat} {i v : Int32} {C n9 : String} {l9 : List Int32} (hd : decode cc pc = .ok (.iaload, 1)) (hs : mx_stL[j]? = some (k, C, n9, l9)) (hi : vp_in i l9.length) (hv : l9.getD i.toNatClampNeg 0 = v) (kk : mx_WW G X q L (.int v :: S) M) (hq : pc + 1 = q := by rfl) : mx_WW G X pc L (.int i :: .ref k :: S) M := r_tald q hX hd hs hi (by rw [hv]; exact kk) hq
theorem r_aaldK (q : Nat) (hX : mx_OK G X own cc nL) {k n j : Nat} {i : Int32} (hd : decode cc pc = .ok (.aaload, 1)) (hs : mx_sh k = .inl (.array .int, n)) (hk : Nat.blt k 61 = true) (hi : vp_in i n) (hj : mx_row i.toNatClampNeg = j) (kk : mx_WW G X q L (.ref j :: S) M) (hq : pc + 1 = q := by rfl) : mx_WW G X pc L (.int i :: .ref k :: S) M := r_aald q hX hd hs hk hi (by rw [hj]; exact kk) hq
theorem r_ixor (q : Nat) (hX : mx_OK G X own cc nL) {x y : Int32} (hd : decode cc pc = .ok (.ixor, 1)) (kk : mx_WW G X q L (.int (x ^^^ y) :: S) M) (hq : pc + 1 = q := by rfl) : mx_WW G X pc L (.int y :: .int x :: S) M := by
  obtain ⟨p, l, e, R, s, m, args, below, meth, c, Q, cells, slots⟩ := X
  obtain ⟨hx, hb, hml, hown, hts, hSC⟩ := hX
  subst hq
  intro H locs ls hP hS hl
  exact lv_ixor hx hb hd (kk H locs ls hP hS hl)
end MXK
/-- a team; a player -/
abbrev isT (t : Int32) : Prop := t = 0 ∨ t = 1
abbrev isP (p : Int32) : Prop := 0 ≤ p ∧ ¬ 12 ≤ p
theorem mI_self (M : mx_Mem) (k j : Nat) (v : Int32) : (mI M k j v).1 k j = v := by simp [mI, mR, upd]
theorem mI_ne (M : mx_Mem) {k k' : Nat} (j j' : Nat) (v : Int32) (h : k' ≠ k) : (mI M k j v).1 k' j' = M.1 k' j' := by simp [mI, mR, h]
theorem mI_nj (M : mx_Mem) (k : Nat) {j j' : Nat} (v : Int32) (h : j' ≠ j) : (mI M k j v).1 k j' = M.1 k j' := by simp [mI, mR, upd, h]
theorem mI_ap (M : mx_Mem) (k j k' j' : Nat) (v : Int32) : (mI M k j v).1 k' j' = if k' = k ∧ j' = j then v else M.1 k' j' := by
  by_cases h : k' = k
  · subst h
    by_cases h2 : j' = j <;> simp [mI, mR, upd, h2]
  · simp [mI, mR, h]
theorem mI_2 (M : mx_Mem) (k j : Nat) (v : Int32) : (mI M k j v).2 = M.2 := rfl
theorem mR_ap (M : mx_Mem) (k k' : Nat) (f : Nat → Int32) : (mR M k f).1 k' = if k' = k then f else M.1 k' := rfl
theorem mR_2 (M : mx_Mem) (k : Nat) (f : Nat → Int32) : (mR M k f).2 = M.2 := rfl
theorem mI_idem (M : mx_Mem) (k j : Nat) (v w : Int32) : mI (mI M k j v) k j w = mI M k j w := by
  apply Prod.ext
  · funext a b
    rw [mI_ap, mI_ap, mI_ap]
    by_cases h : a = k ∧ b = j <;> simp [h]
  · rfl
theorem vp_in_iff2 {i : Int32} {n : Nat} (hn : n < 2 ^ 31) : vp_in i n ↔ 0 ≤ i ∧ ¬ nI n ≤ i := by
  constructor
  · intro h
    obtain ⟨j, h1, rfl⟩ := vp_in_of h hn
    exact ⟨nI_pos' (by omega), nI_ge h1 hn⟩
  · intro ⟨h1, h2⟩
    rcases pk_ix i hn with h | h | ⟨j, h, rfl⟩
    · exact absurd h (Int32.not_lt.mpr h1)
    · exact absurd h h2
    · exact vp_in_nI h hn
theorem vp_in_of2 {i : Int32} (n : Nat) (hn : n < 2 ^ 31) {m : Int32} (hm : nI n = m) (h1 : 0 ≤ i) (h2 : ¬ m ≤ i) : vp_in i n := (vp_in_iff2 hn).mpr ⟨h1, by rw [hm]; exact h2⟩
theorem vpK {i : Int32} {n : Nat} (h : (decide (i < 0) || Nat.ble n i.toNatClampNeg) = false) : vp_in i n := by
  simp only [Bool.or_eq_false_iff, decide_eq_false_iff_not] at h
  intro hh
  rcases hh with h1 | h1
  · exact h.1 h1
  · have := h.2
    rw [Nat.ble_eq_true_of_le h1] at this
    cases this
theorem vp2 {i : Int32} (h1 : 0 ≤ i) (h2 : ¬ 2 ≤ i) : vp_in i 2 := vp_in_of2 2 (by decide) rfl h1 h2
theorem vp6 {i : Int32} (h1 : 0 ≤ i) (h2 : ¬ 6 ≤ i) : vp_in i 6 := vp_in_of2 6 (by decide) rfl h1 h2
theorem vp12 {i : Int32} (h1 : 0 ≤ i) (h2 : ¬ 12 ≤ i) : vp_in i 12 := vp_in_of2 12 (by decide) rfl h1 h2
theorem vp48 {i : Int32} (h1 : 0 ≤ i) (h2 : ¬ 48 ≤ i) : vp_in i 48 := vp_in_of2 48 (by decide) rfl h1 h2
theorem vp100 {i : Int32} (h1 : 0 ≤ i) (h2 : ¬ 100 ≤ i) : vp_in i 100 := vp_in_of2 100 (by decide) rfl h1 h2
theorem vp372 {i : Int32} (h1 : 0 ≤ i) (h2 : ¬ 372 ≤ i) : vp_in i 372 := vp_in_of2 372 (by decide) rfl h1 h2
theorem vpP {i : Int32} (h : isP i) : vp_in i 12 := vp12 h.1 h.2

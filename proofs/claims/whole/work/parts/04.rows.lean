theorem mx_c_int (ad : Nat → Nat) (x : Int32) : mx_c ad (.int x) = .int x := rfl
theorem mx_c_long (ad : Nat → Nat) (x : Int64) : mx_c ad (.long x) = .long x := rfl
theorem mx_c_ref (ad : Nat → Nat) (x : Nat) : mx_c ad (.ref x) = .ref (ad x) := rfl
def mx_st1 (L : List Value) (i : Nat) : Bool := decide (i < L.length) && (i == 0 || (L.getD (i - 1) .null).category != 2)
def mx_st2 (L : List Value) (i : Nat) : Bool := decide (i + 1 < L.length) && (i == 0 || (L.getD (i - 1) .null).category != 2)
theorem mx_store1 {G : mx_G} {ls : Array Slot} {L : List Value} {i : Nat} {v : Value} (h : mx_lh G ls L) (hi : mx_st1 L i = true) (hc : v.category = 1) :
    ∃ ls', storeLocals ls i (mx_c (mx_ad G) v) = some ls' ∧ mx_lh G ls' (L.set i v) := by
  obtain ⟨hs, hw, hq⟩ := h
  simp only [mx_st1, Bool.and_eq_true, decide_eq_true_eq, Bool.or_eq_true, beq_iff_eq, bne_iff_ne, ne_eq] at hi
  have hc' : (mx_c (mx_ad G) v).category = 1 := by rw [mx_cat]; exact hc
  obtain ⟨ls', e', h1, h2, h3⟩ := lv_store1 (l := []) (v := mx_c (mx_ad G) v) ⟨hs, hw, fun q hq => by cases hq⟩ hi.1 hc'
  refine ⟨ls', e', by rw [List.length_set]; exact h1, h2, fun j w hj hw0 => ?_⟩
  by_cases hji : j = i
  · subst hji
    rw [List.getElem?_set_self hi.1] at hj
    cases hj
    exact h3 (j, _) List.mem_cons_self
  · rw [List.getElem?_set_ne (Ne.symm hji)] at hj
    obtain ⟨ls2, e2, -, -, h5⟩ := lv_store1 (l := [(j, mx_c (mx_ad G) w)]) (v := mx_c (mx_ad G) v) ⟨hs, hw, fun q hq2 => by
      rw [List.mem_singleton] at hq2
      subst hq2
      exact hq j w hj hw0⟩ hi.1 hc'
    cases e'.symm.trans e2
    refine h5 (j, _) (List.mem_cons_of_mem _ (List.mem_filter.mpr ⟨List.mem_singleton.mpr rfl, ?_⟩))
    simp only [Bool.and_eq_true, Bool.not_eq_true', beq_eq_false_iff_ne, ne_eq, Bool.and_eq_false_iff]
    refine ⟨hji, ?_⟩
    by_cases hj1 : j + 1 = i
    · right
      show ¬ (mx_c (mx_ad G) w).category = 2
      rw [mx_cat]
      rcases hi.2 with h0 | h0
      · omega
      · subst hj1
        have : L.getD (j + 1 - 1) .null = w := by simp [hj]
        rw [this] at h0
        exact h0
    · left
      exact hj1
theorem mx_store2 {G : mx_G} {ls : Array Slot} {L : List Value} {i : Nat} {x : Int64} (h : mx_lh G ls L) (hi : mx_st2 L i = true) :
    ∃ ls', storeLocals ls i (.long x) = some ls' ∧ mx_lh G ls' ((L.set i (.long x)).set (i + 1) .null) := by
  obtain ⟨hs, hw, hq⟩ := h
  simp only [mx_st2, Bool.and_eq_true, decide_eq_true_eq, Bool.or_eq_true, beq_iff_eq, bne_iff_ne, ne_eq] at hi
  obtain ⟨ls', e', h1, h2, h3⟩ := lv_store2 (l := []) (v := .long x) ⟨hs, hw, fun q hq => by cases hq⟩ hi.1 rfl
  refine ⟨ls', e', by rw [List.length_set, List.length_set]; exact h1, h2, fun j w hj hw0 => ?_⟩
  by_cases hj2 : j = i + 1
  · subst hj2
    rw [List.getElem?_set_self (by rw [List.length_set]; exact hi.1)] at hj
    cases hj
    exact absurd rfl hw0
  · rw [List.getElem?_set_ne (Ne.symm hj2)] at hj
    by_cases hji : j = i
    · subst hji
      rw [List.getElem?_set_self (by omega)] at hj
      cases hj
      exact h3 (j, _) List.mem_cons_self
    · rw [List.getElem?_set_ne (Ne.symm hji)] at hj
      obtain ⟨ls2, e2, -, -, h5⟩ := lv_store2 (l := [(j, mx_c (mx_ad G) w)]) (v := .long x) ⟨hs, hw, fun q hq2 => by
        rw [List.mem_singleton] at hq2
        subst hq2
        exact hq j w hj hw0⟩ hi.1 rfl
      cases e'.symm.trans e2
      refine h5 (j, _) (List.mem_cons_of_mem _ (List.mem_filter.mpr ⟨List.mem_singleton.mpr rfl, ?_⟩))
      simp only [Bool.and_eq_true, Bool.not_eq_true', beq_eq_false_iff_ne, ne_eq, Bool.and_eq_false_iff]
      refine ⟨hji, hj2, ?_⟩
      by_cases hj1 : j + 1 = i
      · right
        show ¬ (mx_c (mx_ad G) w).category = 2
        rw [mx_cat]
        rcases hi.2 with h0 | h0
        · omega
        · subst hj1
          have : L.getD (j + 1 - 1) .null = w := by simp [hj]
          rw [this] at h0
          exact h0
      · left
        exact hj1

section MXR
variable {G : mx_G} {X : mx_X} {own : String} {cc : ByteArray} {nL pc : Nat} {L S : List Value} {M : mx_Mem}

theorem r_iconst (q : Nat) (hX : mx_OK G X own cc nL) {n : Int} {v : Int32} (hd : decode cc pc = .ok (.iconst n, 1)) (hv : Int32.ofInt n = v) (kk : mx_WW G X q L (.int v :: S) M) (hq : pc + 1 = q := by rfl) : mx_WW G X pc L (S) M := by
  obtain ⟨p, l, e, R, s, m, args, below, meth, c, Q, cells, slots⟩ := X
  obtain ⟨hx, hb, hml, hown, hts, hSC⟩ := hX
  subst hq
  intro H locs ls hP hS hl
  exact lv_iconst hx hb hd hv (kk H locs ls hP hS hl)
theorem r_bipush (q : Nat) (hX : mx_OK G X own cc nL) {n : Int} {v : Int32} (hd : decode cc pc = .ok (.bipush n, 2)) (hv : (Int8.ofInt n).toInt32 = v) (kk : mx_WW G X q L (.int v :: S) M) (hq : pc + 2 = q := by rfl) : mx_WW G X pc L (S) M := by
  obtain ⟨p, l, e, R, s, m, args, below, meth, c, Q, cells, slots⟩ := X
  obtain ⟨hx, hb, hml, hown, hts, hSC⟩ := hX
  subst hq
  intro H locs ls hP hS hl
  exact lv_bipush hx hb hd hv (kk H locs ls hP hS hl)
theorem r_sipush (q : Nat) (hX : mx_OK G X own cc nL) {n : Int} {v : Int32} (hd : decode cc pc = .ok (.sipush n, 3)) (hv : (Int16.ofInt n).toInt32 = v) (kk : mx_WW G X q L (.int v :: S) M) (hq : pc + 3 = q := by rfl) : mx_WW G X pc L (S) M := by
  obtain ⟨p, l, e, R, s, m, args, below, meth, c, Q, cells, slots⟩ := X
  obtain ⟨hx, hb, hml, hown, hts, hSC⟩ := hX
  subst hq
  intro H locs ls hP hS hl
  exact lv_sipush hx hb hd hv (kk H locs ls hP hS hl)
theorem r_lconst (q : Nat) (hX : mx_OK G X own cc nL) {n : Fin 2} {v : Int64} (hd : decode cc pc = .ok (.lconst n, 1)) (hv : Int64.ofNat (n : Nat) = v) (kk : mx_WW G X q L (.long v :: S) M) (hq : pc + 1 = q := by rfl) : mx_WW G X pc L (S) M := by
  obtain ⟨p, l, e, R, s, m, args, below, meth, c, Q, cells, slots⟩ := X
  obtain ⟨hx, hb, hml, hown, hts, hSC⟩ := hX
  subst hq
  intro H locs ls hP hS hl
  exact lv_lconst hx hb hd hv (kk H locs ls hP hS hl)
theorem r_iload_n (q : Nat) (hX : mx_OK G X own cc nL) {k : Fin 4} {x : Int32} (hd : decode cc pc = .ok (.iload_n k, 1)) (hv : L[(k : Nat)]? = some (.int x)) (kk : mx_WW G X q L (.int x :: S) M) (hq : pc + 1 = q := by rfl) : mx_WW G X pc L (S) M := by
  obtain ⟨p, l, e, R, s, m, args, below, meth, c, Q, cells, slots⟩ := X
  obtain ⟨hx, hb, hml, hown, hts, hSC⟩ := hX
  subst hq
  intro H locs ls hP hS hl
  exact lv_iload_n hx hb hd rfl (mx_nth hl hv (fun h => by cases h)) (kk H locs ls hP hS hl)
theorem r_iload (q : Nat) (hX : mx_OK G X own cc nL) {k : Nat} {x : Int32} (hd : decode cc pc = .ok (.iload k, 2)) (hv : L[k]? = some (.int x)) (kk : mx_WW G X q L (.int x :: S) M) (hq : pc + 2 = q := by rfl) : mx_WW G X pc L (S) M := by
  obtain ⟨p, l, e, R, s, m, args, below, meth, c, Q, cells, slots⟩ := X
  obtain ⟨hx, hb, hml, hown, hts, hSC⟩ := hX
  subst hq
  intro H locs ls hP hS hl
  exact lv_iload hx hb hd (mx_nth hl hv (fun h => by cases h)) (kk H locs ls hP hS hl)
theorem r_lload_n (q : Nat) (hX : mx_OK G X own cc nL) {k : Fin 4} {x : Int64} (hd : decode cc pc = .ok (.lload_n k, 1)) (hv : L[(k : Nat)]? = some (.long x)) (kk : mx_WW G X q L (.long x :: S) M) (hq : pc + 1 = q := by rfl) : mx_WW G X pc L (S) M := by
  obtain ⟨p, l, e, R, s, m, args, below, meth, c, Q, cells, slots⟩ := X
  obtain ⟨hx, hb, hml, hown, hts, hSC⟩ := hX
  subst hq
  intro H locs ls hP hS hl
  exact lv_lload_n hx hb hd rfl (mx_nth hl hv (fun h => by cases h)) (kk H locs ls hP hS hl)
theorem r_lload (q : Nat) (hX : mx_OK G X own cc nL) {k : Nat} {x : Int64} (hd : decode cc pc = .ok (.lload k, 2)) (hv : L[k]? = some (.long x)) (kk : mx_WW G X q L (.long x :: S) M) (hq : pc + 2 = q := by rfl) : mx_WW G X pc L (S) M := by
  obtain ⟨p, l, e, R, s, m, args, below, meth, c, Q, cells, slots⟩ := X
  obtain ⟨hx, hb, hml, hown, hts, hSC⟩ := hX
  subst hq
  intro H locs ls hP hS hl
  exact lv_lload hx hb hd (mx_nth hl hv (fun h => by cases h)) (kk H locs ls hP hS hl)
theorem r_aload_n (q : Nat) (hX : mx_OK G X own cc nL) {k : Fin 4} {x : Nat} (hd : decode cc pc = .ok (.aload_n k, 1)) (hv : L[(k : Nat)]? = some (.ref x)) (kk : mx_WW G X q L (.ref x :: S) M) (hq : pc + 1 = q := by rfl) : mx_WW G X pc L (S) M := by
  obtain ⟨p, l, e, R, s, m, args, below, meth, c, Q, cells, slots⟩ := X
  obtain ⟨hx, hb, hml, hown, hts, hSC⟩ := hX
  subst hq
  intro H locs ls hP hS hl
  exact lv_aload_n hx hb hd rfl (mx_nth hl hv (fun h => by cases h)) (kk H locs ls hP hS hl)
theorem r_aload (q : Nat) (hX : mx_OK G X own cc nL) {k : Nat} {x : Nat} (hd : decode cc pc = .ok (.aload k, 2)) (hv : L[k]? = some (.ref x)) (kk : mx_WW G X q L (.ref x :: S) M) (hq : pc + 2 = q := by rfl) : mx_WW G X pc L (S) M := by
  obtain ⟨p, l, e, R, s, m, args, below, meth, c, Q, cells, slots⟩ := X
  obtain ⟨hx, hb, hml, hown, hts, hSC⟩ := hX
  subst hq
  intro H locs ls hP hS hl
  exact lv_aload hx hb hd (mx_nth hl hv (fun h => by cases h)) (kk H locs ls hP hS hl)
theorem r_istore_n (q : Nat) (hX : mx_OK G X own cc nL) {k : Fin 4} {x : Int32} (hd : decode cc pc = .ok (.istore_n k, 1)) (hi : mx_st1 L (k : Nat) = true) (kk : mx_WW G X q (L.set (k : Nat) (.int x)) S M) (hq : pc + 1 = q := by rfl) : mx_WW G X pc L (.int x :: S) M := by
  obtain ⟨p, l, e, R, s, m, args, below, meth, c, Q, cells, slots⟩ := X
  obtain ⟨hx, hb, hml, hown, hts, hSC⟩ := hX
  subst hq
  intro H locs ls hP hS hl
  obtain ⟨ls', e', h'⟩ := mx_store1 (v := .int x) hl hi rfl
  intro T hT X9
  obtain ⟨t, a, b⟩ := kk H locs ls' hP hS h' T hT X9
  refine ⟨t, ?_, b⟩
  try simp only [mx_c] at e'
  jvm_step X9.here [X9.here.top, ↓top_set X9.here.top, hx, hb, hd, mx_c, List.map_cons, Value.isRef, e']
  exact a
theorem r_istore (q : Nat) (hX : mx_OK G X own cc nL) {k : Nat} {x : Int32} (hd : decode cc pc = .ok (.istore k, 2)) (hi : mx_st1 L k = true) (kk : mx_WW G X q (L.set k (.int x)) S M) (hq : pc + 2 = q := by rfl) : mx_WW G X pc L (.int x :: S) M := by
  obtain ⟨p, l, e, R, s, m, args, below, meth, c, Q, cells, slots⟩ := X
  obtain ⟨hx, hb, hml, hown, hts, hSC⟩ := hX
  subst hq
  intro H locs ls hP hS hl
  obtain ⟨ls', e', h'⟩ := mx_store1 (v := .int x) hl hi rfl
  intro T hT X9
  obtain ⟨t, a, b⟩ := kk H locs ls' hP hS h' T hT X9
  refine ⟨t, ?_, b⟩
  try simp only [mx_c] at e'
  jvm_step X9.here [X9.here.top, ↓top_set X9.here.top, hx, hb, hd, mx_c, List.map_cons, Value.isRef, e']
  exact a
theorem r_astore_n (q : Nat) (hX : mx_OK G X own cc nL) {k : Fin 4} {x : Nat} (hd : decode cc pc = .ok (.astore_n k, 1)) (hi : mx_st1 L (k : Nat) = true) (kk : mx_WW G X q (L.set (k : Nat) (.ref x)) S M) (hq : pc + 1 = q := by rfl) : mx_WW G X pc L (.ref x :: S) M := by
  obtain ⟨p, l, e, R, s, m, args, below, meth, c, Q, cells, slots⟩ := X
  obtain ⟨hx, hb, hml, hown, hts, hSC⟩ := hX
  subst hq
  intro H locs ls hP hS hl
  obtain ⟨ls', e', h'⟩ := mx_store1 (v := .ref x) hl hi rfl
  intro T hT X9
  obtain ⟨t, a, b⟩ := kk H locs ls' hP hS h' T hT X9
  refine ⟨t, ?_, b⟩
  try simp only [mx_c] at e'
  jvm_step X9.here [X9.here.top, ↓top_set X9.here.top, hx, hb, hd, mx_c, List.map_cons, Value.isRef, e']
  exact a
theorem r_astore (q : Nat) (hX : mx_OK G X own cc nL) {k : Nat} {x : Nat} (hd : decode cc pc = .ok (.astore k, 2)) (hi : mx_st1 L k = true) (kk : mx_WW G X q (L.set k (.ref x)) S M) (hq : pc + 2 = q := by rfl) : mx_WW G X pc L (.ref x :: S) M := by
  obtain ⟨p, l, e, R, s, m, args, below, meth, c, Q, cells, slots⟩ := X
  obtain ⟨hx, hb, hml, hown, hts, hSC⟩ := hX
  subst hq
  intro H locs ls hP hS hl
  obtain ⟨ls', e', h'⟩ := mx_store1 (v := .ref x) hl hi rfl
  intro T hT X9
  obtain ⟨t, a, b⟩ := kk H locs ls' hP hS h' T hT X9
  refine ⟨t, ?_, b⟩
  try simp only [mx_c] at e'
  jvm_step X9.here [X9.here.top, ↓top_set X9.here.top, hx, hb, hd, mx_c, List.map_cons, Value.isRef, e']
  exact a
theorem r_lstore (q : Nat) (hX : mx_OK G X own cc nL) {k : Nat} {x : Int64} (hd : decode cc pc = .ok (.lstore k, 2)) (hi : mx_st2 L k = true) (kk : mx_WW G X q ((L.set k (.long x)).set (k + 1) .null) S M) (hq : pc + 2 = q := by rfl) : mx_WW G X pc L (.long x :: S) M := by
  obtain ⟨p, l, e, R, s, m, args, below, meth, c, Q, cells, slots⟩ := X
  obtain ⟨hx, hb, hml, hown, hts, hSC⟩ := hX
  subst hq
  intro H locs ls hP hS hl
  obtain ⟨ls', e', h'⟩ := mx_store2 (x := x) hl hi
  intro T hT X9
  obtain ⟨t, a, b⟩ := kk H locs ls' hP hS h' T hT X9
  refine ⟨t, ?_, b⟩
  try simp only [mx_c] at e'
  jvm_step X9.here [X9.here.top, ↓top_set X9.here.top, hx, hb, hd, mx_c, List.map_cons, Value.isRef, e']
  exact a
theorem r_iinc (q : Nat) (hX : mx_OK G X own cc nL) {k : Nat} {n : Int} {x : Int32} {v : Int32} (hd : decode cc pc = .ok (.iinc k n, 3)) (hv : L[k]? = some (.int x)) (hn : Int32.ofInt n = v) (hi : mx_st1 L k = true) (kk : mx_WW G X q (L.set k (.int (x + v))) S M) (hq : pc + 3 = q := by rfl) : mx_WW G X pc L S M := by
  obtain ⟨p, l, e, R, s, m, args, below, meth, c, Q, cells, slots⟩ := X
  obtain ⟨hx, hb, hml, hown, hts, hSC⟩ := hX
  subst hq
  intro H locs ls hP hS hl
  subst hn
  obtain ⟨ls', e', h'⟩ := mx_store1 (v := .int (x + Int32.ofInt n)) hl hi rfl
  have hg : ls[k]? = some (.val (.int x)) := mx_nth hl hv (fun h => by cases h)
  intro T hT X9
  obtain ⟨t, a, b⟩ := kk H locs ls' hP hS h' T hT X9
  refine ⟨t, ?_, b⟩
  try simp only [mx_c] at e'
  jvm_step X9.here [X9.here.top, ↓top_set X9.here.top, hx, hb, hd, hg, e']
  exact a
theorem r_iadd (q : Nat) (hX : mx_OK G X own cc nL) {x y : Int32} (hd : decode cc pc = .ok (.iadd, 1))  (kk : mx_WW G X q L (.int (x + y) :: S) M) (hq : pc + 1 = q := by rfl) : mx_WW G X pc L (.int y :: .int x :: S) M := by
  obtain ⟨p, l, e, R, s, m, args, below, meth, c, Q, cells, slots⟩ := X
  obtain ⟨hx, hb, hml, hown, hts, hSC⟩ := hX
  subst hq
  intro H locs ls hP hS hl
  exact lv_iadd hx hb hd (kk H locs ls hP hS hl)
theorem r_isub (q : Nat) (hX : mx_OK G X own cc nL) {x y : Int32} (hd : decode cc pc = .ok (.isub, 1))  (kk : mx_WW G X q L (.int (x - y) :: S) M) (hq : pc + 1 = q := by rfl) : mx_WW G X pc L (.int y :: .int x :: S) M := by
  obtain ⟨p, l, e, R, s, m, args, below, meth, c, Q, cells, slots⟩ := X
  obtain ⟨hx, hb, hml, hown, hts, hSC⟩ := hX
  subst hq
  intro H locs ls hP hS hl
  exact lv_isub hx hb hd (kk H locs ls hP hS hl)
theorem r_imul (q : Nat) (hX : mx_OK G X own cc nL) {x y : Int32} (hd : decode cc pc = .ok (.imul, 1))  (kk : mx_WW G X q L (.int (x * y) :: S) M) (hq : pc + 1 = q := by rfl) : mx_WW G X pc L (.int y :: .int x :: S) M := by
  obtain ⟨p, l, e, R, s, m, args, below, meth, c, Q, cells, slots⟩ := X
  obtain ⟨hx, hb, hml, hown, hts, hSC⟩ := hX
  subst hq
  intro H locs ls hP hS hl
  exact lv_imul hx hb hd (kk H locs ls hP hS hl)
theorem r_iand (q : Nat) (hX : mx_OK G X own cc nL) {x y : Int32} (hd : decode cc pc = .ok (.iand, 1))  (kk : mx_WW G X q L (.int (x &&& y) :: S) M) (hq : pc + 1 = q := by rfl) : mx_WW G X pc L (.int y :: .int x :: S) M := by
  obtain ⟨p, l, e, R, s, m, args, below, meth, c, Q, cells, slots⟩ := X
  obtain ⟨hx, hb, hml, hown, hts, hSC⟩ := hX
  subst hq
  intro H locs ls hP hS hl
  exact lv_iand hx hb hd (kk H locs ls hP hS hl)
theorem r_ior (q : Nat) (hX : mx_OK G X own cc nL) {x y : Int32} (hd : decode cc pc = .ok (.ior, 1))  (kk : mx_WW G X q L (.int (x ||| y) :: S) M) (hq : pc + 1 = q := by rfl) : mx_WW G X pc L (.int y :: .int x :: S) M := by
  obtain ⟨p, l, e, R, s, m, args, below, meth, c, Q, cells, slots⟩ := X
  obtain ⟨hx, hb, hml, hown, hts, hSC⟩ := hX
  subst hq
  intro H locs ls hP hS hl
  exact lv_ior hx hb hd (kk H locs ls hP hS hl)
theorem r_ishl (q : Nat) (hX : mx_OK G X own cc nL) {x y : Int32} (hd : decode cc pc = .ok (.ishl, 1))  (kk : mx_WW G X q L (.int (x <<< (y &&& 31)) :: S) M) (hq : pc + 1 = q := by rfl) : mx_WW G X pc L (.int y :: .int x :: S) M := by
  obtain ⟨p, l, e, R, s, m, args, below, meth, c, Q, cells, slots⟩ := X
  obtain ⟨hx, hb, hml, hown, hts, hSC⟩ := hX
  subst hq
  intro H locs ls hP hS hl
  exact lv_ishl hx hb hd (kk H locs ls hP hS hl)
theorem r_ishr (q : Nat) (hX : mx_OK G X own cc nL) {x y : Int32} (hd : decode cc pc = .ok (.ishr, 1))  (kk : mx_WW G X q L (.int (x >>> (y &&& 31)) :: S) M) (hq : pc + 1 = q := by rfl) : mx_WW G X pc L (.int y :: .int x :: S) M := by
  obtain ⟨p, l, e, R, s, m, args, below, meth, c, Q, cells, slots⟩ := X
  obtain ⟨hx, hb, hml, hown, hts, hSC⟩ := hX
  subst hq
  intro H locs ls hP hS hl
  exact lv_ishr hx hb hd (kk H locs ls hP hS hl)
theorem r_idiv (q : Nat) (hX : mx_OK G X own cc nL) {x y : Int32} (hd : decode cc pc = .ok (.idiv, 1)) (hne : ¬ y = 0) (kk : mx_WW G X q L (.int (x / y) :: S) M) (hq : pc + 1 = q := by rfl) : mx_WW G X pc L (.int y :: .int x :: S) M := by
  obtain ⟨p, l, e, R, s, m, args, below, meth, c, Q, cells, slots⟩ := X
  obtain ⟨hx, hb, hml, hown, hts, hSC⟩ := hX
  subst hq
  intro H locs ls hP hS hl
  exact lv_idiv hx hb hd hne (kk H locs ls hP hS hl)
theorem r_irem (q : Nat) (hX : mx_OK G X own cc nL) {x y : Int32} (hd : decode cc pc = .ok (.irem, 1)) (hne : ¬ y = 0) (kk : mx_WW G X q L (.int (x - x / y * y) :: S) M) (hq : pc + 1 = q := by rfl) : mx_WW G X pc L (.int y :: .int x :: S) M := by
  obtain ⟨p, l, e, R, s, m, args, below, meth, c, Q, cells, slots⟩ := X
  obtain ⟨hx, hb, hml, hown, hts, hSC⟩ := hX
  subst hq
  intro H locs ls hP hS hl
  exact lv_irem hx hb hd hne (kk H locs ls hP hS hl)
theorem r_iushr (q : Nat) (hX : mx_OK G X own cc nL) {x y : Int32} (hd : decode cc pc = .ok (.iushr, 1))  (kk : mx_WW G X q L (.int ((x.toUInt32 >>> (y.toUInt32 &&& Int32.toUInt32 31)).toInt32) :: S) M) (hq : pc + 1 = q := by rfl) : mx_WW G X pc L (.int y :: .int x :: S) M := by
  obtain ⟨p, l, e, R, s, m, args, below, meth, c, Q, cells, slots⟩ := X
  obtain ⟨hx, hb, hml, hown, hts, hSC⟩ := hX
  subst hq
  intro H locs ls hP hS hl
  exact lv_iushr hx hb hd rfl (kk H locs ls hP hS hl)
theorem r_ladd (q : Nat) (hX : mx_OK G X own cc nL) {x y : Int64} (hd : decode cc pc = .ok (.ladd, 1))  (kk : mx_WW G X q L (.long (x + y) :: S) M) (hq : pc + 1 = q := by rfl) : mx_WW G X pc L (.long y :: .long x :: S) M := by
  obtain ⟨p, l, e, R, s, m, args, below, meth, c, Q, cells, slots⟩ := X
  obtain ⟨hx, hb, hml, hown, hts, hSC⟩ := hX
  subst hq
  intro H locs ls hP hS hl
  exact lv_ladd hx hb hd (kk H locs ls hP hS hl)
theorem r_lsub (q : Nat) (hX : mx_OK G X own cc nL) {x y : Int64} (hd : decode cc pc = .ok (.lsub, 1))  (kk : mx_WW G X q L (.long (x - y) :: S) M) (hq : pc + 1 = q := by rfl) : mx_WW G X pc L (.long y :: .long x :: S) M := by
  obtain ⟨p, l, e, R, s, m, args, below, meth, c, Q, cells, slots⟩ := X
  obtain ⟨hx, hb, hml, hown, hts, hSC⟩ := hX
  subst hq
  intro H locs ls hP hS hl
  exact lv_lsub hx hb hd (kk H locs ls hP hS hl)
theorem r_lmul (q : Nat) (hX : mx_OK G X own cc nL) {x y : Int64} (hd : decode cc pc = .ok (.lmul, 1))  (kk : mx_WW G X q L (.long (x * y) :: S) M) (hq : pc + 1 = q := by rfl) : mx_WW G X pc L (.long y :: .long x :: S) M := by
  obtain ⟨p, l, e, R, s, m, args, below, meth, c, Q, cells, slots⟩ := X
  obtain ⟨hx, hb, hml, hown, hts, hSC⟩ := hX
  subst hq
  intro H locs ls hP hS hl
  exact lv_lmul hx hb hd (kk H locs ls hP hS hl)
theorem r_ldiv (q : Nat) (hX : mx_OK G X own cc nL) {x y : Int64} (hd : decode cc pc = .ok (.ldiv, 1)) (hne : ¬ y = 0) (kk : mx_WW G X q L (.long (x / y) :: S) M) (hq : pc + 1 = q := by rfl) : mx_WW G X pc L (.long y :: .long x :: S) M := by
  obtain ⟨p, l, e, R, s, m, args, below, meth, c, Q, cells, slots⟩ := X
  obtain ⟨hx, hb, hml, hown, hts, hSC⟩ := hX
  subst hq
  intro H locs ls hP hS hl
  exact lv_ldiv hx hb hd hne (kk H locs ls hP hS hl)
theorem r_lcmp (q : Nat) (hX : mx_OK G X own cc nL) {x y : Int64} (hd : decode cc pc = .ok (.lcmp, 1))  (kk : mx_WW G X q L (.int (lg_cmp x y) :: S) M) (hq : pc + 1 = q := by rfl) : mx_WW G X pc L (.long y :: .long x :: S) M := by
  obtain ⟨p, l, e, R, s, m, args, below, meth, c, Q, cells, slots⟩ := X
  obtain ⟨hx, hb, hml, hown, hts, hSC⟩ := hX
  subst hq
  intro H locs ls hP hS hl
  exact W.lcmp hx hb hd (kk H locs ls hP hS hl)
theorem r_i2l (q : Nat) (hX : mx_OK G X own cc nL) {x : Int32} (hd : decode cc pc = .ok (.i2l, 1))  (kk : mx_WW G X q L (.long x.toInt64 :: S) M) (hq : pc + 1 = q := by rfl) : mx_WW G X pc L (.int x :: S) M := by
  obtain ⟨p, l, e, R, s, m, args, below, meth, c, Q, cells, slots⟩ := X
  obtain ⟨hx, hb, hml, hown, hts, hSC⟩ := hX
  subst hq
  intro H locs ls hP hS hl
  exact lv_i2l hx hb hd rfl (kk H locs ls hP hS hl)
theorem r_l2i (q : Nat) (hX : mx_OK G X own cc nL) {x : Int64} (hd : decode cc pc = .ok (.l2i, 1))  (kk : mx_WW G X q L (.int x.toInt32 :: S) M) (hq : pc + 1 = q := by rfl) : mx_WW G X pc L (.long x :: S) M := by
  obtain ⟨p, l, e, R, s, m, args, below, meth, c, Q, cells, slots⟩ := X
  obtain ⟨hx, hb, hml, hown, hts, hSC⟩ := hX
  subst hq
  intro H locs ls hP hS hl
  exact lv_l2i hx hb hd rfl (kk H locs ls hP hS hl)
theorem r_i2c (q : Nat) (hX : mx_OK G X own cc nL) {x : Int32} (hd : decode cc pc = .ok (.i2c, 1))  (kk : mx_WW G X q L (.int (x.toUInt32 % 65536).toInt32 :: S) M) (hq : pc + 1 = q := by rfl) : mx_WW G X pc L (.int x :: S) M := by
  obtain ⟨p, l, e, R, s, m, args, below, meth, c, Q, cells, slots⟩ := X
  obtain ⟨hx, hb, hml, hown, hts, hSC⟩ := hX
  subst hq
  intro H locs ls hP hS hl
  exact lv_i2c hx hb hd rfl (kk H locs ls hP hS hl)
theorem r_i2b (q : Nat) (hX : mx_OK G X own cc nL) {x : Int32} (hd : decode cc pc = .ok (.i2b, 1))  (kk : mx_WW G X q L (.int x.toInt8.toInt32 :: S) M) (hq : pc + 1 = q := by rfl) : mx_WW G X pc L (.int x :: S) M := by
  obtain ⟨p, l, e, R, s, m, args, below, meth, c, Q, cells, slots⟩ := X
  obtain ⟨hx, hb, hml, hown, hts, hSC⟩ := hX
  subst hq
  intro H locs ls hP hS hl
  exact lv_i2b hx hb hd rfl (kk H locs ls hP hS hl)
theorem r_dup (q : Nat) (hX : mx_OK G X own cc nL) {a : Value} (hd : decode cc pc = .ok (.dup, 1)) (ha : a.category = 1) (kk : mx_WW G X q L (a :: a :: S) M) (hq : pc + 1 = q := by rfl) : mx_WW G X pc L (a :: S) M := by
  obtain ⟨p, l, e, R, s, m, args, below, meth, c, Q, cells, slots⟩ := X
  obtain ⟨hx, hb, hml, hown, hts, hSC⟩ := hX
  subst hq
  intro H locs ls hP hS hl
  exact lv_dup hx hb hd (by rw [mx_cat]; exact ha) (kk H locs ls hP hS hl)
theorem r_dup_x1 (q : Nat) (hX : mx_OK G X own cc nL) {a b : Value} (hd : decode cc pc = .ok (.dup_x1, 1)) (ha : a.category = 1) (hb2 : b.category = 1) (kk : mx_WW G X q L (a :: b :: a :: S) M) (hq : pc + 1 = q := by rfl) : mx_WW G X pc L (a :: b :: S) M := by
  obtain ⟨p, l, e, R, s, m, args, below, meth, c, Q, cells, slots⟩ := X
  obtain ⟨hx, hb, hml, hown, hts, hSC⟩ := hX
  subst hq
  intro H locs ls hP hS hl
  exact lv_dup_x1 hx hb hd (by rw [mx_cat]; exact ha) (by rw [mx_cat]; exact hb2) (kk H locs ls hP hS hl)
theorem r_dup2 (q : Nat) (hX : mx_OK G X own cc nL) {a b : Value} (hd : decode cc pc = .ok (.dup2, 1)) (ha : a.category = 1) (hb2 : b.category = 1) (kk : mx_WW G X q L (a :: b :: a :: b :: S) M) (hq : pc + 1 = q := by rfl) : mx_WW G X pc L (a :: b :: S) M := by
  obtain ⟨p, l, e, R, s, m, args, below, meth, c, Q, cells, slots⟩ := X
  obtain ⟨hx, hb, hml, hown, hts, hSC⟩ := hX
  subst hq
  intro H locs ls hP hS hl
  exact lv_dup2_11 hx hb hd (by rw [mx_cat]; exact ha) (by rw [mx_cat]; exact hb2) (kk H locs ls hP hS hl)
theorem r_pop (q : Nat) (hX : mx_OK G X own cc nL) {a : Value} (hd : decode cc pc = .ok (.pop, 1)) (ha : a.category = 1) (kk : mx_WW G X q L (S) M) (hq : pc + 1 = q := by rfl) : mx_WW G X pc L (a :: S) M := by
  obtain ⟨p, l, e, R, s, m, args, below, meth, c, Q, cells, slots⟩ := X
  obtain ⟨hx, hb, hml, hown, hts, hSC⟩ := hX
  subst hq
  intro H locs ls hP hS hl
  exact lv_pop hx hb hd (by rw [mx_cat]; exact ha) (kk H locs ls hP hS hl)
theorem r_if_eq (q t : Nat) (hX : mx_OK G X own cc nL) {x : Int32} {off : Int} (hd : decode cc pc = .ok (.ifCond .eq off, 3)) (kt : x = 0 → mx_WW G X t L S M) (kf : ¬ x = 0 → mx_WW G X q L S M) (ht : (pc : Int) + off = (t : Int) := by decide) (hq : pc + 3 = q := by rfl) : mx_WW G X pc L (.int x :: S) M := by
  obtain ⟨p, l, e, R, s, m, args, below, meth, c, Q, cells, slots⟩ := X
  obtain ⟨hx, hb, hml, hown, hts, hSC⟩ := hX
  subst hq
  intro H locs ls hP hS hl
  exact lv_if_eq hx hb hd ht (fun h => kt h H locs ls hP hS hl) (fun h => kf h H locs ls hP hS hl)
theorem r_icmp_eq (q t : Nat) (hX : mx_OK G X own cc nL) {x y : Int32} {off : Int} (hd : decode cc pc = .ok (.if_icmp .eq off, 3)) (kt : x = y → mx_WW G X t L S M) (kf : ¬ x = y → mx_WW G X q L S M) (ht : (pc : Int) + off = (t : Int) := by decide) (hq : pc + 3 = q := by rfl) : mx_WW G X pc L (.int y :: .int x :: S) M := by
  obtain ⟨p, l, e, R, s, m, args, below, meth, c, Q, cells, slots⟩ := X
  obtain ⟨hx, hb, hml, hown, hts, hSC⟩ := hX
  subst hq
  intro H locs ls hP hS hl
  exact lv_icmp_eq hx hb hd ht (fun h => kt h H locs ls hP hS hl) (fun h => kf h H locs ls hP hS hl)
theorem r_if_ne (q t : Nat) (hX : mx_OK G X own cc nL) {x : Int32} {off : Int} (hd : decode cc pc = .ok (.ifCond .ne off, 3)) (kt : ¬ x = 0 → mx_WW G X t L S M) (kf : x = 0 → mx_WW G X q L S M) (ht : (pc : Int) + off = (t : Int) := by decide) (hq : pc + 3 = q := by rfl) : mx_WW G X pc L (.int x :: S) M := by
  obtain ⟨p, l, e, R, s, m, args, below, meth, c, Q, cells, slots⟩ := X
  obtain ⟨hx, hb, hml, hown, hts, hSC⟩ := hX
  subst hq
  intro H locs ls hP hS hl
  exact lv_if_ne hx hb hd ht (fun h => kt h H locs ls hP hS hl) (fun h => kf h H locs ls hP hS hl)
theorem r_icmp_ne (q t : Nat) (hX : mx_OK G X own cc nL) {x y : Int32} {off : Int} (hd : decode cc pc = .ok (.if_icmp .ne off, 3)) (kt : ¬ x = y → mx_WW G X t L S M) (kf : x = y → mx_WW G X q L S M) (ht : (pc : Int) + off = (t : Int) := by decide) (hq : pc + 3 = q := by rfl) : mx_WW G X pc L (.int y :: .int x :: S) M := by
  obtain ⟨p, l, e, R, s, m, args, below, meth, c, Q, cells, slots⟩ := X
  obtain ⟨hx, hb, hml, hown, hts, hSC⟩ := hX
  subst hq
  intro H locs ls hP hS hl
  exact lv_icmp_ne hx hb hd ht (fun h => kt h H locs ls hP hS hl) (fun h => kf h H locs ls hP hS hl)
theorem r_if_lt (q t : Nat) (hX : mx_OK G X own cc nL) {x : Int32} {off : Int} (hd : decode cc pc = .ok (.ifCond .lt off, 3)) (kt : x < 0 → mx_WW G X t L S M) (kf : ¬ x < 0 → mx_WW G X q L S M) (ht : (pc : Int) + off = (t : Int) := by decide) (hq : pc + 3 = q := by rfl) : mx_WW G X pc L (.int x :: S) M := by
  obtain ⟨p, l, e, R, s, m, args, below, meth, c, Q, cells, slots⟩ := X
  obtain ⟨hx, hb, hml, hown, hts, hSC⟩ := hX
  subst hq
  intro H locs ls hP hS hl
  exact lv_if_lt hx hb hd ht (fun h => kt h H locs ls hP hS hl) (fun h => kf h H locs ls hP hS hl)
theorem r_icmp_lt (q t : Nat) (hX : mx_OK G X own cc nL) {x y : Int32} {off : Int} (hd : decode cc pc = .ok (.if_icmp .lt off, 3)) (kt : x < y → mx_WW G X t L S M) (kf : ¬ x < y → mx_WW G X q L S M) (ht : (pc : Int) + off = (t : Int) := by decide) (hq : pc + 3 = q := by rfl) : mx_WW G X pc L (.int y :: .int x :: S) M := by
  obtain ⟨p, l, e, R, s, m, args, below, meth, c, Q, cells, slots⟩ := X
  obtain ⟨hx, hb, hml, hown, hts, hSC⟩ := hX
  subst hq
  intro H locs ls hP hS hl
  exact lv_icmp_lt hx hb hd ht (fun h => kt h H locs ls hP hS hl) (fun h => kf h H locs ls hP hS hl)
theorem r_if_ge (q t : Nat) (hX : mx_OK G X own cc nL) {x : Int32} {off : Int} (hd : decode cc pc = .ok (.ifCond .ge off, 3)) (kt : 0 ≤ x → mx_WW G X t L S M) (kf : ¬ 0 ≤ x → mx_WW G X q L S M) (ht : (pc : Int) + off = (t : Int) := by decide) (hq : pc + 3 = q := by rfl) : mx_WW G X pc L (.int x :: S) M := by
  obtain ⟨p, l, e, R, s, m, args, below, meth, c, Q, cells, slots⟩ := X
  obtain ⟨hx, hb, hml, hown, hts, hSC⟩ := hX
  subst hq
  intro H locs ls hP hS hl
  exact lv_if_ge hx hb hd ht (fun h => kt h H locs ls hP hS hl) (fun h => kf h H locs ls hP hS hl)
theorem r_icmp_ge (q t : Nat) (hX : mx_OK G X own cc nL) {x y : Int32} {off : Int} (hd : decode cc pc = .ok (.if_icmp .ge off, 3)) (kt : y ≤ x → mx_WW G X t L S M) (kf : ¬ y ≤ x → mx_WW G X q L S M) (ht : (pc : Int) + off = (t : Int) := by decide) (hq : pc + 3 = q := by rfl) : mx_WW G X pc L (.int y :: .int x :: S) M := by
  obtain ⟨p, l, e, R, s, m, args, below, meth, c, Q, cells, slots⟩ := X
  obtain ⟨hx, hb, hml, hown, hts, hSC⟩ := hX
  subst hq
  intro H locs ls hP hS hl
  exact lv_icmp_ge hx hb hd ht (fun h => kt h H locs ls hP hS hl) (fun h => kf h H locs ls hP hS hl)
theorem r_if_gt (q t : Nat) (hX : mx_OK G X own cc nL) {x : Int32} {off : Int} (hd : decode cc pc = .ok (.ifCond .gt off, 3)) (kt : 0 < x → mx_WW G X t L S M) (kf : ¬ 0 < x → mx_WW G X q L S M) (ht : (pc : Int) + off = (t : Int) := by decide) (hq : pc + 3 = q := by rfl) : mx_WW G X pc L (.int x :: S) M := by
  obtain ⟨p, l, e, R, s, m, args, below, meth, c, Q, cells, slots⟩ := X
  obtain ⟨hx, hb, hml, hown, hts, hSC⟩ := hX
  subst hq
  intro H locs ls hP hS hl
  exact lv_if_gt hx hb hd ht (fun h => kt h H locs ls hP hS hl) (fun h => kf h H locs ls hP hS hl)
theorem r_icmp_gt (q t : Nat) (hX : mx_OK G X own cc nL) {x y : Int32} {off : Int} (hd : decode cc pc = .ok (.if_icmp .gt off, 3)) (kt : y < x → mx_WW G X t L S M) (kf : ¬ y < x → mx_WW G X q L S M) (ht : (pc : Int) + off = (t : Int) := by decide) (hq : pc + 3 = q := by rfl) : mx_WW G X pc L (.int y :: .int x :: S) M := by
  obtain ⟨p, l, e, R, s, m, args, below, meth, c, Q, cells, slots⟩ := X
  obtain ⟨hx, hb, hml, hown, hts, hSC⟩ := hX
  subst hq
  intro H locs ls hP hS hl
  exact lv_icmp_gt hx hb hd ht (fun h => kt h H locs ls hP hS hl) (fun h => kf h H locs ls hP hS hl)
theorem r_if_le (q t : Nat) (hX : mx_OK G X own cc nL) {x : Int32} {off : Int} (hd : decode cc pc = .ok (.ifCond .le off, 3)) (kt : x ≤ 0 → mx_WW G X t L S M) (kf : ¬ x ≤ 0 → mx_WW G X q L S M) (ht : (pc : Int) + off = (t : Int) := by decide) (hq : pc + 3 = q := by rfl) : mx_WW G X pc L (.int x :: S) M := by
  obtain ⟨p, l, e, R, s, m, args, below, meth, c, Q, cells, slots⟩ := X
  obtain ⟨hx, hb, hml, hown, hts, hSC⟩ := hX
  subst hq
  intro H locs ls hP hS hl
  exact lv_if_le hx hb hd ht (fun h => kt h H locs ls hP hS hl) (fun h => kf h H locs ls hP hS hl)
theorem r_icmp_le (q t : Nat) (hX : mx_OK G X own cc nL) {x y : Int32} {off : Int} (hd : decode cc pc = .ok (.if_icmp .le off, 3)) (kt : x ≤ y → mx_WW G X t L S M) (kf : ¬ x ≤ y → mx_WW G X q L S M) (ht : (pc : Int) + off = (t : Int) := by decide) (hq : pc + 3 = q := by rfl) : mx_WW G X pc L (.int y :: .int x :: S) M := by
  obtain ⟨p, l, e, R, s, m, args, below, meth, c, Q, cells, slots⟩ := X
  obtain ⟨hx, hb, hml, hown, hts, hSC⟩ := hX
  subst hq
  intro H locs ls hP hS hl
  exact lv_icmp_le hx hb hd ht (fun h => kt h H locs ls hP hS hl) (fun h => kf h H locs ls hP hS hl)
theorem r_goto (t : Nat) (hX : mx_OK G X own cc nL) {off : Int} (hd : decode cc pc = .ok (.goto off, 3)) (kk : mx_WW G X t L S M) (ht : (pc : Int) + off = (t : Int) := by decide) : mx_WW G X pc L S M := by
  obtain ⟨p, l, e, R, s, m, args, below, meth, c, Q, cells, slots⟩ := X
  obtain ⟨hx, hb, hml, hown, hts, hSC⟩ := hX
  intro H locs ls hP hS hl
  exact lv_goto hx hb hd ht (kk H locs ls hP hS hl)
theorem r_tableOut (t : Nat) (hX : mx_OK G X own cc nL) {dflt lo hi : Int} {offs : Array Int} {len : Nat} {x : Int32} (hd : decode cc pc = .ok (.tableswitch dflt lo hi offs, len)) (h : x.toInt < lo ∨ hi < x.toInt) (kk : mx_WW G X t L S M) (ht : (pc : Int) + dflt = (t : Int) := by decide) : mx_WW G X pc L (.int x :: S) M := by
  obtain ⟨p, l, e, R, s, m, args, below, meth, c, Q, cells, slots⟩ := X
  obtain ⟨hx, hb, hml, hown, hts, hSC⟩ := hX
  intro H locs ls hP hS hl
  exact lv_tableOut hx hb hd h ht (kk H locs ls hP hS hl)
theorem r_tableIn (t : Nat) (hX : mx_OK G X own cc nL) {dflt lo hi : Int} {offs : Array Int} {len : Nat} {x : Int32} {off : Int} (hd : decode cc pc = .ok (.tableswitch dflt lo hi offs, len)) (h1 : ¬ x.toInt < lo) (h2 : ¬ hi < x.toInt) (ho : offs[(x.toInt - lo).toNat]? = some off) (kk : mx_WW G X t L S M) (ht : (pc : Int) + off = (t : Int) := by decide) : mx_WW G X pc L (.int x :: S) M := by
  obtain ⟨p, l, e, R, s, m, args, below, meth, c, Q, cells, slots⟩ := X
  obtain ⟨hx, hb, hml, hown, hts, hSC⟩ := hX
  intro H locs ls hP hS hl
  exact lv_tableIn hx hb hd h1 h2 ho ht (kk H locs ls hP hS hl)
theorem r_ldc (q : Nat) (hX : mx_OK G X own cc nL) {i : Nat} {v : Int32} (hd : decode cc pc = .ok (.ldc i, 2)) (hc : Cond.constant own i v ∈ mx_gW) (kk : mx_WW G X q L (.int v :: S) M) (hq : pc + 2 = q := by rfl) : mx_WW G X pc L (S) M := by
  obtain ⟨p, l, e, R, s, m, args, below, meth, c, Q, cells, slots⟩ := X
  obtain ⟨hx, hb, hml, hown, hts, hSC⟩ := hX
  subst hq
  intro H locs ls hP hS hl
  exact lv_ldc hx hb hown (hts _ hc) hd (kk H locs ls hP hS hl)
theorem r_ldcw (q : Nat) (hX : mx_OK G X own cc nL) {i : Nat} {v : Int32} (hd : decode cc pc = .ok (.ldc_w i, 3)) (hc : Cond.constant own i v ∈ mx_gW) (kk : mx_WW G X q L (.int v :: S) M) (hq : pc + 3 = q := by rfl) : mx_WW G X pc L (S) M := by
  obtain ⟨p, l, e, R, s, m, args, below, meth, c, Q, cells, slots⟩ := X
  obtain ⟨hx, hb, hml, hown, hts, hSC⟩ := hX
  subst hq
  intro H locs ls hP hS hl
  exact lv_ldcw hx hb hown (hts _ hc) hd (kk H locs ls hP hS hl)
theorem r_ldc2 (q : Nat) (hX : mx_OK G X own cc nL) {i : Nat} {v : Int64} (hd : decode cc pc = .ok (.ldc2_w i, 3)) (hc : Cond.constantLong own i v ∈ mx_gW) (kk : mx_WW G X q L (.long v :: S) M) (hq : pc + 3 = q := by rfl) : mx_WW G X pc L (S) M := by
  obtain ⟨p, l, e, R, s, m, args, below, meth, c, Q, cells, slots⟩ := X
  obtain ⟨hx, hb, hml, hown, hts, hSC⟩ := hX
  subst hq
  intro H locs ls hP hS hl
  exact lv_ldc2 hx hb hown (hts _ hc) hd (kk H locs ls hP hS hl)
end MXR

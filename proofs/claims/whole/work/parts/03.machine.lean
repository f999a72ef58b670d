/-! THE ABSTRACT MACHINE: one world of numbered cells (class, model, law), memory as functions, rows for each instruction -/
abbrev mx_Mem : Type := (Nat → Nat → Int32) × (Nat → Nat → Int64)
/-- a row of ints becomes f -/
def mR (M : mx_Mem) (k : Nat) (f : Nat → Int32) : mx_Mem := (fun a => if a = k then f else M.1 a, M.2)
/-- a row of longs becomes f -/
def mS (M : mx_Mem) (k : Nat) (f : Nat → Int64) : mx_Mem := (M.1, fun a => if a = k then f else M.2 a)
def mI (M : mx_Mem) (k j : Nat) (v : Int32) : mx_Mem := mR M k (upd (M.1 k) j v)
def mL (M : mx_Mem) (k j : Nat) (v : Int64) : mx_Mem := mS M k (vp_updL (M.2 k) j v)
/-- a cell's shape: an array by type and length; an object by class and fields (none: a number; some k: the cell k, for ever) -/
abbrev mx_Shp : Type := (FieldType × Nat) ⊕ (Nat × List (Option Nat))
def mx_court (k : Nat) : mx_Shp := .inr (2, [some (k + 1), some (k + 2), some (k + 3), some (k + 4), none, none, none, none, none, none, none, none])
def mx_arr (n : Nat) : mx_Shp := .inl (.int, n)
def mx_shL : List mx_Shp := [
  .inr (7, [some 1, some 3, some 6, some 9, some 14, some 19, some 20, some 25, some 30, some 31, some 34, some 37, some 39, none, none]),
  .inr (3, [some 2]), mx_arr 6,
  .inr (4, [some 4, some 5, none, none]), mx_arr 48, mx_arr 6,
  .inr (4, [some 7, some 8, none, none]), mx_arr 48, mx_arr 6,
  mx_court 9, mx_arr 6, mx_arr 12, mx_arr 12, mx_arr 12,
  mx_court 14, mx_arr 6, mx_arr 12, mx_arr 12, mx_arr 12,
  .inr (1, [none, none, none, none, none, none, none]),
  mx_court 20, mx_arr 6, mx_arr 12, mx_arr 12, mx_arr 12,
  mx_court 25, mx_arr 6, mx_arr 12, mx_arr 12, mx_arr 12,
  .inr (1, [none, none, none, none, none, none, none]),
  .inr (5, [some 32, some 33]), mx_arr 6, mx_arr 6,
  .inr (5, [some 35, some 36]), mx_arr 6, mx_arr 6,
  .inr (6, [some 38, none]), .inl (.char, 100),
  .inr (0, [some 40, some 41, some 42, some 43, none]), mx_arr 6, mx_arr 6, mx_arr 12, .inl (.array .int, 2), mx_arr 372, mx_arr 372,
  .inr (8, [some 47, some 48, some 49, some 50, some 51, some 52, some 53, some 54, some 55, some 56, none, none, none, none, some 57, some 58, some 59, some 60]),
  mx_arr 96, mx_arr 2, mx_arr 6, mx_arr 12, .inl (.boolean, 2), mx_arr 106, mx_arr 106, mx_arr 12, mx_arr 12, .inl (.byte, 100), mx_arr 6, mx_arr 12, mx_arr 72, .inl (.long, 69192),
  .inl (.long, 1)]
def mx_sh (k : Nat) : mx_Shp := mx_shL.getD k (mx_arr 0)
/-- the cells of the rows of Chances -/
def mx_row (j : Nat) : Nat := 44 + j
abbrev mx_cl : List vw_C := [(RX0, TX0, 5), (RX1, TX1, 7), (RX2, TX2, 12), (RX3, TX3, 1), (RX4, TX4, 4), (RX5, TX5, 2), (RX6, TX6, 2), (RX7, TX7, 15), (RX8, TX8, 18)]
/-- base, cells that are there, addresses, classes, array classes, the script -/
abbrev mx_G : Type := Nat × Nat × (Nat → Nat) × va_G × (FieldType → ClassId) × Nat × (Nat → Int32)
abbrev mx_base (G : mx_G) : Nat := G.1
abbrev mx_n (G : mx_G) : Nat := G.2.1
abbrev mx_ad (G : mx_G) : Nat → Nat := G.2.2.1
abbrev mx_D (G : mx_G) : va_G := G.2.2.2.1
abbrev mx_cA (G : mx_G) : FieldType → ClassId := G.2.2.2.2.1
abbrev mx_sN (G : mx_G) : Nat := G.2.2.2.2.2.1
abbrev mx_sX (G : mx_G) : Nat → Int32 := G.2.2.2.2.2.2
def mx_A (G : mx_G) : Nat → Prop := fun q => mx_base G ≤ q
/-- a value: its cells by address -/
def mx_c (ad : Nat → Nat) (v : Value) : Value := match v with
  | .ref k => .ref (ad k)
  | v => v
def mx_fs (ad : Nat → Nat) (f : Nat → Int32) : Nat → List (Option Nat) → List Value
  | _, [] => []
  | j, none :: r => .int (f j) :: mx_fs ad f (j + 1) r
  | j, some i :: r => .ref (ad i) :: mx_fs ad f (j + 1) r
def mx_pay (G : mx_G) (M : mx_Mem) (k : Nat) (ty : FieldType) : (Nat → Int32) ⊕ (Nat → Int64) ⊕ (Nat → UInt32) ⊕ (Nat → UInt64) ⊕ (Nat → Option Nat) := match ty with
  | .long => .inr (.inl (M.2 k))
  | .array _ => .inr (.inr (.inr (.inr (fun j => some (mx_ad G (mx_row j))))))
  | _ => .inl (M.1 k)
def mx_e (G : mx_G) (M : mx_Mem) (k : Nat) (s : mx_Shp) : va_E := match s with
  | .inl (ty, n) => .inl (mx_cA G ty, n, mx_pay G M k ty)
  | .inr (ci, fs) => .inr (ci, mx_fs (mx_ad G) (M.1 k) 0 fs)
def mx_cell (G : mx_G) (M : mx_Mem) (k : Nat) : Nat × va_E := (mx_ad G k, mx_e G M k (mx_sh k))
def mx_ws (G : mx_G) (M : mx_Mem) : va_W := (List.range (mx_n G)).map (mx_cell G M)
def mx_tys (G : mx_G) : List (ClassId × FieldType) := [(mx_cA G .int, .int), (mx_cA G .boolean, .boolean), (mx_cA G .byte, .byte), (mx_cA G .char, .char), (mx_cA G .long, .long), (mx_cA G (.array .int), .array .int)]
/-- the tables' words that a callee may have -/
def mx_gW : List Cond := lw_tbl.filter goodWord
theorem mx_in {w : Cond} (h : (goodWord w && decide (w ∈ lw_tbl)) = true) : w ∈ mx_gW := by
  simp only [Bool.and_eq_true, decide_eq_true_eq] at h
  exact List.mem_filter.mpr ⟨h.2, h.1⟩
def mx_nest : List Cond := [
  .fieldLinkNest RX2 50 RX4 "lineUp" "[I" RX7, .fieldLinkNest RX7 264 RX4 "lineUp" "[I" RX7, .fieldLinkNest RX2 59 RX4 "freeOne" "I" RX7, .fieldLinkNest RX7 106 RX4 "freeOne" "I" RX7,
  .fieldLinkNest RX7 147 RX4 "told" "Z" RX7, .fieldLinkNest RX7 347 RX2 "order" "[I" RX7, .fieldLinkNest RX7 226 RX2 "servePoints" "[I" RX7, .fieldLinkNest RX7 185 RX2 "freeOne" "I" RX7,
  .fieldLinkNest RX7 182 RX2 "freeMoved" "Z" RX7, .fieldLinkNest RX7 202 RX2 "points" "I" RX7, .fieldLinkNest RX7 208 RX2 "setsWon" "I" RX7, .fieldLinkNest RX7 169 RX2 "changesDone" "I" RX7,
  .fieldLinkNest RX7 193 RX2 "pausesDone" "I" RX7, .fieldLinkNest RX7 214 RX2 "turnsDone" "I" RX7, .fieldLinkNest RX7 109 RX1 "number" "I" RX7, .fieldLinkNest RX7 102 RX1 "on" "Z" RX7,
  .fieldLinkNest RX7 199 RX1 "serving" "I" RX7, .fieldLinkNest RX7 196 RX1 "streak" "I" RX7, .fieldLinkNest RX7 217 RX1 "rallies" "I" RX7, .fieldLinkNest RX7 223 RX1 "setWinner" "I" RX7,
  .fieldLinkNest RX7 124 RX1 "matchWinner" "I" RX7, .fieldLinkNest RX7 220 RX6 "length" "I" RX7, .fieldLinkNest RX0 41 RX7 "BEHIND" "[I" RX7, .fieldLinkNest RX0 48 RX7 "FRONT" "[I" RX7,
  .methodLinkNest RX2 55 yX7_isPlayer RX7]
/-- the static rows: cell number, class, name, contents -/
def mx_stL : List (Nat × String × String × List Int32) := [(62, RX7, "FRONT", [1, 2, 3]), (63, RX7, "BEHIND", [0, 4, 5]), (64, RX3, "LEAST", [5, 5, 5, 1, 0, 0]), (65, RX3, "MOST", [25, 30, 25, 3, 12, 4]),
  (66, RX5, "X_AT_FIRST", [800, 800, 500, 200, 200, 500]), (67, RX5, "Y_AT_FIRST", [800, 200, 200, 200, 800, 800]), (68, RX5, "LOWER", [1, 2, 3, 3, 2, 4, 5]), (69, RX5, "HIGHER", [0, 5, 4, 2, 1, 5, 0]),
  (70, RX8, "LOW", [5, 5, 5, 1, 0, 0]), (71, RX8, "HIGH", [25, 30, 25, 3, 12, 4]), (72, RX8, "AHEAD", [1, 2, 3, 3, 2, 4, 5]), (73, RX8, "BEHIND", [0, 5, 4, 2, 1, 5, 0])]
def mx_stV (l : List Int32) : Nat → Value := fun j => .int (l.getD j 0)
/-- what every state of the run knows: tables, addresses, static rows, the script -/
def mx_SC (G : mx_G) (U : State) (H : Heap) : Prop :=
  va_K (mx_D G) mx_cl (mx_tys G) U ∧ (∀ w ∈ mx_nest, va_Nw w U) ∧ (∀ i j : Nat, i < mx_n G → j < mx_n G → mx_ad G i = mx_ad G j → i = j) ∧ (∀ i : Nat, i < mx_n G → mx_base G ≤ mx_ad G i) ∧ (61 ≤ mx_n G ∧ mx_base G ≤ H.size) ∧
  (∀ q ∈ mx_stL, va_Z q.2.1 q.2.2.1 "[I" (.ref (mx_ad G q.1)) (mx_A G) U H ∧ va_T .int (mx_ad G q.1) q.2.2.2.length (mx_stV q.2.2.2) (mx_A G) U H) ∧ (va_X (mx_ad G 74) (mx_sN G) (mx_sX G) U H ∧ mx_ad G 74 < H.size ∧ ¬ mx_A G (mx_ad G 74))
abbrev mx_X : Type := Program × Launch × Env × Room × State × MethodId × Array Value × List Frame × Method × Code × (State → Prop) × Nat × Nat
/-- the locals: known ones by their values, .null where nothing is known -/
def mx_lh (G : mx_G) (ls : Array Slot) (L : List Value) : Prop := ls.size = L.length ∧ lv_wf ls ∧ ∀ (i : Nat) (v : Value), L[i]? = some v → v ≠ .null → ls[i]? = some (.val (mx_c (mx_ad G) v))
/-- THE JUDGEMENT: at pc, with locals L, stack S and memory M, the machine comes to X's end -/
def mx_WW (G : mx_G) (X : mx_X) (pc : Nat) (L S : List Value) (M : mx_Mem) : Prop := match X with
  | (p, l, e, R, s, m, args, below, meth, c, Q, cells, slots) => ∀ (H : Heap) (locs : List Loc) (ls : Array Slot), va_P (mx_D G) mx_cl (mx_ws G M) H → va_S (mx_A G) s.heap H locs → mx_lh G ls L →
    W p l e R s m args below meth c H locs cells slots Q (F0 m pc ls (S.map (mx_c (mx_ad G))))
/-- what holds of a method's frame -/
def mx_OK (G : mx_G) (X : mx_X) (own : String) (cc : ByteArray) (nL : Nat) : Prop := match X with
  | (p, _, _, _, s, m, args, _, _, c, _, _, _) => p.tables.exec = Jvm.exec ∧ c.code = cc ∧ c.maxLocals = nL ∧ s.vm.findClass own = some m.cls ∧ (∀ w ∈ mx_gW, w.before args s = true) ∧ mx_SC G s s.heap
theorem mR_ne (M : mx_Mem) {k k' : Nat} (f : Nat → Int32) (h : k' ≠ k) : (mR M k f).1 k' = M.1 k' := if_neg h
theorem mR_self (M : mx_Mem) (k : Nat) (f : Nat → Int32) : (mR M k f).1 k = f := if_pos rfl
theorem mS_ne (M : mx_Mem) {k k' : Nat} (f : Nat → Int64) (h : k' ≠ k) : (mS M k f).2 k' = M.2 k' := if_neg h
theorem mS_self (M : mx_Mem) (k : Nat) (f : Nat → Int64) : (mS M k f).2 k = f := if_pos rfl
theorem mx_pay_eq (G : mx_G) {M M' : mx_Mem} {k : Nat} (ty : FieldType) (h1 : M.1 k = M'.1 k) (h2 : M.2 k = M'.2 k) : mx_pay G M k ty = mx_pay G M' k ty := by
  unfold mx_pay
  rw [h1, h2]
theorem mx_cell_eq (G : mx_G) {M M' : mx_Mem} {k : Nat} (h1 : M.1 k = M'.1 k) (h2 : M.2 k = M'.2 k) : mx_cell G M k = mx_cell G M' k := by
  unfold mx_cell mx_e
  rcases mx_sh k with ⟨ty, n⟩ | ⟨ci, fs⟩
  · show (_, Sum.inl (_, _, mx_pay G M k ty)) = _
    rw [mx_pay_eq G ty h1 h2]
  · show (_, Sum.inr (_, mx_fs _ (M.1 k) 0 fs)) = _
    rw [h1]
theorem mx_ws_at (G : mx_G) (M : mx_Mem) {k : Nat} (h : k < mx_n G) : (mx_ws G M)[k]? = some (mx_cell G M k) := by
  unfold mx_ws
  rw [List.getElem?_map, List.getElem?_range h]
  rfl
theorem mx_ws_set (G : mx_G) (M M' : mx_Mem) {k : Nat} (h : k < mx_n G) (h1 : ∀ a, a ≠ k → M'.1 a = M.1 a) (h2 : ∀ a, a ≠ k → M'.2 a = M.2 a) : (mx_ws G M).set k (mx_cell G M' k) = mx_ws G M' := by
  apply List.ext_getElem?
  intro i
  by_cases hi : i = k
  · subst hi
    rw [List.getElem?_set_self (by simp [mx_ws]; exact h), mx_ws_at G M' h]
  · rw [List.getElem?_set_ne (Ne.symm hi)]
    by_cases hl : i < mx_n G
    · rw [mx_ws_at G M hl, mx_ws_at G M' hl, mx_cell_eq G (h1 i hi) (h2 i hi)]
    · rw [List.getElem?_eq_none (by simp [mx_ws]; omega), List.getElem?_eq_none (by simp [mx_ws]; omega)]
theorem mx_ws_len (G : mx_G) (M : mx_Mem) : (mx_ws G M).length = mx_n G := by simp [mx_ws]
theorem mx_ws_get {G : mx_G} {M : mx_Mem} {k : Nat} {q : Nat × va_E} (h : (mx_ws G M)[k]? = some q) : k < mx_n G ∧ q = mx_cell G M k := by
  have hk : k < mx_n G := by
    have := (List.getElem?_eq_some_iff.mp h).1
    rw [mx_ws_len] at this
    exact this
  rw [mx_ws_at G M hk] at h
  exact ⟨hk, (Option.some.inj h).symm⟩
theorem mx_D_of {G : mx_G} {U : State} {H : Heap} (h : mx_SC G U H) (M : mx_Mem) : va_D (mx_A G) (mx_ws G M) := by
  obtain ⟨-, -, h1, h2, -⟩ := h
  refine ⟨fun i j p q hi hj hpq => ?_, fun k q hk => ?_⟩
  · obtain ⟨a1, rfl⟩ := mx_ws_get hi
    obtain ⟨a2, rfl⟩ := mx_ws_get hj
    exact h1 i j a1 a2 hpq
  · obtain ⟨a1, rfl⟩ := mx_ws_get hk
    exact h2 k a1
theorem mx_nth {G : mx_G} {ls : Array Slot} {L : List Value} (h : mx_lh G ls L) {i : Nat} {v : Value} (hi : L[i]? = some v) (hv : v ≠ .null) : ls[i]? = some (.val (mx_c (mx_ad G) v)) := h.2.2 i v hi hv
theorem mx_cat (ad : Nat → Nat) (v : Value) : (mx_c ad v).category = v.category := by cases v <;> rfl

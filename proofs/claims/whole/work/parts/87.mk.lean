/-! THE BUILDING MACHINE: from the base on the heap is a list of cells; refs are places in that list -/
abbrev mk_E : Type := (FieldType × Nat × ((Nat → Int32) ⊕ (Nat → Nat))) ⊕ (Nat × List Value)
def mk_r (cA : FieldType → ClassId) (b : Nat) (e : mk_E) : va_E := match e with
  | .inl (ty, n, .inl f) => .inl (cA ty, n, if ty = .long then .inr (.inl (fun _ => 0)) else .inl f)
  | .inl (ty, n, .inr g) => .inl (cA ty, n, .inr (.inr (.inr (.inr (fun j => some (b + g j))))))
  | .inr (ci, fs) => .inr (ci, fs.map (mx_c (fun k => b + k)))
def mk_at (cA : FieldType → ClassId) (b : Nat) (ws : List mk_E) : va_W := ws.mapIdx fun i e => (b + i, mk_r cA b e)
theorem mk_get {cA : FieldType → ClassId} {b k : Nat} {ws : List mk_E} {e : mk_E} (h : ws[k]? = some e) : (mk_at cA b ws)[k]? = some (b + k, mk_r cA b e) := by
  rw [mk_at, List.getElem?_mapIdx, h]
  rfl
theorem mk_got {cA : FieldType → ClassId} {b k : Nat} {ws : List mk_E} {q : Nat × va_E} (h : (mk_at cA b ws)[k]? = some q) : ∃ e, ws[k]? = some e ∧ q = (b + k, mk_r cA b e) := by
  rw [mk_at, List.getElem?_mapIdx] at h
  obtain ⟨e, h1, h2⟩ := Option.map_eq_some_iff.mp h
  exact ⟨e, h1, h2.symm⟩
theorem mk_set {cA : FieldType → ClassId} {b k : Nat} {ws : List mk_E} (e : mk_E) : (mk_at cA b ws).set k (b + k, mk_r cA b e) = mk_at cA b (ws.set k e) := by
  apply List.ext_getElem?
  intro i
  by_cases hi : i = k
  · subst hi
    by_cases hl : i < ws.length
    · rw [List.getElem?_set_self (by rw [mk_at, List.length_mapIdx]; exact hl), mk_get (List.getElem?_set_self hl)]
    · rw [List.getElem?_eq_none (by rw [List.length_set, mk_at, List.length_mapIdx]; omega), List.getElem?_eq_none (by rw [mk_at, List.length_mapIdx, List.length_set]; omega)]
  · rw [List.getElem?_set_ne (Ne.symm hi), mk_at, mk_at, List.getElem?_mapIdx, List.getElem?_mapIdx, List.getElem?_set_ne (Ne.symm hi)]
theorem mk_D {cA : FieldType → ClassId} {b : Nat} {A : Nat → Prop} {ws : List mk_E} (hA : ∀ q, b ≤ q → A q) : va_D A (mk_at cA b ws) := by
  refine ⟨fun i j p q hi hj hpq => ?_, fun k q hk => ?_⟩
  · obtain ⟨e1, -, rfl⟩ := mk_got hi
    obtain ⟨e2, -, rfl⟩ := mk_got hj
    have h9 : b + i = b + j := hpq
    omega
  · obtain ⟨e1, -, rfl⟩ := mk_got hk
    exact hA _ (Nat.le_add_right b k)
/-- the class of arrays of int arrays is there -/
def mk_AO (U : State) : Prop := (Cond.arrayOver (.array .int)).before #[] U = true
abbrev mk_X : Type := Program × Launch × Env × Room × State × MethodId × Array Value × List Frame × Method × Code × (State → Prop)
def mk_WW (G : mx_G) (X : mk_X) (cells slots pc : Nat) (L S : List Value) (ws : List mk_E) : Prop := match X with
  | (p, l, e, R, s, m, args, below, meth, c, Q) => ∀ (H : Heap) (locs : List Loc) (ls : Array Slot), mx_base G + ws.length = s.heap.size + cells → va_P (mx_D G) mx_cl (mk_at (mx_cA G) (mx_base G) ws) H → va_S (mx_A G) s.heap H locs → mx_lh G ls L →
    W p l e R s m args below meth c H locs cells slots Q (F0 m pc ls (S.map (mx_c (mx_ad G))))
def mk_OK (G : mx_G) (X : mk_X) (own : String) (cc : ByteArray) (nL : Nat) : Prop := match X with
  | (p, _, _, _, s, m, args, _, _, c, _) => p.tables.exec = Jvm.exec ∧ c.code = cc ∧ c.maxLocals = nL ∧ s.vm.findClass own = some m.cls ∧ (∀ w ∈ mx_gW, w.before args s = true) ∧ va_K (mx_D G) mx_cl (mx_tys G) s ∧ (mx_ad G = fun k => mx_base G + k) ∧ mx_base G ≤ s.heap.size ∧ mk_AO s
def mk_RM (X : mk_X) (fr lo nc ns : Nat) : Prop := match X with
  | (_, _, _, R, _, _, _, _, _, _, _) => R.frames = fr ∧ R.locals = lo ∧ R.cells = nc ∧ R.slots = ns
def mk_IN (X : mk_X) : Prop := match X with
  | (_, _, _, _, _, _, _, _, meth, _, _) => meth.name = "<init>"
theorem mk_size {cA : FieldType → ClassId} {D : va_G} {p : Program} {l : Launch} {e : Env} {R : Room} {s : State} {m : MethodId} {args : Array Value} {below : List Frame} {meth : Method} {c : Code} {T : State} {locs : List Loc} {cells slots b : Nat} {ws : List mk_E} {H : Heap}
    (X : Stand p l e R s m args below meth c T locs cells slots) (hT : T.heap = H) (hz : b + ws.length = s.heap.size + cells) (hP : va_P D mx_cl (mk_at cA b ws) H) (hb : b ≤ s.heap.size) : H.size = b + ws.length := by
  have h1 : T.heap.size ≤ s.heap.size + cells := X.same.2.2.1
  have h2 : s.heap.size ≤ T.heap.size := X.same.2.1
  rw [hT] at h1 h2
  rcases Nat.eq_zero_or_pos ws.length with h0 | h0
  · omega
  · obtain ⟨e9, h9⟩ : ∃ e9, ws[ws.length - 1]? = some e9 := ⟨_, List.getElem?_eq_getElem (by omega)⟩
    have h3 : b + (ws.length - 1) < H.size := (hP _ _ (mk_get h9)).lt
    omega
section MKA
variable {G : mx_G} {X : mk_X} {own : String} {cc : ByteArray} {nL pc cells slots : Nat} {L S : List Value} {ws : List mk_E}
theorem k_iconst (q : Nat) (hX : mk_OK G X own cc nL) {n : Int} {v : Int32} (hd : decode cc pc = .ok (.iconst n, 1)) (hv : Int32.ofInt n = v) (kk : mk_WW G X cells slots q L (.int v :: S) ws) (hq : pc + 1 = q := by rfl) : mk_WW G X cells slots pc L (S) ws := by
  obtain ⟨p, l, e, R, s, m, args, below, meth, c, Q⟩ := X
  obtain ⟨hx, hb, hml, hown, hts, hK, had, hba, hAO⟩ := hX
  subst hq
  intro H locs ls hz hP hS hl
  exact lv_iconst hx hb hd hv (kk H locs ls hz hP hS hl)
theorem k_bipush (q : Nat) (hX : mk_OK G X own cc nL) {n : Int} {v : Int32} (hd : decode cc pc = .ok (.bipush n, 2)) (hv : (Int8.ofInt n).toInt32 = v) (kk : mk_WW G X cells slots q L (.int v :: S) ws) (hq : pc + 2 = q := by rfl) : mk_WW G X cells slots pc L (S) ws := by
  obtain ⟨p, l, e, R, s, m, args, below, meth, c, Q⟩ := X
  obtain ⟨hx, hb, hml, hown, hts, hK, had, hba, hAO⟩ := hX
  subst hq
  intro H locs ls hz hP hS hl
  exact lv_bipush hx hb hd hv (kk H locs ls hz hP hS hl)
theorem k_sipush (q : Nat) (hX : mk_OK G X own cc nL) {n : Int} {v : Int32} (hd : decode cc pc = .ok (.sipush n, 3)) (hv : (Int16.ofInt n).toInt32 = v) (kk : mk_WW G X cells slots q L (.int v :: S) ws) (hq : pc + 3 = q := by rfl) : mk_WW G X cells slots pc L (S) ws := by
  obtain ⟨p, l, e, R, s, m, args, below, meth, c, Q⟩ := X
  obtain ⟨hx, hb, hml, hown, hts, hK, had, hba, hAO⟩ := hX
  subst hq
  intro H locs ls hz hP hS hl
  exact lv_sipush hx hb hd hv (kk H locs ls hz hP hS hl)
theorem k_iload_n (q : Nat) (hX : mk_OK G X own cc nL) {k : Fin 4} {x : Int32} (hd : decode cc pc = .ok (.iload_n k, 1)) (hv : L[(k : Nat)]? = some (.int x)) (kk : mk_WW G X cells slots q L (.int x :: S) ws) (hq : pc + 1 = q := by rfl) : mk_WW G X cells slots pc L (S) ws := by
  obtain ⟨p, l, e, R, s, m, args, below, meth, c, Q⟩ := X
  obtain ⟨hx, hb, hml, hown, hts, hK, had, hba, hAO⟩ := hX
  subst hq
  intro H locs ls hz hP hS hl
  exact lv_iload_n hx hb hd rfl (mx_nth hl hv (fun h => by cases h)) (kk H locs ls hz hP hS hl)
theorem k_aload_n (q : Nat) (hX : mk_OK G X own cc nL) {k : Fin 4} {x : Nat} (hd : decode cc pc = .ok (.aload_n k, 1)) (hv : L[(k : Nat)]? = some (.ref x)) (kk : mk_WW G X cells slots q L (.ref x :: S) ws) (hq : pc + 1 = q := by rfl) : mk_WW G X cells slots pc L (S) ws := by
  obtain ⟨p, l, e, R, s, m, args, below, meth, c, Q⟩ := X
  obtain ⟨hx, hb, hml, hown, hts, hK, had, hba, hAO⟩ := hX
  subst hq
  intro H locs ls hz hP hS hl
  exact lv_aload_n hx hb hd rfl (mx_nth hl hv (fun h => by cases h)) (kk H locs ls hz hP hS hl)
theorem k_istore_n (q : Nat) (hX : mk_OK G X own cc nL) {k : Fin 4} {x : Int32} (hd : decode cc pc = .ok (.istore_n k, 1)) (hi : mx_st1 L (k : Nat) = true) (kk : mk_WW G X cells slots q (L.set (k : Nat) (.int x)) S ws) (hq : pc + 1 = q := by rfl) : mk_WW G X cells slots pc L (.int x :: S) ws := by
  obtain ⟨p, l, e, R, s, m, args, below, meth, c, Q⟩ := X
  obtain ⟨hx, hb, hml, hown, hts, hK, had, hba, hAO⟩ := hX
  subst hq
  intro H locs ls hz hP hS hl
  obtain ⟨ls', e', h'⟩ := mx_store1 (v := .int x) hl hi rfl
  intro T hT X9
  obtain ⟨t, a, b⟩ := kk H locs ls' hz hP hS h' T hT X9
  refine ⟨t, ?_, b⟩
  try simp only [mx_c] at e'
  jvm_step X9.here [X9.here.top, ↓top_set X9.here.top, hx, hb, hd, mx_c, List.map_cons, Value.isRef, e']
  exact a
theorem k_istore (q : Nat) (hX : mk_OK G X own cc nL) {k : Nat} {x : Int32} (hd : decode cc pc = .ok (.istore k, 2)) (hi : mx_st1 L k = true) (kk : mk_WW G X cells slots q (L.set k (.int x)) S ws) (hq : pc + 2 = q := by rfl) : mk_WW G X cells slots pc L (.int x :: S) ws := by
  obtain ⟨p, l, e, R, s, m, args, below, meth, c, Q⟩ := X
  obtain ⟨hx, hb, hml, hown, hts, hK, had, hba, hAO⟩ := hX
  subst hq
  intro H locs ls hz hP hS hl
  obtain ⟨ls', e', h'⟩ := mx_store1 (v := .int x) hl hi rfl
  intro T hT X9
  obtain ⟨t, a, b⟩ := kk H locs ls' hz hP hS h' T hT X9
  refine ⟨t, ?_, b⟩
  try simp only [mx_c] at e'
  jvm_step X9.here [X9.here.top, ↓top_set X9.here.top, hx, hb, hd, mx_c, List.map_cons, Value.isRef, e']
  exact a
theorem k_astore_n (q : Nat) (hX : mk_OK G X own cc nL) {k : Fin 4} {x : Nat} (hd : decode cc pc = .ok (.astore_n k, 1)) (hi : mx_st1 L (k : Nat) = true) (kk : mk_WW G X cells slots q (L.set (k : Nat) (.ref x)) S ws) (hq : pc + 1 = q := by rfl) : mk_WW G X cells slots pc L (.ref x :: S) ws := by
  obtain ⟨p, l, e, R, s, m, args, below, meth, c, Q⟩ := X
  obtain ⟨hx, hb, hml, hown, hts, hK, had, hba, hAO⟩ := hX
  subst hq
  intro H locs ls hz hP hS hl
  obtain ⟨ls', e', h'⟩ := mx_store1 (v := .ref x) hl hi rfl
  intro T hT X9
  obtain ⟨t, a, b⟩ := kk H locs ls' hz hP hS h' T hT X9
  refine ⟨t, ?_, b⟩
  try simp only [mx_c] at e'
  jvm_step X9.here [X9.here.top, ↓top_set X9.here.top, hx, hb, hd, mx_c, List.map_cons, Value.isRef, e']
  exact a
theorem k_iinc (q : Nat) (hX : mk_OK G X own cc nL) {k : Nat} {n : Int} {x : Int32} {v : Int32} (hd : decode cc pc = .ok (.iinc k n, 3)) (hv : L[k]? = some (.int x)) (hn : Int32.ofInt n = v) (hi : mx_st1 L k = true) (kk : mk_WW G X cells slots q (L.set k (.int (x + v))) S ws) (hq : pc + 3 = q := by rfl) : mk_WW G X cells slots pc L S ws := by
  obtain ⟨p, l, e, R, s, m, args, below, meth, c, Q⟩ := X
  obtain ⟨hx, hb, hml, hown, hts, hK, had, hba, hAO⟩ := hX
  subst hq
  intro H locs ls hz hP hS hl
  subst hn
  obtain ⟨ls', e', h'⟩ := mx_store1 (v := .int (x + Int32.ofInt n)) hl hi rfl
  have hg : ls[k]? = some (.val (.int x)) := mx_nth hl hv (fun h => by cases h)
  intro T hT X9
  obtain ⟨t, a, b⟩ := kk H locs ls' hz hP hS h' T hT X9
  refine ⟨t, ?_, b⟩
  try simp only [mx_c] at e'
  jvm_step X9.here [X9.here.top, ↓top_set X9.here.top, hx, hb, hd, hg, e']
  exact a
theorem k_dup (q : Nat) (hX : mk_OK G X own cc nL) {a : Value} (hd : decode cc pc = .ok (.dup, 1)) (ha : a.category = 1) (kk : mk_WW G X cells slots q L (a :: a :: S) ws) (hq : pc + 1 = q := by rfl) : mk_WW G X cells slots pc L (a :: S) ws := by
  obtain ⟨p, l, e, R, s, m, args, below, meth, c, Q⟩ := X
  obtain ⟨hx, hb, hml, hown, hts, hK, had, hba, hAO⟩ := hX
  subst hq
  intro H locs ls hz hP hS hl
  exact lv_dup hx hb hd (by rw [mx_cat]; exact ha) (kk H locs ls hz hP hS hl)
theorem k_icmp_ge (q t : Nat) (hX : mk_OK G X own cc nL) {x y : Int32} {off : Int} (hd : decode cc pc = .ok (.if_icmp .ge off, 3)) (kt : y ≤ x → mk_WW G X cells slots t L S ws) (kf : ¬ y ≤ x → mk_WW G X cells slots q L S ws) (ht : (pc : Int) + off = (t : Int) := by decide) (hq : pc + 3 = q := by rfl) : mk_WW G X cells slots pc L (.int y :: .int x :: S) ws := by
  obtain ⟨p, l, e, R, s, m, args, below, meth, c, Q⟩ := X
  obtain ⟨hx, hb, hml, hown, hts, hK, had, hba, hAO⟩ := hX
  subst hq
  intro H locs ls hz hP hS hl
  exact lv_icmp_ge hx hb hd ht (fun h => kt h H locs ls hz hP hS hl) (fun h => kf h H locs ls hz hP hS hl)
theorem k_goto (t : Nat) (hX : mk_OK G X own cc nL) {off : Int} (hd : decode cc pc = .ok (.goto off, 3)) (kk : mk_WW G X cells slots t L S ws) (ht : (pc : Int) + off = (t : Int) := by decide) : mk_WW G X cells slots pc L S ws := by
  obtain ⟨p, l, e, R, s, m, args, below, meth, c, Q⟩ := X
  obtain ⟨hx, hb, hml, hown, hts, hK, had, hba, hAO⟩ := hX
  intro H locs ls hz hP hS hl
  exact lv_goto hx hb hd ht (kk H locs ls hz hP hS hl)
theorem k_ldc (q : Nat) (hX : mk_OK G X own cc nL) {i : Nat} {v : Int32} (hd : decode cc pc = .ok (.ldc i, 2)) (hc : Cond.constant own i v ∈ mx_gW) (kk : mk_WW G X cells slots q L (.int v :: S) ws) (hq : pc + 2 = q := by rfl) : mk_WW G X cells slots pc L (S) ws := by
  obtain ⟨p, l, e, R, s, m, args, below, meth, c, Q⟩ := X
  obtain ⟨hx, hb, hml, hown, hts, hK, had, hba, hAO⟩ := hX
  subst hq
  intro H locs ls hz hP hS hl
  exact lv_ldc hx hb hown (hts _ hc) hd (kk H locs ls hz hP hS hl)
theorem k_obj (q : Nat) (hX : mk_OK G X own cc nL) {fr lo nc ns idx k : Nat} (hR : mk_RM X fr lo nc ns) (hd : decode cc pc = .ok (.invokespecial idx, 3)) (hli : Cond.methodLink own idx objectInit ∈ mx_gW ∧ Cond.instanceMethod objectInit ∈ mx_gW ∧ Cond.code objectInit ⟨#[0xb1]⟩ 1 none ∈ mx_gW) (hrs : mx_rs S = true) (hro : (Nat.ble 1 fr && Nat.ble 20 lo) = true) (hnL : L.length = nL) (kk : mk_WW G X cells slots q L S ws) (hq : pc + 3 = q := by rfl) : mk_WW G X cells slots pc L (.ref k :: S) ws := by
  obtain ⟨p, l, e, R, s, m, args, below, meth, c, Q⟩ := X
  obtain ⟨hx, hb, hml, hown, hts, hK, had, hba, hAO⟩ := hX
  obtain ⟨hR1, hR2, -, -⟩ := hR
  subst hq
  simp only [Bool.and_eq_true] at hro
  intro H locs ls hz hP hS hl
  have h20 := Nat.le_of_ble_eq_true hro.2
  have h8 : 2 * (F0 m pc ls ((Value.ref k :: S).map (mx_c (mx_ad G)))).monitorRoom + ((S.map (mx_c (mx_ad G))).map fun v => v.category).sum ≤ 8 := lv_room (mx_rsum G hrs)
  refine W.objInit (a := mx_ad G k) (rest := S.map (mx_c (mx_ad G))) hx hb hown (hts _ hli.1) (hts _ hli.2.1) (hts _ hli.2.2) rfl (by rw [hml, ← hnL]; exact hl.1) rfl hd (by rw [hR1]; exact Nat.le_of_ble_eq_true hro.1) (by rw [hR2]; omega) ?_
  exact kk H locs ls hz hP hS hl
theorem k_alen (q : Nat) (hX : mk_OK G X own cc nL) {k n t0 : Nat} {ty : FieldType} {f : (Nat → Int32) ⊕ (Nat → Nat)} (hd : decode cc pc = .ok (.arraylength, 1)) (hw : ws[k]? = some (.inl (ty, n, f))) (ht : (mx_tys G)[t0]? = some (mx_cA G ty, ty)) (kk : mk_WW G X cells slots q L (.int (nI n) :: S) ws) (hq : pc + 1 = q := by rfl) : mk_WW G X cells slots pc L (.ref k :: S) ws := by
  obtain ⟨p, l, e, R, s, m, args, below, meth, c, Q⟩ := X
  obtain ⟨base, n9, ad, D, cA, sN, sX⟩ := G
  obtain ⟨hx, hb, hml, hown, hts, hK, had, hba, hAO⟩ := hX
  have had : ad = fun k => base + k := had
  subst had
  subst hq
  intro H locs ls hz hP hS hl
  have hg := mk_get (cA := cA) (b := base) hw
  rcases f with f | f
  · exact va_alen hx hb hK hP k t0 hg ht rfl hd (kk H locs ls hz hP hS hl)
  · exact va_alen hx hb hK hP k t0 hg ht rfl hd (kk H locs ls hz hP hS hl)
theorem k_iast (q : Nat) (hX : mk_OK G X own cc nL) {k n : Nat} {f : Nat → Int32} {i x : Int32} (hd : decode cc pc = .ok (.iastore, 1)) (hw : ws[k]? = some (.inl (.int, n, .inl f))) (hi : vp_in i n) (kk : mk_WW G X cells slots q L S (ws.set k (.inl (.int, n, .inl (upd f i.toNatClampNeg x))))) (hq : pc + 1 = q := by rfl) : mk_WW G X cells slots pc L (.int x :: .int i :: .ref k :: S) ws := by
  obtain ⟨p, l, e, R, s, m, args, below, meth, c, Q⟩ := X
  obtain ⟨base, n9, ad, D, cA, sN, sX⟩ := G
  obtain ⟨hx, hb, hml, hown, hts, hK, had, hba, hAO⟩ := hX
  have had : ad = fun k => base + k := had
  subst had
  subst hq
  intro H locs ls hz hP hS hl
  refine va_iast hx hb hK hP (mk_D (fun _ h => h)) hS k 0 (mk_get hw) rfl hi hd (fun H1 locs1 g1 g2 g3 => ?_)
  have g4 := mk_set (cA := cA) (b := base) (k := k) (ws := ws) (.inl (.int, n, .inl (upd f i.toNatClampNeg x)))
  refine kk H1 locs1 ls (by rw [List.length_set]; exact hz) ?_ g3 hl
  show va_P D mx_cl (mk_at cA base _) H1
  rw [← g4]
  exact g1
theorem k_get (q : Nat) (hX : mk_OK G X own cc nL) {i ci j k N : Nat} {C : String} {T : u_T} {fs : List Value} {v : Value} (hd : decode cc pc = .ok (.getfield i, 3)) (hck : mx_ck ci C T N) (hj : j < N) (hli : Cond.fieldLink own i (T j).1 (T j).2.1 (T j).2.2.1 ∈ mx_gW) (hw : ws[k]? = some (.inr (ci, fs))) (hv : fs[j]? = some v) (kk : mk_WW G X cells slots q L (v :: S) ws) (hq : pc + 3 = q := by rfl) : mk_WW G X cells slots pc L (.ref k :: S) ws := by
  obtain ⟨p, l, e, R, s, m, args, below, meth, c, Q⟩ := X
  obtain ⟨base, n9, ad, D, cA, sN, sX⟩ := G
  obtain ⟨hx, hb, hml, hown, hts, hK, had, hba, hAO⟩ := hX
  obtain ⟨c1, c2, ⟨ty0, c3⟩, c4⟩ := hck
  have had : ad = fun k => base + k := had
  subst had
  subst hq
  intro H locs ls hz hP hS hl
  exact va_get hx hb hts c2 hown hK hP k (mk_get hw) c1 j hj (hts _ hli) (fun _ h => h) (by rw [List.getElem?_map, hv]; rfl) hd (kk H locs ls hz hP hS hl)
theorem k_put (q : Nat) (hX : mk_OK G X own cc nL) {i ci j k N : Nat} {C : String} {T : u_T} {fs : List Value} {v : Value} {ty : FieldType} (hd : decode cc pc = .ok (.putfield i, 3)) (hck : mx_ck ci C T N) (hj : j < N) (hli : Cond.fieldLink own i (T j).1 (T j).2.1 (T j).2.2.1 ∈ mx_gW) (hfin : (T j).2.2.2 = false) (hty : parseFieldDescriptor (T j).2.2.1 = some ty) (hw : ws[k]? = some (.inr (ci, fs))) (hn : ∀ ad, narrow ty (mx_c ad v) = mx_c ad v ∧ fits ty (mx_c ad v) = true) (hlen : j < fs.length)
    (kk : mk_WW G X cells slots q L S (ws.set k (.inr (ci, fs.set j v)))) (hq : pc + 3 = q := by rfl) : mk_WW G X cells slots pc L (v :: .ref k :: S) ws := by
  obtain ⟨p, l, e, R, s, m, args, below, meth, c, Q⟩ := X
  obtain ⟨base, n9, ad, D, cA, sN, sX⟩ := G
  obtain ⟨hx, hb, hml, hown, hts, hK, had, hba, hAO⟩ := hX
  obtain ⟨c1, c2, ⟨ty0, c3⟩, c4⟩ := hck
  have had : ad = fun k => base + k := had
  subst had
  subst hq
  intro H locs ls hz hP hS hl
  refine va_put hx hb hts c2 ty0 c3 c4 hown hK hP (mk_D (fun _ h => h)) hS k (mk_get hw) c1 j hj (hts _ hli) (fun _ h => h) hfin hty (hn _).1 (hn _).2 (by rw [List.length_map]; exact hlen) hd (fun H1 locs1 g1 g2 g3 => ?_)
  have g4 := mk_set (cA := cA) (b := base) (k := k) (ws := ws) (.inr (ci, fs.set j v))
  refine kk H1 locs1 ls (by rw [List.length_set]; exact hz) ?_ g3 hl
  show va_P D mx_cl (mk_at cA base _) H1
  rw [← g4]
  show va_P D mx_cl (List.set _ _ (_, Sum.inr (_, (fs.set j v).map _))) H1
  rw [List.map_set]
  exact g1
theorem k_putF (q : Nat) (hX : mk_OK G X own cc nL) (hI : mk_IN X) {i ci j k N : Nat} {C : String} {T : u_T} {fs : List Value} {v : Value} {ty : FieldType} (hd : decode cc pc = .ok (.putfield i, 3)) (hck : mx_ck ci C T N) (hj : j < N) (hli : Cond.fieldLink own i (T j).1 (T j).2.1 (T j).2.2.1 ∈ mx_gW) (hfin : (T j).2.2.2 = true) (hdecl : (T j).1 = own) (hty : parseFieldDescriptor (T j).2.2.1 = some ty) (hw : ws[k]? = some (.inr (ci, fs))) (hn : ∀ ad, narrow ty (mx_c ad v) = mx_c ad v ∧ fits ty (mx_c ad v) = true) (hlen : j < fs.length)
    (kk : mk_WW G X cells slots q L S (ws.set k (.inr (ci, fs.set j v)))) (hq : pc + 3 = q := by rfl) : mk_WW G X cells slots pc L (v :: .ref k :: S) ws := by
  obtain ⟨p, l, e, R, s, m, args, below, meth, c, Q⟩ := X
  obtain ⟨base, n9, ad, D, cA, sN, sX⟩ := G
  obtain ⟨hx, hb, hml, hown, hts, hK, had, hba, hAO⟩ := hX
  obtain ⟨c1, c2, ⟨ty0, c3⟩, c4⟩ := hck
  have had : ad = fun k => base + k := had
  subst had
  subst hq
  intro H locs ls hz hP hS hl
  refine va_putF hx hb hts c2 ty0 c3 c4 hown hK hP (mk_D (fun _ h => h)) hS k (mk_get hw) c1 j hj (hts _ hli) (fun _ h => h) hfin hI hdecl hty (hn _).1 (hn _).2 (by rw [List.length_map]; exact hlen) hd (fun H1 locs1 g1 g2 g3 => ?_)
  have g4 := mk_set (cA := cA) (b := base) (k := k) (ws := ws) (.inr (ci, fs.set j v))
  refine kk H1 locs1 ls (by rw [List.length_set]; exact hz) ?_ g3 hl
  show va_P D mx_cl (mk_at cA base _) H1
  rw [← g4]
  show va_P D mx_cl (List.set _ _ (_, Sum.inr (_, (fs.set j v).map _))) H1
  rw [List.map_set]
  exact g1
theorem mk_push {cA : FieldType → ClassId} {D : va_G} {b : Nat} {ws : List mk_E} {H H1 : Heap} {e : mk_E} (hP : va_P D mx_cl (mk_at cA b ws) H) (hsz : H.size = b + ws.length) (hold : ∀ q, q < H.size → H1[q]? = H[q]?) (hnew : va_at D mx_cl (H.size, mk_r cA b e) H1) : va_P D mx_cl (mk_at cA b (ws ++ [e])) H1 := by
  intro k q hk
  obtain ⟨e9, h1, rfl⟩ := mk_got hk
  by_cases hl : k < ws.length
  · rw [List.getElem?_append_left hl] at h1
    have h2 := hP _ _ (mk_get h1)
    exact h2.kept (hold _ h2.lt)
  · rw [List.getElem?_append_right (by omega)] at h1
    have h3 : k - ws.length < 1 := (List.getElem?_eq_some_iff.mp h1).1
    rw [show k - ws.length = 0 by omega] at h1
    cases h1
    rw [show b + k = H.size by omega]
    exact hnew
theorem mk_S {A : Nat → Prop} {H0 H H1 : Heap} {locs : List Loc} (hS : va_S A H0 H locs) (hz : H.size ≤ H1.size) (hold : ∀ q, q < H.size → H1[q]? = H[q]?) : va_S A H0 H1 locs :=
  ⟨Nat.le_trans hS.1 hz, fun q h1 h2 => (hold q (Nat.lt_of_lt_of_le h1 hS.1)).trans (hS.2.1 q h1 h2), hS.2.2⟩
theorem k_newa (q : Nat) (hX : mk_OK G X own cc nL) {fr lo nc ns n t0 : Nat} (hR : mk_RM X fr lo nc ns) {at9 : ArrayType} {ty : FieldType} {i : Int32} (hd : decode cc pc = .ok (.newarray at9, 2)) (hty : newarray.typeOf at9 = ty) (ha : Cond.arrayClass ty ∈ mx_gW) (ht : ∀ G : mx_G, (mx_tys G)[t0]? = some (mx_cA G ty, ty)) (hRA : ∀ (U : State) (cA : ClassId), va_RA U cA ty → U.vm.findClass ("[" ++ ty.toString) = some cA) (hdf : ∀ cA b, (match mk_r cA b (.inl (ty, n, .inl (fun _ => 0))) with | .inl a => vp_cell a.1 a.2 | .inr _ => vp_cell 0 (0, .inl (fun _ => 0))) = arrV (cA ty) n (fun _ => defaultValue ty)) (hn : ¬ i < 0) (hN : i.toNatClampNeg = n) (hby : (Nat.ble (n * componentBytes ty) 536870912 && Nat.ble (cells + 1) nc && Nat.ble (slots + n) ns) = true)
    (kk : mk_WW G X (cells + 1) (slots + n) q L (.ref ws.length :: S) (ws ++ [.inl (ty, n, .inl (fun _ => 0))])) (hq : pc + 2 = q := by rfl) : mk_WW G X cells slots pc L (.int i :: S) ws := by
  obtain ⟨p, l, e, R, s, m, args, below, meth, c, Q⟩ := X
  obtain ⟨base, n9, ad, D, cA, sN, sX⟩ := G
  obtain ⟨hx, hb, hml, hown, hts, hK, had, hba, hAO⟩ := hX
  obtain ⟨-, -, hR3, hR4⟩ := hR
  simp only [Bool.and_eq_true] at hby
  have had : ad = fun k => base + k := had
  subst had
  subst hq
  subst hty
  intro H locs ls hz hP hS hl T hT X9
  have hz : base + ws.length = s.heap.size + cells := hz
  have hsz : H.size = base + ws.length := mk_size X9 hT hz hP hba
  refine va_newaK (g := F0 m pc ls ((Value.int i :: S).map (mx_c (fun k => base + k)))) (rest := S.map (mx_c (fun k => base + k))) hx hb (hts _ ha) rfl hd rfl hn hN (Nat.le_of_ble_eq_true hby.1.1) (by rw [hR3]; exact Nat.le_of_ble_eq_true hby.1.2) (by rw [hR4]; exact Nat.le_of_ble_eq_true hby.2) rfl (fun H1 cB e1 z1 o1 hAr hNm => ?_) T hT X9
  have hc : cA (newarray.typeOf at9) = cB := by
    have h1 := hRA _ _ (hK.2 t0 _ (ht (base, n9, (fun k => base + k), D, cA, sN, sX))).2
    exact Option.some.inj (h1.symm.trans hNm)
  subst hc
  have hd9 := hdf cA base
  have hnew : va_at D mx_cl (H.size, mk_r cA base (.inl (newarray.typeOf at9, n, .inl (fun _ => 0)))) H1 := by
    show H1[H.size]? = some (vp_cell _ _)
    rw [e1]
    exact congrArg some hd9.symm
  have h9 := kk H1 locs ls (by rw [List.length_append]; show base + (ws.length + 1) = s.heap.size + (cells + 1); omega) (mk_push hP hsz o1 hnew) (mk_S hS (by omega) o1) hl
  have e9 : (Value.ref H.size) = mx_c (fun k => base + k) (.ref ws.length) := by rw [hsz]; rfl
  rw [e9]
  exact h9
theorem k_new (q : Nat) (hX : mk_OK G X own cc nL) {fr lo nc ns idx ci N : Nat} (hR : mk_RM X fr lo nc ns) {C : String} {T : u_T} {ty : Nat → FieldType} {fs : List Value} (hd : decode cc pc = .ok (.new idx, 3)) (hck : mx_ck ci C T N) (hty : ∀ k, k < N → parseFieldDescriptor (T k).2.2.1 = some (ty k)) (hli : Cond.classLink own idx C ∈ mx_gW ∧ Cond.instantiable C N ∈ mx_gW ∧ Cond.initialized C ∈ mx_gW) (hfs : ∀ (ad : Nat → Nat) (j : Nat), j < N → defaultValue (ty j) = vp_V (fs.map (mx_c ad)) j) (hby : (Nat.ble (cells + 1) nc && Nat.ble (slots + N) ns) = true)
    (kk : mk_WW G X (cells + 1) (slots + N) q L (.ref ws.length :: S) (ws ++ [.inr (ci, fs)])) (hq : pc + 3 = q := by rfl) : mk_WW G X cells slots pc L S ws := by
  obtain ⟨p, l, e, R, s, m, args, below, meth, c, Q⟩ := X
  obtain ⟨base, n9, ad, D, cA, sN, sX⟩ := G
  obtain ⟨hx, hb, hml, hown, hts, hK, had, hba, hAO⟩ := hX
  obtain ⟨-, -, hR3, hR4⟩ := hR
  simp only [Bool.and_eq_true] at hby
  obtain ⟨c1, c2, -, c4⟩ := hck
  have had : ad = fun k => base + k := had
  subst had
  subst hq
  intro H locs ls hz hP hS hl T0 hT X9
  have hz : base + ws.length = s.heap.size + cells := hz
  have hsz : H.size = base + ws.length := mk_size X9 hT hz hP hba
  have hKn := hK.1 ci _ c1
  refine W.newcK (g := F0 m pc ls (S.map (mx_c (fun k => base + k)))) hx hb hown (hts _ hli.1) (hts _ hli.2.1) (hts _ hli.2.2) rfl hd (by rw [hR3]; exact Nat.le_of_ble_eq_true hby.1) (by rw [hR4]; exact Nat.le_of_ble_eq_true hby.2) hKn.2.1 rfl (fun H1 kC hkC e1 z1 o1 => ?_) T0 hT X9
  have hnew : va_at D mx_cl (H.size, mk_r cA base (.inr (ci, fs))) H1 := ⟨_, c1, (u_born ty hts c2 hKn hkC e1 hty).to (hfs _)⟩
  have h9 := kk H1 locs ls (by rw [List.length_append]; show base + (ws.length + 1) = s.heap.size + (cells + 1); omega) (mk_push hP hsz o1 hnew) (mk_S hS (by omega) o1) hl
  have e9 : (Value.ref H.size) = mx_c (fun k => base + k) (.ref ws.length) := by rw [hsz]; rfl
  show W p l e R s m args below meth c H1 locs (cells + 1) (slots + N) Q (F0 m (pc + 3) ls (.ref H.size :: S.map (mx_c (fun k => base + k))))
  rw [e9]
  exact h9
end MKA

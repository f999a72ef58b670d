def mx_ck (ci : Nat) (C : String) (T : u_T) (N : Nat) : Prop := mx_cl[ci]? = some (C, T, N) ∧ (∀ w ∈ u_ws C T N, w ∈ mx_gW) ∧ (∃ ty0 : Nat → FieldType, ∀ k, k < N → parseFieldDescriptor (T k).2.2.1 = some (ty0 k)) ∧ ∀ a, a < N → ∀ b, b < N → a ≠ b → (T a).2.1 ≠ (T b).2.1
theorem mx_sub {ws : List Cond} (h : ws.all (fun w => goodWord w && decide (w ∈ lw_tbl)) = true) : ∀ w ∈ ws, w ∈ mx_gW := fun w hw => mx_in (List.all_eq_true.mp h w hw)
theorem mx_ck0 : mx_ck 0 RX0 TX0 5 := ⟨rfl, mx_sub (by decide +kernel), ⟨tyX0, tyX0_ok⟩, nmX0⟩
theorem mx_ck1 : mx_ck 1 RX1 TX1 7 := ⟨rfl, mx_sub (by decide +kernel), ⟨tyX1, tyX1_ok⟩, nmX1⟩
theorem mx_ck2 : mx_ck 2 RX2 TX2 12 := ⟨rfl, mx_sub (by decide +kernel), ⟨tyX2, tyX2_ok⟩, nmX2⟩
theorem mx_ck3 : mx_ck 3 RX3 TX3 1 := ⟨rfl, mx_sub (by decide +kernel), ⟨tyX3, tyX3_ok⟩, nmX3⟩
theorem mx_ck4 : mx_ck 4 RX4 TX4 4 := ⟨rfl, mx_sub (by decide +kernel), ⟨tyX4, tyX4_ok⟩, nmX4⟩
theorem mx_ck5 : mx_ck 5 RX5 TX5 2 := ⟨rfl, mx_sub (by decide +kernel), ⟨tyX5, tyX5_ok⟩, nmX5⟩
theorem mx_ck6 : mx_ck 6 RX6 TX6 2 := ⟨rfl, mx_sub (by decide +kernel), ⟨tyX6, tyX6_ok⟩, nmX6⟩
theorem mx_ck7 : mx_ck 7 RX7 TX7 15 := ⟨rfl, mx_sub (by decide +kernel), ⟨tyX7, tyX7_ok⟩, nmX7⟩
theorem mx_ck8 : mx_ck 8 RX8 TX8 18 := ⟨rfl, mx_sub (by decide +kernel), ⟨tyX8, tyX8_ok⟩, nmX8⟩
/-- entry idx of class own's pool is field j of class ci -/
def mx_fl (own : String) (idx ci j : Nat) : Prop := ∃ (C : String) (T : u_T) (N : Nat), mx_ck ci C T N ∧ j < N ∧ (Cond.fieldLink own idx (T j).1 (T j).2.1 (T j).2.2.1 ∈ mx_gW ∨ Cond.fieldLinkNest own idx (T j).1 (T j).2.1 (T j).2.2.1 RX7 ∈ mx_nest)
/-- field j of class ci may be written, its type is ty -/
def mx_fp (ci j : Nat) (ty : FieldType) : Prop := ∀ (C : String) (T : u_T) (N : Nat), mx_cl[ci]? = some (C, T, N) → (T j).2.2.2 = false ∧ parseFieldDescriptor (T j).2.2.1 = some ty
theorem mx_fs_i {ad : Nat → Nat} {f : Nat → Int32} : ∀ (fs : List (Option Nat)) (i j : Nat), fs[j]? = some none → (mx_fs ad f i fs)[j]? = some (.int (f (i + j)))
  | [], i, j, h => by simp at h
  | none :: r, i, 0, h => rfl
  | some a :: r, i, 0, h => by simp at h
  | none :: r, i, j + 1, h => by
    have := mx_fs_i (ad := ad) (f := f) r (i + 1) j (by simpa using h)
    rw [show i + (j + 1) = i + 1 + j by omega]
    simpa [mx_fs] using this
  | some a :: r, i, j + 1, h => by
    have := mx_fs_i (ad := ad) (f := f) r (i + 1) j (by simpa using h)
    rw [show i + (j + 1) = i + 1 + j by omega]
    simpa [mx_fs] using this
theorem mx_fs_r {ad : Nat → Nat} {f : Nat → Int32} {k : Nat} : ∀ (fs : List (Option Nat)) (i j : Nat), fs[j]? = some (some k) → (mx_fs ad f i fs)[j]? = some (.ref (ad k))
  | [], i, j, h => by simp at h
  | none :: r, i, 0, h => by simp at h
  | some a :: r, i, 0, h => by
    simp at h
    subst h
    rfl
  | none :: r, i, j + 1, h => by
    have := mx_fs_r (ad := ad) (f := f) (k := k) r (i + 1) j (by simpa using h)
    simpa [mx_fs] using this
  | some a :: r, i, j + 1, h => by
    have := mx_fs_r (ad := ad) (f := f) (k := k) r (i + 1) j (by simpa using h)
    simpa [mx_fs] using this
theorem mx_fs_same {ad : Nat → Nat} {f g : Nat → Int32} : ∀ (fs : List (Option Nat)) (i : Nat), (∀ a, i ≤ a → f a = g a) → mx_fs ad f i fs = mx_fs ad g i fs
  | [], i, h => rfl
  | none :: r, i, h => by
    simp only [mx_fs]
    rw [h i (Nat.le_refl i), mx_fs_same r (i + 1) (fun a ha => h a (by omega))]
  | some a :: r, i, h => by
    simp only [mx_fs]
    rw [mx_fs_same r (i + 1) (fun a ha => h a (by omega))]
theorem mx_fs_set {ad : Nat → Nat} {f : Nat → Int32} {v : Int32} : ∀ (fs : List (Option Nat)) (i j : Nat), fs[j]? = some none → (mx_fs ad f i fs).set j (.int v) = mx_fs ad (upd f (i + j) v) i fs
  | [], i, j, h => by simp at h
  | none :: r, i, 0, h => by
    simp only [mx_fs, List.set_cons_zero, Nat.add_zero]
    rw [mx_fs_same r (i + 1) (f := f) (g := upd f i v) (fun a ha => by simp [upd]; omega)]
    simp [upd]
  | some a :: r, i, 0, h => by simp at h
  | none :: r, i, j + 1, h => by
    have := mx_fs_set (ad := ad) (f := f) (v := v) r (i + 1) j (by simpa using h)
    simp only [mx_fs, List.set_cons_succ]
    rw [this, show i + 1 + j = i + (j + 1) by omega]
    simp [upd, show ¬ i = i + (j + 1) by omega]
  | some a :: r, i, j + 1, h => by
    have := mx_fs_set (ad := ad) (f := f) (v := v) r (i + 1) j (by simpa using h)
    simp only [mx_fs, List.set_cons_succ]
    rw [this, show i + 1 + j = i + (j + 1) by omega]
theorem mx_fs_len {ad : Nat → Nat} {f : Nat → Int32} : ∀ (fs : List (Option Nat)) (i : Nat), (mx_fs ad f i fs).length = fs.length
  | [], i => rfl
  | none :: r, i => by simp [mx_fs, mx_fs_len r (i + 1)]
  | some a :: r, i => by simp [mx_fs, mx_fs_len r (i + 1)]
theorem mx_lt {G : mx_G} {U : State} {H : Heap} (h : mx_SC G U H) {k : Nat} (hk : Nat.blt k 61 = true) : k < mx_n G := by
  have h1 : k < 61 := by simpa [Nat.blt_eq] using hk
  obtain ⟨-, -, -, -, ⟨h2, -⟩, -⟩ := h
  omega
theorem mx_obj {G : mx_G} {M : mx_Mem} {k ci : Nat} {fs : List (Option Nat)} (hk : k < mx_n G) (hs : mx_sh k = .inr (ci, fs)) : (mx_ws G M)[k]? = some (mx_ad G k, .inr (ci, mx_fs (mx_ad G) (M.1 k) 0 fs)) := by
  rw [mx_ws_at G M hk, mx_cell, hs]
  rfl
theorem mx_ar {G : mx_G} {M : mx_Mem} {k n : Nat} {ty : FieldType} (hk : k < mx_n G) (hs : mx_sh k = .inl (ty, n)) : (mx_ws G M)[k]? = some (mx_ad G k, .inl (mx_cA G ty, n, mx_pay G M k ty)) := by
  rw [mx_ws_at G M hk, mx_cell, hs]
  rfl
theorem mx_setI {G : mx_G} {M : mx_Mem} {k j ci : Nat} {v : Int32} {fs : List (Option Nat)} (hk : k < mx_n G) (hs : mx_sh k = .inr (ci, fs)) (hj : fs[j]? = some none) : (mx_ws G M).set k (mx_ad G k, .inr (ci, (mx_fs (mx_ad G) (M.1 k) 0 fs).set j (.int v))) = mx_ws G (mI M k j v) := by
  rw [← mx_ws_set G M (mI M k j v) hk (fun a ha => mR_ne M _ ha) (fun a ha => rfl)]
  rw [mx_cell, hs, mx_fs_set fs 0 j hj, Nat.zero_add]
  show _ = List.set _ k (_, Sum.inr (ci, mx_fs _ ((mI M k j v).1 k) 0 fs))
  rw [mI, mR_self]
theorem mx_setA {G : mx_G} {M : mx_Mem} {k n : Nat} {ty : FieldType} {f : Nat → Int32} (hk : k < mx_n G) (hs : mx_sh k = .inl (ty, n)) (hp : mx_pay G (mR M k f) k ty = .inl ((mR M k f).1 k)) : (mx_ws G M).set k (mx_ad G k, .inl (mx_cA G ty, n, .inl f)) = mx_ws G (mR M k f) := by
  rw [← mx_ws_set G M (mR M k f) hk (fun a ha => mR_ne M _ ha) (fun a ha => rfl)]
  rw [mx_cell, hs]
  show _ = List.set _ k (_, Sum.inl (_, n, mx_pay G (mR M k f) k ty))
  rw [hp, mR_self]
theorem mx_setL {G : mx_G} {M : mx_Mem} {k n : Nat} {f : Nat → Int64} (hk : k < mx_n G) (hs : mx_sh k = .inl (.long, n)) : (mx_ws G M).set k (mx_ad G k, .inl (mx_cA G .long, n, .inr (.inl f))) = mx_ws G (mS M k f) := by
  rw [← mx_ws_set G M (mS M k f) hk (fun a ha => rfl) (fun a ha => mS_ne M _ ha)]
  rw [mx_cell, hs]
  show _ = List.set _ k (_, Sum.inl (_, n, Sum.inr (Sum.inl ((mS M k f).2 k))))
  rw [mS_self]
section MXH
variable {G : mx_G} {X : mx_X} {own : String} {cc : ByteArray} {nL pc : Nat} {L S : List Value} {M : mx_Mem}

theorem r_getI (q : Nat) (hX : mx_OK G X own cc nL) {i ci j k : Nat} {fs : List (Option Nat)} (hd : decode cc pc = .ok (.getfield i, 3)) (hf : mx_fl own i ci j) (hs : mx_sh k = .inr (ci, fs)) (hj : fs[j]? = some none) (hk : Nat.blt k 61 = true) (kk : mx_WW G X q L (.int (M.1 k j) :: S) M) (hq : pc + 3 = q := by rfl) : mx_WW G X pc L (.ref k :: S) M := by
  obtain ⟨p, l, e, R, s, m, args, below, meth, c, Q, cells, slots⟩ := X
  obtain ⟨hx, hb, hml, hown, hts, hSC⟩ := hX
  subst hq
  intro H locs ls hP hS hl
  obtain ⟨C, T, N, ⟨c1, c2, -, -⟩, h2, h3⟩ := hf
  have hg := mx_fs_i (ad := mx_ad G) (f := M.1 k) fs 0 j hj
  rw [Nat.zero_add] at hg
  rcases h3 with h3 | h3
  · exact va_get hx hb hts c2 hown hSC.1 hP k (mx_obj (mx_lt hSC hk) hs) c1 j h2 (hts _ h3) (fun _ h => h) hg hd (kk H locs ls hP hS hl)
  · exact va_getN hx hb hts c2 hown hSC.1 hP k (mx_obj (mx_lt hSC hk) hs) c1 j h2 (va_Nw.use rfl (hSC.2.1 _ h3)) (fun _ h => h) hg hd (kk H locs ls hP hS hl)
theorem r_getR (q : Nat) (hX : mx_OK G X own cc nL) {i ci j k a : Nat} {fs : List (Option Nat)} (hd : decode cc pc = .ok (.getfield i, 3)) (hf : mx_fl own i ci j) (hs : mx_sh k = .inr (ci, fs)) (hj : fs[j]? = some (some a)) (hk : Nat.blt k 61 = true) (kk : mx_WW G X q L (.ref a :: S) M) (hq : pc + 3 = q := by rfl) : mx_WW G X pc L (.ref k :: S) M := by
  obtain ⟨p, l, e, R, s, m, args, below, meth, c, Q, cells, slots⟩ := X
  obtain ⟨hx, hb, hml, hown, hts, hSC⟩ := hX
  subst hq
  intro H locs ls hP hS hl
  obtain ⟨C, T, N, ⟨c1, c2, -, -⟩, h2, h3⟩ := hf
  have hg := mx_fs_r (ad := mx_ad G) (f := M.1 k) fs 0 j hj
  rcases h3 with h3 | h3
  · exact va_get hx hb hts c2 hown hSC.1 hP k (mx_obj (mx_lt hSC hk) hs) c1 j h2 (hts _ h3) (fun _ h => h) hg hd (kk H locs ls hP hS hl)
  · exact va_getN hx hb hts c2 hown hSC.1 hP k (mx_obj (mx_lt hSC hk) hs) c1 j h2 (va_Nw.use rfl (hSC.2.1 _ h3)) (fun _ h => h) hg hd (kk H locs ls hP hS hl)
theorem r_put (q : Nat) (hX : mx_OK G X own cc nL) {i ci j k : Nat} {fs : List (Option Nat)} {v : Int32} {ty : FieldType} (hd : decode cc pc = .ok (.putfield i, 3)) (hf : mx_fl own i ci j) (hp : mx_fp ci j ty) (hs : mx_sh k = .inr (ci, fs)) (hj : fs[j]? = some none) (hk : Nat.blt k 61 = true) (hn : narrow ty (.int v) = .int v) (hfit : fits ty (.int v) = true) (kk : mx_WW G X q L S (mI M k j v)) (hq : pc + 3 = q := by rfl) : mx_WW G X pc L (.int v :: .ref k :: S) M := by
  obtain ⟨p, l, e, R, s, m, args, below, meth, c, Q, cells, slots⟩ := X
  obtain ⟨hx, hb, hml, hown, hts, hSC⟩ := hX
  subst hq
  intro H locs ls hP hS hl
  obtain ⟨C, T, N, ⟨c1, c2, ⟨ty0, c3⟩, c4⟩, h2, h3⟩ := hf
  obtain ⟨p1, p2⟩ := hp C T N c1
  have hlen : j < (mx_fs (mx_ad G) (M.1 k) 0 fs).length := by
    rw [mx_fs_len]
    exact (List.getElem?_eq_some_iff.mp hj).1
  have hD := mx_D_of hSC M
  rcases h3 with h3 | h3
  · refine va_put hx hb hts c2 ty0 c3 c4 hown hSC.1 hP hD hS k (mx_obj (mx_lt hSC hk) hs) c1 j h2 (hts _ h3) (fun _ h => h) p1 p2 hn hfit hlen hd (fun H1 locs1 g1 g2 g3 => ?_)
    rw [mx_c_int, mx_setI (mx_lt hSC hk) hs hj] at g1
    exact kk H1 locs1 ls g1 g3 hl
  · refine va_putN hx hb hts c2 ty0 c3 c4 hown hSC.1 hP hD hS k (mx_obj (mx_lt hSC hk) hs) c1 j h2 (va_Nw.use rfl (hSC.2.1 _ h3)) (fun _ h => h) p1 p2 hn hfit hlen hd (fun H1 locs1 g1 g2 g3 => ?_)
    rw [mx_c_int, mx_setI (mx_lt hSC hk) hs hj] at g1
    exact kk H1 locs1 ls g1 g3 hl
theorem r_putI (q : Nat) (hX : mx_OK G X own cc nL) {i ci j k : Nat} {fs : List (Option Nat)} {v : Int32} (hd : decode cc pc = .ok (.putfield i, 3)) (hf : mx_fl own i ci j) (hp : mx_fp ci j .int) (hs : mx_sh k = .inr (ci, fs)) (hj : fs[j]? = some none) (hk : Nat.blt k 61 = true) (kk : mx_WW G X q L S (mI M k j v)) (hq : pc + 3 = q := by rfl) : mx_WW G X pc L (.int v :: .ref k :: S) M :=
  r_put q hX hd hf hp hs hj hk rfl rfl kk hq
theorem mx_zn {v : Int32} (h : v = 0 ∨ v = 1) : narrow .boolean (.int v) = .int v ∧ fits .boolean (.int v) = true := by
  rcases h with rfl | rfl <;> exact ⟨by decide, by decide⟩
theorem r_putZ (q : Nat) (hX : mx_OK G X own cc nL) {i ci j k : Nat} {fs : List (Option Nat)} {v : Int32} (hd : decode cc pc = .ok (.putfield i, 3)) (hf : mx_fl own i ci j) (hp : mx_fp ci j .boolean) (hs : mx_sh k = .inr (ci, fs)) (hj : fs[j]? = some none) (hk : Nat.blt k 61 = true) (hv : v = 0 ∨ v = 1) (kk : mx_WW G X q L S (mI M k j v)) (hq : pc + 3 = q := by rfl) : mx_WW G X pc L (.int v :: .ref k :: S) M :=
  r_put q hX hd hf hp hs hj hk (mx_zn hv).1 (mx_zn hv).2 kk hq
theorem r_iald (q : Nat) (hX : mx_OK G X own cc nL) {k n : Nat} {i : Int32} (hd : decode cc pc = .ok (.iaload, 1)) (hs : mx_sh k = .inl (.int, n)) (hk : Nat.blt k 61 = true) (hi : vp_in i n) (kk : mx_WW G X q L (.int (M.1 k i.toNatClampNeg) :: S) M) (hq : pc + 1 = q := by rfl) : mx_WW G X pc L (.int i :: .ref k :: S) M := by
  obtain ⟨p, l, e, R, s, m, args, below, meth, c, Q, cells, slots⟩ := X
  obtain ⟨hx, hb, hml, hown, hts, hSC⟩ := hX
  subst hq
  intro H locs ls hP hS hl
  exact va_iald hx hb hSC.1 hP k 0 (mx_ar (mx_lt hSC hk) hs) rfl hi hd (kk H locs ls hP hS hl)
theorem r_zald (q : Nat) (hX : mx_OK G X own cc nL) {k n : Nat} {i : Int32} (hd : decode cc pc = .ok (.baload, 1)) (hs : mx_sh k = .inl (.boolean, n)) (hk : Nat.blt k 61 = true) (hi : vp_in i n) (kk : mx_WW G X q L (.int (M.1 k i.toNatClampNeg) :: S) M) (hq : pc + 1 = q := by rfl) : mx_WW G X pc L (.int i :: .ref k :: S) M := by
  obtain ⟨p, l, e, R, s, m, args, below, meth, c, Q, cells, slots⟩ := X
  obtain ⟨hx, hb, hml, hown, hts, hSC⟩ := hX
  subst hq
  intro H locs ls hP hS hl
  exact va_zald hx hb hSC.1 hP k 1 (mx_ar (mx_lt hSC hk) hs) rfl hi hd (kk H locs ls hP hS hl)
theorem r_bald (q : Nat) (hX : mx_OK G X own cc nL) {k n : Nat} {i : Int32} (hd : decode cc pc = .ok (.baload, 1)) (hs : mx_sh k = .inl (.byte, n)) (hk : Nat.blt k 61 = true) (hi : vp_in i n) (kk : mx_WW G X q L (.int (M.1 k i.toNatClampNeg) :: S) M) (hq : pc + 1 = q := by rfl) : mx_WW G X pc L (.int i :: .ref k :: S) M := by
  obtain ⟨p, l, e, R, s, m, args, below, meth, c, Q, cells, slots⟩ := X
  obtain ⟨hx, hb, hml, hown, hts, hSC⟩ := hX
  subst hq
  intro H locs ls hP hS hl
  exact va_bald hx hb hSC.1 hP k 2 (mx_ar (mx_lt hSC hk) hs) rfl hi hd (kk H locs ls hP hS hl)
theorem r_cald (q : Nat) (hX : mx_OK G X own cc nL) {k n : Nat} {i : Int32} (hd : decode cc pc = .ok (.caload, 1)) (hs : mx_sh k = .inl (.char, n)) (hk : Nat.blt k 61 = true) (hi : vp_in i n) (kk : mx_WW G X q L (.int (M.1 k i.toNatClampNeg) :: S) M) (hq : pc + 1 = q := by rfl) : mx_WW G X pc L (.int i :: .ref k :: S) M := by
  obtain ⟨p, l, e, R, s, m, args, below, meth, c, Q, cells, slots⟩ := X
  obtain ⟨hx, hb, hml, hown, hts, hSC⟩ := hX
  subst hq
  intro H locs ls hP hS hl
  exact va_cald hx hb hSC.1 hP k 3 (mx_ar (mx_lt hSC hk) hs) rfl hi hd (kk H locs ls hP hS hl)
theorem r_lald (q : Nat) (hX : mx_OK G X own cc nL) {k n : Nat} {i : Int32} (hd : decode cc pc = .ok (.laload, 1)) (hs : mx_sh k = .inl (.long, n)) (hk : Nat.blt k 61 = true) (hi : vp_in i n) (kk : mx_WW G X q L (.long (M.2 k i.toNatClampNeg) :: S) M) (hq : pc + 1 = q := by rfl) : mx_WW G X pc L (.int i :: .ref k :: S) M := by
  obtain ⟨p, l, e, R, s, m, args, below, meth, c, Q, cells, slots⟩ := X
  obtain ⟨hx, hb, hml, hown, hts, hSC⟩ := hX
  subst hq
  intro H locs ls hP hS hl
  exact va_lald hx hb hSC.1 hP k 4 (mx_ar (mx_lt hSC hk) hs) rfl hi hd (kk H locs ls hP hS hl)
theorem r_iast (q : Nat) (hX : mx_OK G X own cc nL) {k n : Nat} {i x : Int32} (hd : decode cc pc = .ok (.iastore, 1)) (hs : mx_sh k = .inl (.int, n)) (hk : Nat.blt k 61 = true) (hi : vp_in i n) (kk : mx_WW G X q L S (mI M k i.toNatClampNeg x)) (hq : pc + 1 = q := by rfl) : mx_WW G X pc L (.int x :: .int i :: .ref k :: S) M := by
  obtain ⟨p, l, e, R, s, m, args, below, meth, c, Q, cells, slots⟩ := X
  obtain ⟨hx, hb, hml, hown, hts, hSC⟩ := hX
  subst hq
  intro H locs ls hP hS hl
  refine va_iast hx hb hSC.1 hP (mx_D_of hSC M) hS k 0 (mx_ar (mx_lt hSC hk) hs) rfl hi hd (fun H1 locs1 g1 g2 g3 => ?_)
  rw [mx_setA (mx_lt hSC hk) hs rfl] at g1
  exact kk H1 locs1 ls g1 g3 hl
theorem r_zast (q : Nat) (hX : mx_OK G X own cc nL) {k n : Nat} {i x : Int32} (hd : decode cc pc = .ok (.bastore, 1)) (hs : mx_sh k = .inl (.boolean, n)) (hk : Nat.blt k 61 = true) (hi : vp_in i n) (kk : mx_WW G X q L S (mI M k i.toNatClampNeg (vp_nar .boolean x))) (hq : pc + 1 = q := by rfl) : mx_WW G X pc L (.int x :: .int i :: .ref k :: S) M := by
  obtain ⟨p, l, e, R, s, m, args, below, meth, c, Q, cells, slots⟩ := X
  obtain ⟨hx, hb, hml, hown, hts, hSC⟩ := hX
  subst hq
  intro H locs ls hP hS hl
  refine va_zast hx hb hSC.1 hP (mx_D_of hSC M) hS k 1 (mx_ar (mx_lt hSC hk) hs) rfl hi hd (fun H1 locs1 g1 g2 g3 => ?_)
  rw [mx_setA (mx_lt hSC hk) hs rfl] at g1
  exact kk H1 locs1 ls g1 g3 hl
theorem r_bast (q : Nat) (hX : mx_OK G X own cc nL) {k n : Nat} {i x : Int32} (hd : decode cc pc = .ok (.bastore, 1)) (hs : mx_sh k = .inl (.byte, n)) (hk : Nat.blt k 61 = true) (hi : vp_in i n) (kk : mx_WW G X q L S (mI M k i.toNatClampNeg (vp_nar .byte x))) (hq : pc + 1 = q := by rfl) : mx_WW G X pc L (.int x :: .int i :: .ref k :: S) M := by
  obtain ⟨p, l, e, R, s, m, args, below, meth, c, Q, cells, slots⟩ := X
  obtain ⟨hx, hb, hml, hown, hts, hSC⟩ := hX
  subst hq
  intro H locs ls hP hS hl
  refine va_bast hx hb hSC.1 hP (mx_D_of hSC M) hS k 2 (mx_ar (mx_lt hSC hk) hs) rfl hi hd (fun H1 locs1 g1 g2 g3 => ?_)
  rw [mx_setA (mx_lt hSC hk) hs rfl] at g1
  exact kk H1 locs1 ls g1 g3 hl
theorem r_cast (q : Nat) (hX : mx_OK G X own cc nL) {k n : Nat} {i x : Int32} (hd : decode cc pc = .ok (.castore, 1)) (hs : mx_sh k = .inl (.char, n)) (hk : Nat.blt k 61 = true) (hi : vp_in i n) (kk : mx_WW G X q L S (mI M k i.toNatClampNeg (vp_nar .char x))) (hq : pc + 1 = q := by rfl) : mx_WW G X pc L (.int x :: .int i :: .ref k :: S) M := by
  obtain ⟨p, l, e, R, s, m, args, below, meth, c, Q, cells, slots⟩ := X
  obtain ⟨hx, hb, hml, hown, hts, hSC⟩ := hX
  subst hq
  intro H locs ls hP hS hl
  refine va_cast hx hb hSC.1 hP (mx_D_of hSC M) hS k 3 (mx_ar (mx_lt hSC hk) hs) rfl hi hd (fun H1 locs1 g1 g2 g3 => ?_)
  rw [mx_setA (mx_lt hSC hk) hs rfl] at g1
  exact kk H1 locs1 ls g1 g3 hl
theorem r_last (q : Nat) (hX : mx_OK G X own cc nL) {k n : Nat} {i : Int32} {x : Int64} (hd : decode cc pc = .ok (.lastore, 1)) (hs : mx_sh k = .inl (.long, n)) (hk : Nat.blt k 61 = true) (hi : vp_in i n) (kk : mx_WW G X q L S (mL M k i.toNatClampNeg x)) (hq : pc + 1 = q := by rfl) : mx_WW G X pc L (.long x :: .int i :: .ref k :: S) M := by
  obtain ⟨p, l, e, R, s, m, args, below, meth, c, Q, cells, slots⟩ := X
  obtain ⟨hx, hb, hml, hown, hts, hSC⟩ := hX
  subst hq
  intro H locs ls hP hS hl
  refine va_last hx hb hSC.1 hP (mx_D_of hSC M) hS k 4 (mx_ar (mx_lt hSC hk) hs) rfl hi hd (fun H1 locs1 g1 g2 g3 => ?_)
  rw [mx_setL (mx_lt hSC hk) hs] at g1
  exact kk H1 locs1 ls g1 g3 hl
theorem r_aald (q : Nat) (hX : mx_OK G X own cc nL) {k n : Nat} {i : Int32} (hd : decode cc pc = .ok (.aaload, 1)) (hs : mx_sh k = .inl (.array .int, n)) (hk : Nat.blt k 61 = true) (hi : vp_in i n) (kk : mx_WW G X q L (.ref (mx_row i.toNatClampNeg) :: S) M) (hq : pc + 1 = q := by rfl) : mx_WW G X pc L (.int i :: .ref k :: S) M := by
  obtain ⟨p, l, e, R, s, m, args, below, meth, c, Q, cells, slots⟩ := X
  obtain ⟨hx, hb, hml, hown, hts, hSC⟩ := hX
  subst hq
  intro H locs ls hP hS hl
  have ha := mx_ar (M := M) (mx_lt hSC hk) hs
  have hlt : i.toNatClampNeg < n := Nat.not_le.mp fun q => hi (Or.inr q)
  exact W.aald (v := .ref (mx_ad G (mx_row i.toNatClampNeg))) (ty := .array .int) hx hb (hP k _ ha) ((hSC.1.2 5 _ rfl).1 n (fun j => va_rf (some (mx_ad G (mx_row j))))) rfl (fun q => by cases q) (by show ¬ (i < 0 ∨ (arrV _ _ _).slots.size ≤ _); rw [arrV_size]; exact hi) (by show (arrV _ _ _).slots[_]? = _; rw [arrV_read _ _ hlt]; rfl) rfl rfl hd (kk H locs ls hP hS hl)
theorem r_alen (q : Nat) (hX : mx_OK G X own cc nL) {k n : Nat} {v : Int32} (hd : decode cc pc = .ok (.arraylength, 1)) (hs : mx_sh k = .inl (.int, n)) (hk : Nat.blt k 61 = true) (hv : Int32.ofNat n = v) (kk : mx_WW G X q L (.int v :: S) M) (hq : pc + 1 = q := by rfl) : mx_WW G X pc L (.ref k :: S) M := by
  obtain ⟨p, l, e, R, s, m, args, below, meth, c, Q, cells, slots⟩ := X
  obtain ⟨hx, hb, hml, hown, hts, hSC⟩ := hX
  subst hq
  intro H locs ls hP hS hl
  exact va_alen hx hb hSC.1 hP k 0 (mx_ar (mx_lt hSC hk) hs) rfl hv hd (kk H locs ls hP hS hl)
/-- a static row: which, its link -/
def mx_sl (own : String) (idx i : Nat) : Prop := ∃ q, mx_stL[i]? = some q ∧ q.1 = 62 + i ∧ (Cond.fieldLink own idx q.2.1 q.2.2.1 "[I" ∈ mx_gW ∨ Cond.fieldLinkNest own idx q.2.1 q.2.2.1 "[I" RX7 ∈ mx_nest)
theorem r_gets (q : Nat) (hX : mx_OK G X own cc nL) {idx i : Nat} (hd : decode cc pc = .ok (.getstatic idx, 3)) (hf : mx_sl own idx i) (kk : mx_WW G X q L (.ref (62 + i) :: S) M) (hq : pc + 3 = q := by rfl) : mx_WW G X pc L S M := by
  obtain ⟨p, l, e, R, s, m, args, below, meth, c, Q, cells, slots⟩ := X
  obtain ⟨hx, hb, hml, hown, hts, hSC⟩ := hX
  subst hq
  intro H locs ls hP hS hl
  obtain ⟨z, hz, hz1, hf⟩ := hf
  obtain ⟨h1, h2⟩ := hSC.2.2.2.2.2.1 z (List.mem_of_getElem? hz)
  rw [hz1] at h1
  rcases hf with hf | hf
  · exact va_gets hx hb h1 hS hown (hts _ hf) (fun _ h => h) hd (kk H locs ls hP hS hl)
  · exact va_getsN hx hb h1 hS hown (va_Nw.use rfl (hSC.2.1 _ hf)) (fun _ h => h) hd (kk H locs ls hP hS hl)
theorem r_tald (q : Nat) (hX : mx_OK G X own cc nL) {k j : Nat} {i : Int32} {C n9 : String} {l9 : List Int32} (hd : decode cc pc = .ok (.iaload, 1)) (hs : mx_stL[j]? = some (k, C, n9, l9)) (hi : vp_in i l9.length) (kk : mx_WW G X q L (.int (l9.getD i.toNatClampNeg 0) :: S) M) (hq : pc + 1 = q := by rfl) : mx_WW G X pc L (.int i :: .ref k :: S) M := by
  obtain ⟨p, l, e, R, s, m, args, below, meth, c, Q, cells, slots⟩ := X
  obtain ⟨hx, hb, hml, hown, hts, hSC⟩ := hX
  subst hq
  intro H locs ls hP hS hl
  obtain ⟨h1, h2⟩ := hSC.2.2.2.2.2.1 _ (List.mem_of_getElem? hs)
  exact va_ti hx hb h2 hS hi rfl hd (kk H locs ls hP hS hl)
theorem r_tlen (q : Nat) (hX : mx_OK G X own cc nL) {k j : Nat} {v : Int32} {C n9 : String} {l9 : List Int32} (hd : decode cc pc = .ok (.arraylength, 1)) (hs : mx_stL[j]? = some (k, C, n9, l9)) (hv : Int32.ofNat l9.length = v) (kk : mx_WW G X q L (.int v :: S) M) (hq : pc + 1 = q := by rfl) : mx_WW G X pc L (.ref k :: S) M := by
  obtain ⟨p, l, e, R, s, m, args, below, meth, c, Q, cells, slots⟩ := X
  obtain ⟨hx, hb, hml, hown, hts, hSC⟩ := hX
  subst hq
  intro H locs ls hP hS hl
  obtain ⟨h1, h2⟩ := hSC.2.2.2.2.2.1 _ (List.mem_of_getElem? hs)
  exact va_tlen hx hb h2 hS hv hd (kk H locs ls hP hS hl)
theorem r_sald (q : Nat) (hX : mx_OK G X own cc nL) {i : Int32} (hd : decode cc pc = .ok (.iaload, 1)) (hi : vp_in i (mx_sN G)) (kk : mx_WW G X q L (.int (mx_sX G i.toNatClampNeg) :: S) M) (hq : pc + 1 = q := by rfl) : mx_WW G X pc L (.int i :: .ref 74 :: S) M := by
  obtain ⟨p, l, e, R, s, m, args, below, meth, c, Q, cells, slots⟩ := X
  obtain ⟨hx, hb, hml, hown, hts, hSC⟩ := hX
  subst hq
  intro H locs ls hP hS hl
  obtain ⟨h1, h2, h3⟩ := hSC.2.2.2.2.2.2
  exact va_sld hx hb h1 h2 h3 hS hi hd (kk H locs ls hP hS hl)
theorem r_slen (q : Nat) (hX : mx_OK G X own cc nL) (hd : decode cc pc = .ok (.arraylength, 1)) (kk : mx_WW G X q L (.int (Int32.ofNat (mx_sN G)) :: S) M) (hq : pc + 1 = q := by rfl) : mx_WW G X pc L (.ref 74 :: S) M := by
  obtain ⟨p, l, e, R, s, m, args, below, meth, c, Q, cells, slots⟩ := X
  obtain ⟨hx, hb, hml, hown, hts, hSC⟩ := hX
  subst hq
  intro H locs ls hP hS hl
  obtain ⟨h1, h2, h3⟩ := hSC.2.2.2.2.2.2
  exact va_slen hx hb h1 h2 h3 hS hd (kk H locs ls hP hS hl)
end MXH
/-! contracts -/
theorem mx_nest_form : ∀ w ∈ mx_nest, (∃ a i b n d h, w = .fieldLinkNest a i b n d h) ∨ ∃ a i x h, w = .methodLinkNest a i x h := by
  refine List.forall_mem_cons.mpr ⟨Or.inl ⟨_, _, _, _, _, _, rfl⟩, List.forall_mem_cons.mpr ⟨Or.inl ⟨_, _, _, _, _, _, rfl⟩, List.forall_mem_cons.mpr ⟨Or.inl ⟨_, _, _, _, _, _, rfl⟩, List.forall_mem_cons.mpr ⟨Or.inl ⟨_, _, _, _, _, _, rfl⟩, List.forall_mem_cons.mpr ⟨Or.inl ⟨_, _, _, _, _, _, rfl⟩, List.forall_mem_cons.mpr ⟨Or.inl ⟨_, _, _, _, _, _, rfl⟩, List.forall_mem_cons.mpr ⟨Or.inl ⟨_, _, _, _, _, _, rfl⟩, List.forall_mem_cons.mpr ⟨Or.inl ⟨_, _, _, _, _, _, rfl⟩, List.forall_mem_cons.mpr ⟨Or.inl ⟨_, _, _, _, _, _, rfl⟩, List.forall_mem_cons.mpr ⟨Or.inl ⟨_, _, _, _, _, _, rfl⟩, List.forall_mem_cons.mpr ⟨Or.inl ⟨_, _, _, _, _, _, rfl⟩, List.forall_mem_cons.mpr ⟨Or.inl ⟨_, _, _, _, _, _, rfl⟩, List.forall_mem_cons.mpr ⟨Or.inl ⟨_, _, _, _, _, _, rfl⟩, List.forall_mem_cons.mpr ⟨Or.inl ⟨_, _, _, _, _, _, rfl⟩, List.forall_mem_cons.mpr ⟨Or.inl ⟨_, _, _, _, _, _, rfl⟩, List.forall_mem_cons.mpr ⟨Or.inl ⟨_, _, _, _, _, _, rfl⟩, List.forall_mem_cons.mpr ⟨Or.inl ⟨_, _, _, _, _, _, rfl⟩, List.forall_mem_cons.mpr ⟨Or.inl ⟨_, _, _, _, _, _, rfl⟩, List.forall_mem_cons.mpr ⟨Or.inl ⟨_, _, _, _, _, _, rfl⟩, List.forall_mem_cons.mpr ⟨Or.inl ⟨_, _, _, _, _, _, rfl⟩, List.forall_mem_cons.mpr ⟨Or.inl ⟨_, _, _, _, _, _, rfl⟩, List.forall_mem_cons.mpr ⟨Or.inl ⟨_, _, _, _, _, _, rfl⟩, List.forall_mem_cons.mpr ⟨Or.inl ⟨_, _, _, _, _, _, rfl⟩, List.forall_mem_cons.mpr ⟨Or.inl ⟨_, _, _, _, _, _, rfl⟩, List.forall_mem_cons.mpr ⟨Or.inr ⟨_, _, _, _, rfl⟩, fun _ h => absurd h List.not_mem_nil⟩⟩⟩⟩⟩⟩⟩⟩⟩⟩⟩⟩⟩⟩⟩⟩⟩⟩⟩⟩⟩⟩⟩⟩⟩
theorem mx_nest_same {u U : State} (h : u.vm = U.vm) (hN : ∀ w ∈ mx_nest, va_Nw w u) : ∀ w ∈ mx_nest, va_Nw w U := by
  intro w hw
  have h1 := hN w hw
  rcases mx_nest_form w hw with ⟨a, i, b, n, d, h9, rfl⟩ | ⟨a, i, x, h9, rfl⟩
  · exact va_Nw.same rfl h h1
  · exact va_Nw.same rfl h h1
theorem mx_nest_warm {s U : State} (hW : s.WarmedH U.vm) (hN : ∀ w ∈ mx_nest, va_Nw w s) : ∀ w ∈ mx_nest, va_Nw w U := by
  intro w hw
  have h1 := hN w hw
  rcases mx_nest_form w hw with ⟨a, i, b, n, d, h9, rfl⟩ | ⟨a, i, x, h9, rfl⟩
  · exact va_Nw.warmF hW h1
  · exact va_Nw.warmM hW h1
theorem mx_SC_warm {G : mx_G} {s U : State} {H : Heap} {locs : List Loc} (hW : s.WarmedH U.vm) (hS : va_S (mx_A G) s.heap H locs) (h : mx_SC G s s.heap) : mx_SC G U H := by
  obtain ⟨h1, h2, h3, h4, ⟨h5, h5b⟩, h6, h7, h8, h9⟩ := h
  refine ⟨va_K.moved hW.alike h1, mx_nest_warm hW h2, h3, h4, ⟨h5, Nat.le_trans h5b hS.1⟩, fun q hq => ?_, ?_, Nat.lt_of_lt_of_le h8 hS.1, h9⟩
  · obtain ⟨g1, g2⟩ := h6 q hq
    exact ⟨va_Z.moved hW.alike (g1.kept (fun a ha hA => hS.2.1 a ha hA)), va_T.moved hW.alike (g2.kept (fun a ha hA => hS.2.1 a ha hA))⟩
  · exact va_X.moved hW.alike (h7.kept (hS.2.1 _ h8 h9))
theorem mx_SC_same {G : mx_G} {s U : State} {H : Heap} (hv : s.vm = U.vm) (h : mx_SC G s H) : mx_SC G U H := by
  have ha : s.vm.Alike U.vm := by rw [← hv]; exact Vm.Alike.refl s.vm
  obtain ⟨h1, h2, h3, h4, h5, h6, h7, h8⟩ := h
  exact ⟨va_K.moved ha h1, mx_nest_same hv h2, h3, h4, h5, fun q hq => ⟨va_Z.moved ha (h6 q hq).1, va_T.moved ha (h6 q hq).2⟩, va_X.moved ha h7, h8⟩
def mx_Pc (G : mx_G) (av : List Value) (M : mx_Mem) : Array Value → State → Prop := fun v U => v = (av.map (mx_c (mx_ad G))).toArray ∧ mx_SC G U U.heap ∧ va_P (mx_D G) mx_cl (mx_ws G M) U.heap
def mx_Qc (G : mx_G) (Post : Option Value → mx_Mem → Prop) : Array Value → State → Outcome → State → Prop := fun _ st oc t => ∃ (r : Option Value) (M' : mx_Mem), oc = .returned (r.map (mx_c (mx_ad G))) ∧ Post r M' ∧ va_P (mx_D G) mx_cl (mx_ws G M') t.heap ∧ va_F (mx_A G) st t
/-- A METHOD'S CONTRACT: called with av in memory M it returns r in memory M' with Post r M' -/
def mx_Met (l : Launch) (G : mx_G) (y : MethodName) (cc : ByteArray) (maxL : Nat) (ret : Option FieldType) (fr lo : Nat) (av : List Value) (M : mx_Mem) (Post : Option Value → mx_Mem → Prop) : Prop :=
  Met l y (Cond.code y cc maxL ret :: mx_gW) ({ frames := fr, cells := 0, slots := 0, locals := lo } : Room) (mx_Pc G av M) (mx_Qc G Post) 0 0 (mx_A G)
/-- room of a frame -/
def mx_RM (X : mx_X) (fr lo : Nat) : Prop := match X with
  | (_, _, _, R, _, _, _, _, _, _, _, cells, slots) => R.frames = fr ∧ R.locals = lo ∧ cells ≤ R.cells ∧ slots ≤ R.slots
/-- how a frame may end -/
def mx_RT (G : mx_G) (X : mx_X) (ret : Option FieldType) (Post : Option Value → mx_Mem → Prop) : Prop := match X with
  | (_, _, _, _, s, _, args, below, meth, _, Q, cells, slots) => meth.sig.returnType = ret ∧ meth.locks = false ∧ Q = MQ below (mx_Qc G Post) args s cells slots (mx_A G)
def mx_l (X : mx_X) : Launch := X.2.1
def mx_ex : List Value → List Value
  | [] => []
  | v :: r => if v.category = 2 then v :: .null :: mx_ex r else v :: mx_ex r
theorem mx_ex_in {ad : Nat → Nat} : ∀ (av : List Value) (i j : Nat) (v : Value), (mx_ex av)[j]? = some v → v ≠ .null → (i + j, mx_c ad v) ∈ lv_args i (av.map (mx_c ad))
  | [], i, j, v, h, _ => by simp [mx_ex] at h
  | a :: r, i, j, v, h, hv => by
    simp only [mx_ex] at h
    simp only [List.map_cons, lv_args, mx_cat]
    by_cases hc : a.category = 2
    · rw [if_pos hc] at h
      rw [if_pos hc]
      match j, h with
      | 0, h => simp at h; subst h; exact List.mem_cons_self
      | 1, h => simp at h; exact absurd h.symm hv
      | j + 2, h =>
        have := mx_ex_in (ad := ad) r (i + 2) j v (by simpa using h) hv
        rw [show i + 2 + j = i + (j + 2) by omega] at this
        exact List.mem_cons_of_mem _ this
    · rw [if_neg hc] at h
      rw [if_neg hc]
      match j, h with
      | 0, h => simp at h; subst h; exact List.mem_cons_self
      | j + 1, h =>
        have := mx_ex_in (ad := ad) r (i + 1) j v (by simpa using h) hv
        rw [show i + 1 + j = i + (j + 1) by omega] at this
        exact List.mem_cons_of_mem _ this
theorem mx_ex_len {ad : Nat → Nat} : ∀ av : List Value, (lg_sl (av.map (mx_c ad))).length = (mx_ex av).length
  | [] => rfl
  | a :: r => by
    have ih := mx_ex_len (ad := ad) r
    simp only [lg_sl] at ih ⊢
    simp only [List.map_cons, List.flatMap_cons, List.length_append, mx_ex, mx_cat]
    split <;> simp [ih] <;> omega
def mx_L0 (av : List Value) (n : Nat) : List Value := mx_ex av ++ List.replicate (n - (mx_ex av).length) .null
theorem mx_entry {G : mx_G} {av : List Value} {n : Nat} (h : (mx_ex av).length ≤ n) : mx_lh G ((lg_sl (av.map (mx_c (mx_ad G))) ++ List.replicate (n - (lg_sl (av.map (mx_c (mx_ad G)))).length) Slot.unset).toArray) (mx_L0 av n) := by
  have hlen := mx_ex_len (ad := mx_ad G) av
  obtain ⟨h1, h2, h3⟩ := lv_entry (av.map (mx_c (mx_ad G))) (n := n) (by rw [hlen]; exact h)
  refine ⟨?_, h2, fun i v hi hv => ?_⟩
  · rw [h1]
    simp [mx_L0]
    omega
  · by_cases hl : i < (mx_ex av).length
    · rw [mx_L0, List.getElem?_append_left hl] at hi
      have := mx_ex_in (ad := mx_ad G) av 0 i v hi hv
      rw [Nat.zero_add] at this
      exact h3 _ this
    · rw [mx_L0, List.getElem?_append_right (by omega)] at hi
      have := List.mem_of_getElem? hi
      rw [List.mem_replicate] at this
      exact absurd this.2 hv
/-- a contract, by the judgement at the entry -/
theorem mx_enter {l : Launch} {G : mx_G} {y : MethodName} {own : String} {cc : ByteArray} {maxL fr lo : Nat} {ret : Option FieldType} {av L : List Value} {M : mx_Mem} {Post : Option Value → mx_Mem → Prop}
    (hy : plainFor y = true) (hown : y.cls = own) (hlen : Nat.ble (mx_ex av).length maxL = true) (hL : mx_L0 av maxL = L)
    (body : ∀ X : mx_X, mx_l X = l → mx_OK G X own cc maxL → mx_RM X fr lo → mx_RT G X ret Post → mx_WW G X 0 L [] M) : mx_Met l G y cc maxL ret fr lo av M Post := by
  refine va_MetF (cc := cc) (maxL := maxL) (ret := ret) hy rfl ?_
  intro p e s m args below meth c s₁ B hml hv
  obtain ⟨rfl, hSC, hP⟩ := hv
  have hts : ∀ w ∈ Cond.code y cc maxL ret :: mx_gW, w.before _ s = true := atoms_spec B.pre
  have ho : s.vm.findClass own = some m.cls := by rw [← hown]; exact findClass_of_methodNamed B.named
  rw [lg_entry_eq]
  have hl := mx_entry (G := G) (Nat.le_of_ble_eq_true hlen)
  subst hL
  exact body (p, l, e, _, s, m, _, below, meth, c, _, 0, 0) rfl ⟨B.exec, B.bytes, hml, ho, fun w hw => hts w (List.mem_cons_of_mem _ hw), hSC⟩ ⟨rfl, rfl, Nat.zero_le _, Nat.zero_le _⟩ ⟨B.returns, B.notSynchronized, rfl⟩ s.heap [] _ hP va_S.rf hl
section MXC
variable {G : mx_G} {X : mx_X} {own : String} {cc : ByteArray} {nL pc : Nat} {L S : List Value} {M : mx_Mem}

theorem r_iret (hX : mx_OK G X own cc nL) {v : Int32} {Post : Option Value → mx_Mem → Prop} (hT : mx_RT G X (some .int) Post) (hd : decode cc pc = .ok (.ireturn, 1))  (hp : Post (some (.int v)) M) : mx_WW G X pc L [.int v] M := by
  obtain ⟨p, l, e, R, s, m, args, below, meth, c, Q, cells, slots⟩ := X
  obtain ⟨hx, hb, hml, hown, hts, hSC⟩ := hX
  obtain ⟨hr, hlocks, rfl⟩ := hT
  intro H locs ls hP hS hl
  exact W.iret hx hb hr (fun t ht hW => ⟨_, M, rfl, hp, by rw [ht]; exact hP, hS.F ht⟩) hS.2.2 hd hlocks
theorem r_zret (hX : mx_OK G X own cc nL) {v : Int32} {Post : Option Value → mx_Mem → Prop} (hT : mx_RT G X (some .boolean) Post) (hd : decode cc pc = .ok (.ireturn, 1)) (hv : v = 0 ∨ v = 1) (hp : Post (some (.int v)) M) : mx_WW G X pc L [.int v] M := by
  obtain ⟨p, l, e, R, s, m, args, below, meth, c, Q, cells, slots⟩ := X
  obtain ⟨hx, hb, hml, hown, hts, hSC⟩ := hX
  obtain ⟨hr, hlocks, rfl⟩ := hT
  intro H locs ls hP hS hl
  exact W.zret hx hb hr (mx_zn hv).1 (fun t ht hW => ⟨_, M, rfl, hp, by rw [ht]; exact hP, hS.F ht⟩) hS.2.2 hd hlocks
theorem r_cret (hX : mx_OK G X own cc nL) {v : Int32} {Post : Option Value → mx_Mem → Prop} (hT : mx_RT G X (some .char) Post) (hd : decode cc pc = .ok (.ireturn, 1)) (hv : narrow .char (.int v) = .int v) (hp : Post (some (.int v)) M) : mx_WW G X pc L [.int v] M := by
  obtain ⟨p, l, e, R, s, m, args, below, meth, c, Q, cells, slots⟩ := X
  obtain ⟨hx, hb, hml, hown, hts, hSC⟩ := hX
  obtain ⟨hr, hlocks, rfl⟩ := hT
  intro H locs ls hP hS hl
  exact W.zret hx hb hr hv (fun t ht hW => ⟨_, M, rfl, hp, by rw [ht]; exact hP, hS.F ht⟩) hS.2.2 hd hlocks
theorem r_lret (hX : mx_OK G X own cc nL) {v : Int64} {Post : Option Value → mx_Mem → Prop} (hT : mx_RT G X (some .long) Post) (hd : decode cc pc = .ok (.lreturn, 1))  (hp : Post (some (.long v)) M) : mx_WW G X pc L [.long v] M := by
  obtain ⟨p, l, e, R, s, m, args, below, meth, c, Q, cells, slots⟩ := X
  obtain ⟨hx, hb, hml, hown, hts, hSC⟩ := hX
  obtain ⟨hr, hlocks, rfl⟩ := hT
  intro H locs ls hP hS hl
  exact W.lret hx hb hr (fun t ht hW => ⟨_, M, rfl, hp, by rw [ht]; exact hP, hS.F ht⟩) hS.2.2 hd hlocks
theorem r_vret (hX : mx_OK G X own cc nL)  {Post : Option Value → mx_Mem → Prop} (hT : mx_RT G X none Post) (hd : decode cc pc = .ok (.return_, 1))  (hp : Post (none) M) : mx_WW G X pc L [] M := by
  obtain ⟨p, l, e, R, s, m, args, below, meth, c, Q, cells, slots⟩ := X
  obtain ⟨hx, hb, hml, hown, hts, hSC⟩ := hX
  obtain ⟨hr, hlocks, rfl⟩ := hT
  intro H locs ls hP hS hl
  exact W.vret hx hb hr (fun t ht hW => ⟨_, M, rfl, hp, by rw [ht]; exact hP, hS.F ht⟩) hS.2.2 hd hlocks
theorem r_aret (hX : mx_OK G X own cc nL) {k : Nat} {rt : FieldType} {Post : Option Value → mx_Mem → Prop} (hT : mx_RT G X (some rt) Post) (hd : decode cc pc = .ok (.areturn, 1)) (hrt : (∃ n, rt = .object n) ∨ ∃ t, rt = .array t) (hp : Post (some (.ref k)) M) : mx_WW G X pc L [.ref k] M := by
  obtain ⟨p, l, e, R, s, m, args, below, meth, c, Q, cells, slots⟩ := X
  obtain ⟨hx, hb, hml, hown, hts, hSC⟩ := hX
  obtain ⟨hr, hlocks, rfl⟩ := hT
  intro H locs ls hP hS hl
  exact W.aret hx hb hr hrt (Or.inr ⟨_, rfl⟩) (fun t ht hW => ⟨_, M, rfl, hp, by rw [ht]; exact hP, hS.F ht⟩) hS.2.2 hd hlocks
theorem mx_call {p : Program} {l : Launch} {e : Env} {R : Room} {s : State} {m : MethodId} {args a : Array Value} {below : List Frame} {meth : Method} {c : Code} {H : Heap} {locs : List Loc} {cells slots : Nat} {Q : State → Prop} {pc : Nat} {ls : Array Slot} {st0 rest : List Value} {Post : Option Value → mx_Mem → Prop}
    (hr : va_Run p l e R s m args below meth c H locs cells slots 0 0 (F0 m pc ls st0) rest (mx_Qc G Post a) (mx_A G)) (hS : va_S (mx_A G) s.heap H locs)
    (kk : ∀ (r : Option Value) (M' : mx_Mem) (H1 : Heap) (locs1 : List Loc), Post r M' → va_P (mx_D G) mx_cl (mx_ws G M') H1 → va_S (mx_A G) s.heap H1 locs1 → W p l e R s m args below meth c H1 locs1 cells slots Q (F0 m (pc + 3) ls ((r.map (mx_c (mx_ad G))).toList ++ rest))) :
    W p l e R s m args below meth c H locs cells slots Q (F0 m pc ls st0) := by
  intro T hT X
  obtain ⟨v, st₀, t, T', L, h0, X', hL, e1, e2, ⟨r, M', hv, hp, hP, hz, hk⟩, st⟩ := hr T hT X
  cases hv
  rw [h0] at hz hk
  obtain ⟨t2, a1, b1⟩ := kk r M' T'.heap (locs ++ L) hp (by rw [e1]; exact hP)
    ⟨Nat.le_trans hS.1 (by rw [e1]; exact hz), fun q h1 h2 => by rw [e1, hk q (Nat.lt_of_lt_of_le h1 hS.1) h2]; exact hS.2.1 q h1 h2, fun q hq => by
      rcases List.mem_append.mp hq with h | h
      · exact hS.2.2 q h
      · exact hL q h⟩ T' rfl X'
  exact ⟨t2, st t2 a1, b1⟩
/-- the callee y, by the tables: its code, that it can be called; n: its parameters -/
def mx_cd (y : MethodName) (cc : ByteArray) (maxL : Nat) (ret : Option FieldType) (n : Nat) : Prop := Cond.code y cc maxL ret ∈ mx_gW ∧ Cond.initialized y.cls ∈ mx_gW ∧ (y.cls ≠ "java/lang/invoke/MethodHandle" ∧ y.cls ≠ "java/lang/invoke/VarHandle") ∧ (parseMethodDescriptor y.desc).map (fun d => d.parameters.length) = some n
theorem mx_good {y : MethodName} {cc : ByteArray} {maxL : Nat} {ret : Option FieldType} (h : Cond.code y cc maxL ret ∈ mx_gW) : GoodIn mx_gW (Cond.code y cc maxL ret :: mx_gW) := by
  have key : ∀ w ∈ mx_gW, w ∈ mx_gW ∧ ((w.onTables && w.keeps) = true ∨ ∃ ty, w = .arrayClass ty) := fun w hw => ⟨hw, good_of_word (List.mem_filter.mp hw).2⟩
  intro w hw
  rcases List.mem_cons.mp hw with rfl | hw
  · exact key _ h
  · exact key _ hw
theorem mx_cb {R : Room} {s : State} {args : Array Value} {own : String} {idx : Nat} {y : MethodName} {cc : ByteArray} {maxL n fr lo fr1 lo1 : Nat} {ret : Option FieldType} (hts : ∀ w ∈ mx_gW, w.before args s = true) (hc : mx_cd y cc maxL ret n) (hl : Cond.methodLink own idx y ∈ mx_gW) (h1 : R.frames = fr1) (h2 : R.locals = lo1) (hR : (Nat.ble (fr + 1) fr1 && Nat.ble (8 + (maxL + 11) + lo) lo1) = true) :
    CallB R s args own idx y cc maxL ret (Cond.code y cc maxL ret :: mx_gW) { frames := fr, cells := 0, slots := 0, locals := lo } 0 0 n := by
  simp only [Bool.and_eq_true] at hR
  exact callB_of n hts (mx_good hc.1) rfl rfl rfl (hts _ hc.2.1) (hts _ hl) ⟨hc.2.2.1.1, hc.2.2.1.2, hc.2.2.2⟩ ⟨by rw [h1]; exact Nat.le_of_ble_eq_true hR.1, by rw [h2]; exact Nat.le_of_ble_eq_true hR.2⟩
theorem mx_blind (G : mx_G) (av : List Value) (M : mx_Mem) : FrameBlind (mx_Pc G av M) := fun a U g mk h => ⟨h.1, mx_SC_same (s := U) (U := U.calling g mk a) rfl h.2.1, h.2.2⟩
/-- the stack below a call has room -/
def mx_rs (S : List Value) : Bool := Nat.ble (S.map fun v => v.category).sum 8
theorem mx_rsum (G : mx_G) {S : List Value} (h : mx_rs S = true) : ((S.map (mx_c (mx_ad G))).map fun v => v.category).sum ≤ 8 := by
  have := Nat.le_of_ble_eq_true h
  rw [List.map_map]
  rw [show ((fun v : Value => v.category) ∘ mx_c (mx_ad G)) = (fun v => v.category) from funext fun v => mx_cat _ v]
  exact this
theorem mx_tl (G : mx_G) (r : Option Value) (S : List Value) : (r.toList ++ S).map (mx_c (mx_ad G)) = (r.map (mx_c (mx_ad G))).toList ++ S.map (mx_c (mx_ad G)) := by
  cases r <;> simp

theorem r_callV (q : Nat) (hX : mx_OK G X own cc nL) {fr lo fr1 lo1 idx maxL b ci n : Nat} (hR : mx_RM X fr1 lo1) {y : MethodName} {cy : ByteArray} {ret : Option FieldType} {fs : List (Option Nat)} {As : List Value} {Post : Option Value → mx_Mem → Prop} (hM : mx_Met (mx_l X) G y cy maxL ret fr lo (.ref b :: As) M Post) (hd : decode cc pc = .ok (.invokevirtual idx, 3)) (hc : mx_cd y cy maxL ret n) (hli : Cond.methodLink own idx y ∈ mx_gW ∧ Cond.instanceMethod y ∈ mx_gW ∧ Cond.selects y.cls y y ∈ mx_gW)
    (hs : mx_sh b = .inr (ci, fs)) (hcl : (mx_cl[ci]?).map (fun z => z.1) = some y.cls) (hk : Nat.blt b 61 = true) (hn : As.length = n) (hrs : mx_rs S = true) (hro : (Nat.ble (fr + 1) fr1 && Nat.ble (8 + (maxL + 11) + lo) lo1) = true) (hnL : L.length = nL) (kk : ∀ (r : Option Value) (M' : mx_Mem), Post r M' → mx_WW G X q L (r.toList ++ S) M') (hq : pc + 3 = q := by rfl) : mx_WW G X pc L (As.reverse ++ .ref b :: S) M := by
  obtain ⟨p, l, e, R, s, m, args, below, meth, c, Q, cells, slots⟩ := X
  obtain ⟨hx, hb, hml, hown, hts, hSC⟩ := hX
  obtain ⟨hR1, hR2, hR3, hR4⟩ := hR
  subst hq
  intro H locs ls hP hS hl
  have hrec : ∃ cellB : Cell, H[mx_ad G b]? = some cellB ∧ cellB.vm.isStatics = false ∧ s.vm.findClass y.cls = some cellB.cls := by
    cases hcc : mx_cl[ci]? with
    | none => rw [hcc] at hcl; cases hcl
    | some z =>
      rw [hcc] at hcl
      have := va_recv hSC.1 hP hcc (mx_obj (mx_lt hSC hk) hs)
      rw [← Option.some.inj hcl]
      exact this
  refine mx_call (rest := S.map (mx_c (mx_ad G))) (va_runV (C := y.cls) (b := mx_ad G b) (As := As.map (mx_c (mx_ad G))) (n := n) ⟨hx, hb, hml, hown, hts⟩ hM ⟨mx_cb hts hc hli.1 hR1 hR2 hro, hts _ hli.2.1, hts _ hli.2.2⟩
    ⟨mx_blind G _ M, hrec, fun U hU hW => ⟨rfl, by rw [hU]; exact mx_SC_warm hW hS hSC, by rw [hU]; exact hP⟩⟩ rfl (by rw [List.length_map]; exact hn) (hl.1.trans hnL) (by simp [mx_c_ref]) (lv_room (mx_rsum G hrs)) hd ⟨hR3, hR4⟩) hS (fun r M' H1 locs1 hp g1 g2 => by
    have := kk r M' hp H1 locs1 ls g1 g2 hl
    rw [mx_tl] at this
    exact this)
theorem r_callS (q : Nat) (hX : mx_OK G X own cc nL) {fr lo fr1 lo1 idx maxL n : Nat} (hR : mx_RM X fr1 lo1) {y : MethodName} {cy : ByteArray} {ret : Option FieldType} {As : List Value} {Post : Option Value → mx_Mem → Prop} (hM : mx_Met (mx_l X) G y cy maxL ret fr lo As M Post) (hd : decode cc pc = .ok (.invokestatic idx, 3)) (hc : mx_cd y cy maxL ret n) (hli : Cond.methodLink own idx y ∈ mx_gW ∧ Cond.static y ∈ mx_gW)
    (hn : As.length = n) (hrs : mx_rs S = true) (hro : (Nat.ble (fr + 1) fr1 && Nat.ble (8 + (maxL + 11) + lo) lo1) = true) (hnL : L.length = nL) (kk : ∀ (r : Option Value) (M' : mx_Mem), Post r M' → mx_WW G X q L (r.toList ++ S) M') (hq : pc + 3 = q := by rfl) : mx_WW G X pc L (As.reverse ++ S) M := by
  obtain ⟨p, l, e, R, s, m, args, below, meth, c, Q, cells, slots⟩ := X
  obtain ⟨hx, hb, hml, hown, hts, hSC⟩ := hX
  obtain ⟨hR1, hR2, hR3, hR4⟩ := hR
  subst hq
  intro H locs ls hP hS hl
  refine mx_call (rest := S.map (mx_c (mx_ad G))) (va_runS (As := As.map (mx_c (mx_ad G))) (n := n) ⟨hx, hb, hml, hown, hts⟩ hM ⟨mx_cb hts hc hli.1 hR1 hR2 hro, hts _ hli.2⟩
    ⟨mx_blind G _ M, fun U hU hW => ⟨rfl, by rw [hU]; exact mx_SC_warm hW hS hSC, by rw [hU]; exact hP⟩⟩ rfl (by rw [List.length_map]; exact hn) (hl.1.trans hnL) (by simp) (lv_room (mx_rsum G hrs)) hd ⟨hR3, hR4⟩) hS (fun r M' H1 locs1 hp g1 g2 => by
    have := kk r M' hp H1 locs1 ls g1 g2 hl
    rw [mx_tl] at this
    exact this)
theorem r_callSN (q : Nat) (hX : mx_OK G X own cc nL) {fr lo fr1 lo1 idx maxL n : Nat} (hR : mx_RM X fr1 lo1) {y : MethodName} {cy : ByteArray} {ret : Option FieldType} {As : List Value} {Post : Option Value → mx_Mem → Prop} (hM : mx_Met (mx_l X) G y cy maxL ret fr lo As M Post) (hd : decode cc pc = .ok (.invokestatic idx, 3)) (hc : mx_cd y cy maxL ret n) (hli : Cond.methodLinkNest own idx y RX7 ∈ mx_nest ∧ Cond.static y ∈ mx_gW)
    (hn : As.length = n) (hrs : mx_rs S = true) (hro : (Nat.ble (fr + 1) fr1 && Nat.ble (8 + (maxL + 11) + lo) lo1) = true) (hnL : L.length = nL) (kk : ∀ (r : Option Value) (M' : mx_Mem), Post r M' → mx_WW G X q L (r.toList ++ S) M') (hq : pc + 3 = q := by rfl) : mx_WW G X pc L (As.reverse ++ S) M := by
  obtain ⟨p, l, e, R, s, m, args, below, meth, c, Q, cells, slots⟩ := X
  obtain ⟨hx, hb, hml, hown, hts, hSC⟩ := hX
  obtain ⟨hR1, hR2, hR3, hR4⟩ := hR
  subst hq
  intro H locs ls hP hS hl
  simp only [Bool.and_eq_true] at hro
  refine mx_call (rest := S.map (mx_c (mx_ad G))) (va_runSN (As := As.map (mx_c (mx_ad G))) (n := n) ⟨hx, hb, hml, hown, hts⟩ hM ⟨va_cnB n hts (mx_good hc.1) rfl rfl rfl (hSC.2.1 _ hli.1) (hts _ hc.2.1) ⟨hc.2.2.1.1, hc.2.2.1.2, hc.2.2.2⟩ ⟨by rw [hR1]; exact Nat.le_of_ble_eq_true hro.1, by rw [hR2]; exact Nat.le_of_ble_eq_true hro.2⟩, hts _ hli.2, trivial⟩
    ⟨mx_blind G _ M, fun U hU hW => ⟨rfl, by rw [hU]; exact mx_SC_warm hW hS hSC, by rw [hU]; exact hP⟩⟩ rfl (by rw [List.length_map]; exact hn) (hl.1.trans hnL) (by simp) (lv_room (mx_rsum G hrs)) hd ⟨hR3, hR4⟩) hS (fun r M' H1 locs1 hp g1 g2 => by
    have := kk r M' hp H1 locs1 ls g1 g2 hl
    rw [mx_tl] at this
    exact this)
end MXC

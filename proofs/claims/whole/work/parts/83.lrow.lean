/-! the law's own row: it calls row and catches -/
theorem vxw_cw : Cond.codeWith yL_row cL_row 4 (some .int) [(0, 9, 12, 13)] ∈ mx_gW := List.mem_filter.mpr ⟨List.mem_append_right _ (List.mem_append_right _ (List.mem_append_right _ (List.mem_append_left _ (List.mem_of_getElem? (i := 160) rfl)))), rfl⟩
theorem vxw_3 : Cond.classLink RL 13 mx_E ∈ mx_gW := mx_in (by decide +kernel)
theorem mx_XC_blind (G : mx_G) (Pc : Array Value → State → Prop) (h : FrameBlind Pc) : FrameBlind (fun v U => Pc v U ∧ mx_XC G U U.heap) := fun a U g mk hq => ⟨h a U g mk hq.1, mx_XC_same (s := U) (U := U.calling g mk a) rfl hq.2⟩
/-- a store of what nobody reads -/
theorem mx_storeN {G : mx_G} {ls : Array Slot} {L : List Value} {i : Nat} {v : Value} (h : mx_lh G ls L) (hi : mx_st1 L i = true) (hc : v.category = 1) :
    ∃ ls', storeLocals ls i v = some ls' ∧ mx_lh G ls' (L.set i .null) := by
  obtain ⟨hs, hw, hq⟩ := h
  simp only [mx_st1, Bool.and_eq_true, decide_eq_true_eq, Bool.or_eq_true, beq_iff_eq, bne_iff_ne, ne_eq] at hi
  obtain ⟨ls', e', h1, h2, h3⟩ := lv_store1 (l := []) (v := v) ⟨hs, hw, fun q hq => by cases hq⟩ hi.1 hc
  refine ⟨ls', e', by rw [List.length_set]; exact h1, h2, fun j w hj hw0 => ?_⟩
  by_cases hji : j = i
  · subst hji
    rw [List.getElem?_set_self hi.1] at hj
    cases hj
    exact absurd rfl hw0
  · rw [List.getElem?_set_ne (Ne.symm hji)] at hj
    obtain ⟨ls2, e2, -, -, h5⟩ := lv_store1 (l := [(j, mx_c (mx_ad G) w)]) (v := v) ⟨hs, hw, fun q hq2 => by
      rw [List.mem_singleton] at hq2
      subst hq2
      exact hq j w hj hw0⟩ hi.1 hc
    cases e'.symm.trans e2
    refine h5 (j, _) (List.mem_cons_of_mem _ (List.mem_filter.mpr ⟨List.mem_singleton.mpr rfl, ?_⟩))
    simp only [Bool.and_eq_true, Bool.not_eq_true', beq_eq_false_iff_ne, ne_eq, Bool.and_eq_false_iff]
    refine ⟨hji, ?_⟩
    by_cases hj1 : j + 1 = i
    · right
      show ¬ (mx_c (mx_ad G) w).category = 2
      rw [mx_cat]
      rcases hi.2 with h0 | h0
      · omega
      · subst hj1
        have : L.getD (j + 1 - 1) .null = w := by simp [hj]
        rw [this] at h0
        exact h0
    · left
      exact hj1
theorem r_last1 {G : mx_G} {X : mx_X} {own : String} {cc : ByteArray} {nL pc : Nat} {L S : List Value} {M : mx_Mem} (q : Nat) (hX : mx_OK G X own cc nL) {k n : Nat} {i : Int32} {x : Int64} (hd : decode cc pc = .ok (.lastore, 1)) (hs : mx_sh k = .inl (.long, n)) (hk : k < mx_n G) (hi : vp_in i n) (kk : mx_WW G X q L S (mL M k i.toNatClampNeg x)) (hq : pc + 1 = q := by rfl) : mx_WW G X pc L (.long x :: .int i :: .ref k :: S) M := by
  obtain ⟨p, l, e, R, s, m, args, below, meth, c, Q, cells, slots⟩ := X
  obtain ⟨hx, hb, hml, hown, hts, hSC⟩ := hX
  subst hq
  intro H locs ls hP hS hl
  refine va_last hx hb hSC.1 hP (mx_D_of hSC M) hS k 4 (mx_ar hk hs) rfl hi hd (fun H1 locs1 g1 g2 g3 => ?_)
  rw [mx_setL hk hs] at g1
  exact kk H1 locs1 ls g1 g3 hl
theorem r_lald1 {G : mx_G} {X : mx_X} {own : String} {cc : ByteArray} {nL pc : Nat} {L S : List Value} {M : mx_Mem} (q : Nat) (hX : mx_OK G X own cc nL) {k n : Nat} {i : Int32} (hd : decode cc pc = .ok (.laload, 1)) (hs : mx_sh k = .inl (.long, n)) (hk : k < mx_n G) (hi : vp_in i n) (kk : mx_WW G X q L (.long (M.2 k i.toNatClampNeg) :: S) M) (hq : pc + 1 = q := by rfl) : mx_WW G X pc L (.int i :: .ref k :: S) M := by
  obtain ⟨p, l, e, R, s, m, args, below, meth, c, Q, cells, slots⟩ := X
  obtain ⟨hx, hb, hml, hown, hts, hSC⟩ := hX
  subst hq
  intro H locs ls hP hS hl
  exact va_lald hx hb hSC.1 hP k 4 (mx_ar hk hs) rfl hi hd (kk H locs ls hP hS hl)
def lrP (M : mx_Mem) (i : Int32) : Option Value → mx_Mem → Prop := fun r M' => (rwC M i ∧ r = some (.int 0) ∧ M' = mL M 61 0 (M.1 0 14).toInt64) ∨ (¬ rwC M i ∧ r = some (.int 1) ∧ M' = M)
def lrW : List Cond := Cond.codeWith yL_row cL_row 4 (some .int) [(0, 9, 12, 13)] :: mx_gW
def lrR : Room := { frames := 7, cells := 1, slots := 6, locals := 102 }
def lrPc (G : mx_G) (M : mx_Mem) (i : Int32) : Array Value → State → Prop := fun v U => mx_Pc G [.ref 0, .int i, .ref 61] M v U ∧ mx_XC G U U.heap
set_option maxRecDepth 100000 in
set_option maxHeartbeats 4000000 in
theorem tL_row {l : Launch} {G : mx_G} {i : Int32} {M : mx_Mem} (hl : l.stackTraces = false) (hn : mx_n G = 62) : Met l yL_row lrW lrR (lrPc G M i) (mx_Qc G (lrP M i)) 1 6 (mx_A G) := by
  refine va_MetW (cc := cL_row) (maxL := 4) (ret := some .int) (hh := [(0, 9, 12, 13)]) (ws' := mx_gW) (by decide +kernel) rfl ?_
  intro p e s m args below meth c s₁ B hml hv
  obtain ⟨⟨rfl, hSC, hP0⟩, hXC⟩ := hv
  have hts : ∀ w ∈ lrW, w.before _ s = true := atoms_spec B.pre
  have ho : s.vm.findClass RL = some m.cls := findClass_of_methodNamed B.named
  have hg : ∀ w ∈ mx_gW, w.before _ s = true := fun w hw => hts w (List.mem_cons_of_mem _ hw)
  have htab : c.exceptionTable.toList = tableOf [(0, 9, 12, 13)] := vx_table (x := yL_row) B (hts _ List.mem_cons_self)
  have hlocks := B.notSynchronized
  have hrt := B.returns
  rw [lg_entry_eq]
  have hl0 := mx_entry (G := G) (av := [.ref 0, .int i, .ref 61]) (n := 4) (Nat.le_of_ble_eq_true rfl)
  have hex := B.exec
  have hby := B.bytes
  generalize hR9 : (headSpec lrW lrR).room = R9
  have eR : R9 = lrR := hR9.symm
  have hX0 : mx_OK G (p, l, e, R9, s, m, (([.ref 0, .int i, .ref 61] : List Value).map (mx_c (mx_ad G))).toArray, below, meth, c, MQ below (mx_Qc G (lrP M i)) ((([.ref 0, .int i, .ref 61] : List Value).map (mx_c (mx_ad G))).toArray) s 1 6 (mx_A G), 0, 0) RL cL_row 4 := ⟨hex, hby, hml, ho, hg, hSC⟩
  have hX1 : mx_OK G (p, l, e, R9, s, m, (([.ref 0, .int i, .ref 61] : List Value).map (mx_c (mx_ad G))).toArray, below, meth, c, MQ below (mx_Qc G (lrP M i)) ((([.ref 0, .int i, .ref 61] : List Value).map (mx_c (mx_ad G))).toArray) s 1 6 (mx_A G), 1, 6) RL cL_row 4 := ⟨hex, hby, hml, ho, hg, hSC⟩
  have hT : mx_RT G (p, l, e, R9, s, m, (([.ref 0, .int i, .ref 61] : List Value).map (mx_c (mx_ad G))).toArray, below, meth, c, MQ below (mx_Qc G (lrP M i)) ((([.ref 0, .int i, .ref 61] : List Value).map (mx_c (mx_ad G))).toArray) s 1 6 (mx_A G), 1, 6) (some .int) (lrP M i) := ⟨hrt, hlocks, rfl⟩
  have h7 : rwC M i → mx_WW G (p, l, e, R9, s, m, (([.ref 0, .int i, .ref 61] : List Value).map (mx_c (mx_ad G))).toArray, below, meth, c, MQ below (mx_Qc G (lrP M i)) ((([.ref 0, .int i, .ref 61] : List Value).map (mx_c (mx_ad G))).toArray) s 1 6 (mx_A G), 1, 6) 7 [.ref 0, .int i, .ref 61, .null] [.int (M.1 0 14), .int 0, .ref 61] M := by
    intro hc
    refine r_i2l 8 hX1 dL_row_7 ?_
    refine r_last1 9 hX1 dL_row_8 rfl (by omega) (vpK rfl) ?_
    refine r_goto 15 hX1 dL_row_9 ?_
    refine r_iconst 16 hX1 dL_row_15 rfl ?_
    exact r_iret hX1 hT dL_row_16 (Or.inl ⟨hc, rfl, rfl⟩)
  have h13 : ¬ rwC M i → mx_WW G (p, l, e, R9, s, m, (([.ref 0, .int i, .ref 61] : List Value).map (mx_c (mx_ad G))).toArray, below, meth, c, MQ below (mx_Qc G (lrP M i)) ((([.ref 0, .int i, .ref 61] : List Value).map (mx_c (mx_ad G))).toArray) s 1 6 (mx_A G), 1, 6) 13 [.ref 0, .int i, .ref 61, .null] [] M := by
    intro hc
    refine r_iconst 14 hX1 dL_row_13 rfl ?_
    exact r_iret hX1 hT dL_row_14 (Or.inr ⟨hc, rfl, rfl⟩)
  have h4 : mx_WW G (p, l, e, R9, s, m, (([.ref 0, .int i, .ref 61] : List Value).map (mx_c (mx_ad G))).toArray, below, meth, c, MQ below (mx_Qc G (lrP M i)) ((([.ref 0, .int i, .ref 61] : List Value).map (mx_c (mx_ad G))).toArray) s 1 6 (mx_A G), 0, 0) 4 [.ref 0, .int i, .ref 61, .null] [.int i, .ref 0, .int 0, .ref 61] M := by
    intro H locs ls hP hS hl9 T hT9 X9
    have hrec : ∃ cellB : Cell, H[mx_ad G 0]? = some cellB ∧ cellB.vm.isStatics = false ∧ s.vm.findClass RX7 = some cellB.cls := va_recv (ws := mx_ws G M) hSC.1 hP (ci := 7) rfl (mx_obj (k := 0) (M := M) (mx_lt hSC rfl) rfl)
    have cw : CallW R9 s ((([.ref 0, .int i, .ref 61] : List Value).map (mx_c (mx_ad G))).toArray) RL RX7 7 yX7_row cX7_row 2 (some .int) (Cond.code yX7_row cX7_row 2 (some .int) :: mx_gW) ({ frames := 6, cells := 1, slots := 6, locals := 81 } : Room) 1 6 1 :=
      ⟨callB_of 1 hg (mx_good kX7_row.1) rfl rfl rfl (hg _ kX7_row.2.1) (hg _ lL_7.1) ⟨kX7_row.2.2.1.1, kX7_row.2.2.1.2, kX7_row.2.2.2⟩ ⟨by rw [eR]; exact Nat.le_of_ble_eq_true rfl, by rw [eR]; exact Nat.le_of_ble_eq_true rfl⟩, hg _ lL_7.2.1, hg _ lL_7.2.2⟩
    rcases vx_runV (g := F0 m 4 ls (([.int i, .ref 0, .int 0, .ref 61] : List Value).map (mx_c (mx_ad G)))) (rest := ([.int 0, .ref 61] : List Value).map (mx_c (mx_ad G))) (C := RX7) (b := mx_ad G 0) (As := [.int i]) (n := 1) ⟨hex, hby, hml, ho, hg⟩ (tX7_rowX (i := i) (M := M) (G := G) hl) cw
      ⟨mx_XC_blind G _ (mx_blind G _ M), hrec, fun U hU hW => ⟨⟨rfl, by rw [hU]; exact mx_SC_warm hW hS hSC, by rw [hU]; exact hP⟩, by rw [hU]; exact mx_XC_warm hW hS hXC⟩⟩ rfl rfl hl9.1 rfl (lv_room (Nat.le_of_ble_eq_true rfl)) dL_row_4 ⟨by rw [eR]; exact Nat.le_of_ble_eq_true rfl, by rw [eR]; exact Nat.le_of_ble_eq_true rfl⟩ T hT9 X9 with
      ⟨v, st₀, t, T', L, h0, X', hL, e1, e2, ⟨r, M', hv, ⟨hc, rfl, rfl⟩, hP', hF⟩, st⟩ | ⟨q, st₀, t, T', L, E, ce, h0, X', hL, e1, e2, ⟨rfl, hc, hP', hF⟩, hce, hcv, hcl, st⟩
    · cases hv
      have hk := vx_keep h0 e1 hS (fun _ _ h => h) (fun _ h => h) hL hF
      obtain ⟨t2, a1, b1⟩ := h7 hc T'.heap (locs ++ L) ls (by rw [e1]; exact hP') hk.2.2 hl9 T' rfl X'
      exact ⟨t2, st t2 a1, b1⟩
    · have hk := vx_keep h0 e1 hS (fun _ _ h => h) (fun _ h => h) hL hF
      obtain ⟨ls', e', h'⟩ := mx_storeN (i := 3) (v := .ref q) hl9 rfl rfl
      have kk : W p l e R9 s m ((([.ref 0, .int i, .ref 61] : List Value).map (mx_c (mx_ad G))).toArray) below meth c T'.heap (locs ++ L) 1 6 (MQ below (mx_Qc G (lrP M i)) ((([.ref 0, .int i, .ref 61] : List Value).map (mx_c (mx_ad G))).toArray) s 1 6 (mx_A G)) (F0 m 12 ls [.ref q]) := by
        intro T2 hT2 X2
        obtain ⟨t2, a1, b1⟩ := h13 hc T'.heap (locs ++ L) ls' (by rw [e1]; exact hP') hk.2.2 h' T2 hT2 X2
        refine ⟨t2, ?_, b1⟩
        jvm_step X2.here [X2.here.top, ↓top_set X2.here.top, hex, hby, dL_row_12, Value.isRef, e']
        exact a1
      obtain ⟨t2, a1, b1⟩ := vx_catch (E := mx_E) (name := mx_E) (own := RL) (pc := 4) (ls := ls) (rest := ([.int 0, .ref 61] : List Value).map (mx_c (mx_ad G))) ho [] ⟨0, 9, 12, 13⟩ [] htab (fun z hz => nomatch hz) (by decide) (by decide) (hg _ vxw_3) (va_Nw.use rfl (hXC.1 (.castable mx_E mx_E) (by decide))) (by rw [e1]; exact hce) hcv hcl kk T' rfl X'
      exact ⟨t2, st.trans a1, b1⟩
  have key : mx_WW G (p, l, e, R9, s, m, (([.ref 0, .int i, .ref 61] : List Value).map (mx_c (mx_ad G))).toArray, below, meth, c, MQ below (mx_Qc G (lrP M i)) ((([.ref 0, .int i, .ref 61] : List Value).map (mx_c (mx_ad G))).toArray) s 1 6 (mx_A G), 0, 0) 0 [.ref 0, .int i, .ref 61, .null] [] M := by
    refine r_aload_n 1 hX0 dL_row_0 rfl ?_
    refine r_iconst 2 hX0 dL_row_1 rfl ?_
    refine r_aload_n 3 hX0 dL_row_2 rfl ?_
    refine r_iload_n 4 hX0 dL_row_3 rfl ?_
    exact h4
  exact key s.heap [] _ hP0 va_S.rf hl0

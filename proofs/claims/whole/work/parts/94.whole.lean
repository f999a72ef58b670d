/-! the law from its entry -/
section LWS
variable {p : Program} {l : Launch} {e : Env} {R : Room} {s : State} {m : MethodId} {args : Array Value} {below : List Frame} {meth : Method} {c : Code} {Q : State → Prop} {H : Heap} {locs : List Loc} {cells slots : Nat} {cc : ByteArray} {pc : Nat} {ls : Array Slot} {rest : List Value}
theorem k_newW {own : String} {base : Nat} {D : va_G} {cA : FieldType → ClassId} {tys : List (ClassId × FieldType)} {A : Nat → Prop} {ws : List mk_E} (hx : p.tables.exec = Jvm.exec) (hb : c.code = cc) (hown : s.vm.findClass own = some m.cls) (hts : ∀ w ∈ mx_gW, w.before args s = true) {idx ci N : Nat} {C : String} {T : u_T} {ty : Nat → FieldType} {fs : List Value} (hd : decode cc pc = .ok (.new idx, 3)) (hck : mx_ck ci C T N) (hty : ∀ k, k < N → parseFieldDescriptor (T k).2.2.1 = some (ty k)) (hli : Cond.classLink own idx C ∈ mx_gW ∧ Cond.instantiable C N ∈ mx_gW ∧ Cond.initialized C ∈ mx_gW) (hfs : ∀ (ad : Nat → Nat) (j : Nat), j < N → defaultValue (ty j) = vp_V (fs.map (mx_c ad)) j) (hK : va_K D mx_cl tys s) (hba : base ≤ s.heap.size) (hc1 : cells + 1 ≤ R.cells) (hs1 : slots + N ≤ R.slots) (hz : base + ws.length = s.heap.size + cells) (hP : va_P D mx_cl (mk_at cA base ws) H) (hS : va_S A s.heap H locs)
    (kk : ∀ H1 : Heap, va_P D mx_cl (mk_at cA base (ws ++ [.inr (ci, fs)])) H1 → va_S A s.heap H1 locs → W p l e R s m args below meth c H1 locs (cells + 1) (slots + N) Q (F0 m (pc + 3) ls (.ref (base + ws.length) :: rest))) : W p l e R s m args below meth c H locs cells slots Q (F0 m pc ls rest) := by
  intro T0 hT X9
  have hsz : H.size = base + ws.length := mk_size X9 hT hz hP hba
  have hKn := hK.1 ci _ hck.1
  refine W.newcK (g := F0 m pc ls rest) hx hb hown (hts _ hli.1) (hts _ hli.2.1) (hts _ hli.2.2) rfl hd hc1 hs1 hKn.2.1 rfl (fun H1 kC hkC e1 z1 o1 => ?_) T0 hT X9
  have hnew : va_at D mx_cl (H.size, mk_r cA base (.inr (ci, fs))) H1 := ⟨_, hck.1, (u_born ty hts hck.2.1 hKn hkC e1 hty).to (hfs _)⟩
  have h9 := kk H1 (mk_push hP hsz o1 hnew) (mk_S hS (by omega) o1)
  show W p l e R s m args below meth c H1 locs (cells + 1) (slots + N) Q (F0 m (pc + 3) ls (.ref H.size :: rest))
  rw [hsz]
  exact h9
theorem mk_callK {G : mx_G} {a : Array Value} {mc ms : Nat} {st0 : List Value} {ws' : List mk_E}
    (hr : va_Run p l e R s m args below meth c H locs cells slots mc ms (F0 m pc ls st0) rest (mk_Qc G ws' a) (mx_A G)) (hS : va_S (mx_A G) s.heap H locs)
    (kk : ∀ (H1 : Heap) (locs1 : List Loc), va_P (mx_D G) mx_cl (mk_at (mx_cA G) (mx_base G) ws') H1 → va_S (mx_A G) s.heap H1 locs1 → W p l e R s m args below meth c H1 locs1 (cells + mc) (slots + ms) Q (F0 m (pc + 3) ls rest)) :
    W p l e R s m args below meth c H locs cells slots Q (F0 m pc ls st0) := by
  intro T hT X
  obtain ⟨v, st₀, t, T', L, h0, X', hL, e1, e2, ⟨hv, ⟨-, hP⟩, hz, hk⟩, st⟩ := hr T hT X
  cases hv
  rw [h0] at hz hk
  obtain ⟨t2, a1, b1⟩ := kk T'.heap (locs ++ L) (by rw [e1]; exact hP)
    ⟨Nat.le_trans hS.1 (by rw [e1]; exact hz), fun q h1 h2 => by rw [e1, hk q (Nat.lt_of_lt_of_le h1 hS.1) h2]; exact hS.2.1 q h1 h2, fun q hq => by
      rcases List.mem_append.mp hq with h | h
      · exact hS.2.2 q h
      · exact hL q h⟩ T' rfl X'
  exact ⟨t2, st t2 a1, b1⟩
theorem k_astW {k : Fin 4} {a : Addr} {ls' : Array Slot} (hx : p.tables.exec = Jvm.exec) (hb : c.code = cc) (hd : decode cc pc = .ok (.astore_n k, 1)) (e' : storeLocals ls (k : Nat) (.ref a) = some ls') (kk : W p l e R s m args below meth c H locs cells slots Q (F0 m (pc + 1) ls' rest)) : W p l e R s m args below meth c H locs cells slots Q (F0 m pc ls (.ref a :: rest)) := by
  intro T hT X9
  obtain ⟨t, a1, b1⟩ := kk T hT X9
  refine ⟨t, ?_, b1⟩
  jvm_step X9.here [X9.here.top, ↓top_set X9.here.top, hx, hb, hd, Value.isRef, e']
  exact a1
end LWS
theorem i8_blind (b : Nat) (st : Nat → Nat) (D : va_G) (cA : FieldType → ClassId) (sN : Nat) (sX : Nat → Int32) : FrameBlind (i8Pc b st D cA sN sX) := fun a U g mk h => ⟨h.1, mx_SC_same (s := U) (U := U.calling g mk a) rfl h.2.1, over_moved (u := U) (E := U.calling g mk a) (Vm.Alike.refl U.vm) h.2.2.1, h.2.2.2⟩
theorem e_cl7 : Cond.classLink RL 8 RX7 ∈ mx_gW ∧ Cond.classLink RL 16 RX8 ∈ mx_gW := ⟨mx_in (by decide +kernel), mx_in (by decide +kernel)⟩
theorem e_li7 : (Cond.methodLink RL 15 yX7_init ∈ mx_gW ∧ Cond.instanceMethod yX7_init ∈ mx_gW) ∧ Cond.methodLink RL 18 yX8_init ∈ mx_gW ∧ Cond.instanceMethod yX8_init ∈ mx_gW := ⟨⟨mx_in (by decide +kernel), mx_in (by decide +kernel)⟩, mx_in (by decide +kernel), mx_in (by decide +kernel)⟩
/-- the law's out: one long more -/
theorem r_out {p : Program} {l : Launch} {e : Env} {s : State} {m : MethodId} {args : Array Value} {below : List Frame} {meth : Method} {c : Code} {Q : State → Prop} {R : Room} {b L9 : Nat} {st : Nat → Nat} {D : va_G} {cA : FieldType → ClassId} {xs : Nat → Int32} {slots : Nat} {L S : List Value} {M : mx_Mem}
    (hX : mx_OK (lwG s 61 b st D cA L9 xs) (p, l, e, R, s, m, args, below, meth, c, Q, 61, slots) RL cL_law 7) (hM : M.2 61 = fun _ => 0) (hc : 62 ≤ R.cells) (hs : slots + 1 ≤ R.slots)
    (kk : mx_WW (lwG s 62 b st D cA L9 xs) (p, l, e, R, s, m, args, below, meth, c, Q, 62, slots + 1) 19 L (.ref 61 :: S) M) : mx_WW (lwG s 61 b st D cA L9 xs) (p, l, e, R, s, m, args, below, meth, c, Q, 61, slots) 17 L (.int 1 :: S) M := by
  obtain ⟨hx, hb, hml, hown, hts, hSC⟩ := hX
  intro H locs ls hP hS hl T hT X9
  have hP : va_P D mx_cl (mx_ws (lwG s 61 b st D cA L9 xs) M) H := hP
  have h1 : T.heap.size ≤ s.heap.size + 61 := X9.same.2.2.1
  have h2 := (hP 60 _ (mx_ws_at (lwG s 61 b st D cA L9 xs) M (k := 60) (show 60 < 61 by decide))).lt
  have h2 : s.heap.size + 60 < H.size := h2
  rw [hT] at h1
  have hsz : H.size = s.heap.size + 61 := by omega
  refine va_newaK (atype := .long) (g := F0 m 17 ls ((Value.int 1 :: S).map (mx_c (mx_ad (lwG s 61 b st D cA L9 xs))))) (rest := S.map (mx_c (mx_ad (lwG s 61 b st D cA L9 xs)))) (N := 1) hx hb (hts _ ac_long) rfl dL_law_17 rfl (by decide) (by decide) (by decide) hc hs rfl (fun H1 cB e1 z1 o1 hAr hNm => ?_) T hT X9
  have hcB : cA .long = cB := by
    have h3 : s.vm.findClass ("[" ++ FieldType.long.toString) = some (cA .long) := (hSC.1.2 4 _ rfl).2
    exact Option.some.inj (h3.symm.trans hNm)
  subst hcB
  have hP1 : va_P D mx_cl (mx_ws (lwG s 62 b st D cA L9 xs) M) H1 := by
    intro k q hk
    obtain ⟨hk62, rfl⟩ := mx_ws_get hk
    have hk62 : k < 62 := hk62
    by_cases h61 : k < 61
    · have h4 := hP k _ (mx_ws_at (lwG s 61 b st D cA L9 xs) M (k := k) h61)
      exact h4.kept (o1 _ h4.lt)
    · have e61 : k = 61 := by omega
      subst e61
      show H1[s.heap.size + 61]? = some (vp_cell (cA .long) (1, .inr (.inl (M.2 61))))
      rw [← hsz, hM]
      exact e1
  have h9 := kk H1 locs ls hP1 (mk_S hS (by omega) o1) hl
  have e9 : (Value.ref H.size) = mx_c (mx_ad (lwG s 62 b st D cA L9 xs)) (.ref 61) := by rw [hsz]; rfl
  show W p l e R s m args below meth c H1 locs (61 + 1) (slots + 1) Q (F0 m 19 ls (.ref H.size :: S.map (mx_c (mx_ad (lwG s 61 b st D cA L9 xs)))))
  rw [e9]
  exact h9
set_option maxRecDepth 100000 in
set_option maxHeartbeats 8000000 in
theorem whole_start {p : Program} {e : Env} {s : State} {m : MethodId} {below : List Frame} {meth : Method} {c : Code} (l : Launch) {b L : Nat} {xs : Nat → Int32} (hl : l.stackTraces = false) (hL : L ≤ 4096) (C0 : lw_At p s m meth c b L xs) : W p l e room_1 s m #[Value.ref b] below meth c s.heap [] 0 0 (lw_Z below #[Value.ref b] s) (entryFrame m ([Value.ref b] : List Value).toArray 7) := by
  obtain ⟨hx, hb, hr, hml, hown, hts, hX, hbl, hlocks, hgv⟩ := C0
  have hg : ∀ w ∈ mx_gW, w.before #[Value.ref b] s = true := fun w hw => hts w (List.mem_filter.mp hw).1
  have hAO : mk_AO s := over_moved (Vm.Alike.refl s.vm) (hts _ e_AO)
  obtain ⟨st, hst⟩ := e_sts (A := fun q => s.heap.size ≤ q) hts hgv (fun a ha h => absurd h (Nat.not_le.mpr ha))
  obtain ⟨D, hD⟩ := e_D hg
  obtain ⟨cA, q0, q1, q2, q3, q4, q5⟩ := e_cA hg hAO
  have hK : va_K D mx_cl (mx_tys (lwG s 61 b st D cA L xs)) s := ⟨hD, fun k q hk => by
    match k, hk with
    | 0, hk => cases hk; exact q0
    | 1, hk => cases hk; exact q1
    | 2, hk => cases hk; exact q2
    | 3, hk => cases hk; exact q3
    | 4, hk => cases hk; exact q4
    | 5, hk => cases hk; exact q5
    | k + 6, hk => cases hk⟩
  have hSC1 : mx_SC (lwG s 61 b st D cA L xs) s s.heap := e_SC 61 (by decide) (by decide) hts hX hbl hst hK
  have hSC2 : mx_SC (lwG s 62 b st D cA L xs) s s.heap := e_SC 62 (by decide) (by decide) hts hX hbl hst hK
  have hXC : mx_XC (lwG s 62 b st D cA L xs) s s.heap := e_XC hts hgv
  have ho : s.vm.findClass RL = some m.cls := hown
  rw [lg_entry_eq]
  have hl0 : mx_lh (lwG s 61 b st D cA L xs) ((lg_sl ([Value.ref b] : List Value) ++ List.replicate (7 - (lg_sl ([Value.ref b] : List Value)).length) Slot.unset).toArray) [.ref 74, .null, .null, .null, .null, .null, .null] := mx_entry (G := lwG s 61 b st D cA L xs) (av := [.ref 74]) (n := 7) (Nat.le_of_ble_eq_true rfl)
  generalize ((lg_sl ([Value.ref b] : List Value) ++ List.replicate (7 - (lg_sl ([Value.ref b] : List Value)).length) Slot.unset).toArray) = ls at hl0 ⊢
  have loop := lw_loop (e := e) (p := p) (below := below) (c := c) (m := m) (b := b) (meth := meth) (G := lwG s 62 b st D cA L xs) hl rfl hL rfl hr hlocks hXC (fun c9 s9 => ⟨hx, hb, hml, ho, hg, hSC2⟩) 513 0 (X8M M00) 62 71028 rfl RR_00 (by decide) (by decide) (by decide)
  have ph4 : mx_WW (lwG s 62 b st D cA L xs) (p, l, e, room_1, s, m, #[Value.ref b], below, meth, c, lw_Z below #[Value.ref b] s, 62, 71028) 19 [.ref 74, .ref 0, .ref 46, .null, .null, .null, .null] [.ref 61] (X8M M00) := by
    have hX9 : mx_OK (lwG s 62 b st D cA L xs) (p, l, e, room_1, s, m, #[Value.ref b], below, meth, c, lw_Z below #[Value.ref b] s, 62, 71028) RL cL_law 7 := ⟨hx, hb, hml, ho, hg, hSC2⟩
    refine r_astore_n 20 hX9 dL_law_19 rfl ?_
    refine r_iconst (v := nI (8 * 0)) 21 hX9 dL_law_20 (by decide) ?_
    refine r_istore 23 hX9 dL_law_21 rfl ?_
    exact loop
  have hX61 : mx_OK (lwG s 61 b st D cA L xs) (p, l, e, room_1, s, m, #[Value.ref b], below, meth, c, lw_Z below #[Value.ref b] s, 61, 71027) RL cL_law 7 := ⟨hx, hb, hml, ho, hg, hSC1⟩
  have ph3 : mx_WW (lwG s 61 b st D cA L xs) (p, l, e, room_1, s, m, #[Value.ref b], below, meth, c, lw_Z below #[Value.ref b] s, 61, 71027) 15 [.ref 74, .ref 0, .null, .null, .null, .null, .null] [.ref 46] (X8M M00) := by
    refine r_astore_n 16 hX61 dL_law_15 rfl ?_
    refine r_iconst (v := 1) 17 hX61 dL_law_16 rfl ?_
    exact r_out hX61 rfl (show 62 ≤ 601024 by decide) (show 71027 + 1 ≤ 7293034 by decide) ph4
  refine k_newW (base := s.heap.size) (cA := cA) (ws := []) (fs := [.null, .null, .null, .null, .null, .null, .null, .null, .null, .null, .null, .null, .null, .int 0, .int 0]) (A := mx_A (mk_G D cA s.heap.size)) hx hb ho hg dL_law_0 mx_ck7 tyX7_ok ⟨e_cl7.1, inX7.1, inX7.2⟩ (fun ad j hj => dfX7 j hj) hK (Nat.le_refl _) (show 0 + 1 ≤ 601024 by decide) (show 0 + 15 ≤ 7293034 by decide) rfl (fun k q h => by cases h) va_S.rf (fun H1 hP1 hS1 => ?_)
  refine lv_dup hx hb dL_law_3 rfl ?_
  intro T1 hT1 X1
  have hz1 : H1.size = s.heap.size + 1 := mk_size (ws := [.inr (7, [.null, .null, .null, .null, .null, .null, .null, .null, .null, .null, .null, .null, .null, .int 0, .int 0])]) X1 hT1 rfl hP1 (Nat.le_refl _)
  have cb7 : CallB room_1 s #[Value.ref b] RL 15 yX7_init cX7_init 1 none (Cond.code yX7_init cX7_init 1 none :: mx_gW) ({ frames := 2, cells := 45, slots := 1258, locals := 60 } : Room) 45 1258 0 := callB_of 0 hg (mx_good kX7_init.1) rfl rfl rfl (hg _ kX7_init.2.1) (hg _ e_li7.1.1) ⟨kX7_init.2.2.1.1, kX7_init.2.2.1.2, kX7_init.2.2.2⟩ ⟨Nat.le_of_ble_eq_true rfl, Nat.le_of_ble_eq_true rfl⟩
  refine mk_callK (G := mk_G D cA s.heap.size) (rest := [.ref s.heap.size]) (va_runI (g := F0 m 4 ls [.ref s.heap.size, .ref s.heap.size]) (b := s.heap.size) (As := []) ⟨hx, hb, hml, ho, hg⟩ (mX7_init D cA s.heap.size) ⟨cb7, rfl, hg _ e_li7.1.2⟩
    ⟨mk_blind _ _, fun U hU hW => ⟨rfl, va_K.moved hW.alike hK, ⟨by rw [hU]; exact hz1, by rw [hU]; exact hP1⟩, over_moved hW.alike hAO⟩⟩ rfl rfl hl0.1 rfl (lv_room (Nat.le_of_ble_eq_true rfl)) dL_law_4 ⟨(show 1 + 45 ≤ 601024 by decide), (show 15 + 1258 ≤ 7293034 by decide)⟩) hS1 (fun H2 locs2 hP2 hS2 => ?_) T1 hT1 X1
  obtain ⟨ls1, es1, hl1⟩ := mx_store1 (v := .ref 0) (i := 1) hl0 rfl rfl
  refine k_astW (k := 1) (ls' := ls1) hx hb dL_law_7 es1 ?_
  refine k_newW (base := s.heap.size) (cA := cA) (ws := wX7) (fs := [.null, .null, .null, .null, .null, .null, .null, .null, .null, .null, .int 0, .int 0, .int 0, .int 0, .null, .null, .null, .null]) (A := mx_A (mk_G D cA s.heap.size)) hx hb ho hg dL_law_8 mx_ck8 tyX8_ok ⟨e_cl7.2, inX8.1, inX8.2⟩ (fun ad j hj => dfX8 j hj) hK (Nat.le_refl _) (show 46 + 1 ≤ 601024 by decide) (show 1273 + 18 ≤ 7293034 by decide) rfl hP2 hS2 (fun H3 hP3 hS3 => ?_)
  refine lv_dup hx hb dL_law_11 rfl ?_
  intro T3 hT3 X3
  have hz3 : H3.size = s.heap.size + 47 := mk_size (ws := wX7 ++ [fr8]) X3 hT3 rfl hP3 (Nat.le_refl _)
  have cb8 : CallB room_1 s #[Value.ref b] RL 18 yX8_init cX8_init 3 none (Cond.code yX8_init cX8_init 3 none :: mx_gW) ({ frames := 1, cells := 14, slots := 69736, locals := 31 } : Room) 14 69736 0 := callB_of 0 hg (mx_good kX8_init.1) rfl rfl rfl (hg _ kX8_init.2.1) (hg _ e_li7.2.1) ⟨kX8_init.2.2.1.1, kX8_init.2.2.1.2, kX8_init.2.2.2⟩ ⟨Nat.le_of_ble_eq_true rfl, Nat.le_of_ble_eq_true rfl⟩
  refine mx_callK (G := lwG s 61 b st D cA L xs) (rest := [.ref (s.heap.size + 46)]) (va_runI (g := F0 m 12 ls1 [.ref (s.heap.size + 46), .ref (s.heap.size + 46)]) (b := s.heap.size + 46) (As := []) ⟨hx, hb, hml, ho, hg⟩ (tX8_init (l := l) (b := s.heap.size) (st := fun k => if k = 74 then b else st k) (D := D) (cA := cA) (sN := L) (sX := xs)) ⟨cb8, rfl, hg _ e_li7.2.2⟩
    ⟨i8_blind _ _ _ _ _ _, fun U hU hW => ⟨rfl, by rw [hU]; exact mx_SC_warm hW hS3 hSC1, over_moved hW.alike hAO, by rw [hU]; exact hz3, by rw [hU]; exact hP3⟩⟩ rfl rfl hl1.1 rfl (lv_room (Nat.le_of_ble_eq_true rfl)) dL_law_12 ⟨(show 47 + 14 ≤ 601024 by decide), (show 1291 + 69736 ≤ 7293034 by decide)⟩) hS3 (fun r M' H4 locs4 hp hP4 hS4 => ?_) T3 hT3 X3
  obtain ⟨rfl, rfl⟩ := hp
  exact ph3 H4 locs4 ls1 hP4 hS4 hl1

/-! THE CLAIM OUT OF ONE WALK OF THE LAW'S BODY. Your part is whole_start (and what it stands on); all else here is the same for every law, but numbers. -/
def R_law : String := "SixWhoTurnLaw"
def lw_P (b : Addr) (xs : List Int32) (args : Array Value) (s : State) : Prop := args = #[.ref b] ∧ s.IntsAt b xs ∧ xs.length ≤ 4096 ∧ (Jvm.Cond.and given_1 narrow_1).before args s = true
def lw_Q (_ : Array Value) (s : State) (o : Outcome) (t : State) : Prop := o = .returned (some (.int 1)) ∧ Framed s o t [] 601024 7293034
def lw_Z (below : List Frame) (a : Array Value) (s : State) : State → Prop := fun t => ∃ o, t.status = .running ∧ Ended t below o ∧ lw_Q a s o t
/-- the law's own end, with 1 on the stack, nothing written that was there before, its room as the claim has it -/
theorem lw_ret {p : Program} {l : Launch} {e : Env} {s : State} {m : MethodId} {below : List Frame} {meth : Method} {c : Code} {b : Nat} (hx : p.tables.exec = Jvm.exec) (hb : c.code = code) (hr : meth.sig.returnType = ret) (hlocks : meth.locks = false) {pc : Nat} {H : Heap} {ls : Array Slot} (hdg : decode code pc = .ok (.ireturn, 1)) : W p l e room_1 s m #[Value.ref b] below meth c H [] 601024 7293034 (lw_Z below #[Value.ref b] s) (F0 m pc ls [.int 1]) := by
  intro T hT X
  obtain ⟨fs, hret, hrun, hended, hW, hframe⟩ := X.leave (v := some (.int 1)) (hlocks := hlocks) (fun h => by rw [hr] at h; cases h)
  have hmeth' : T.vm.method? m = some meth := X.method'
  refine ⟨T.setFrames fs, ?_, .returned (some (.int 1)), hrun, hended, rfl, ⟨_, rfl⟩, hW, hframe⟩
  jvm_step X.here [X.here.top, hx, hb, hdg, hmeth', hr, ret, narrow_b1]
  (try refine ⟨rfl, ?_⟩); (try refine ⟨rfl, ?_⟩)
  first | (intro acts; rw [hret _ acts rfl rfl rfl]) | rw [hret _ _ rfl rfl rfl]
  exact Steps.refl _
/-- what holds at the law's entry: the machine, the code, the tables' words (any of lw_tbl by 'hts w (by decide +kernel)'), the script of L ints xs at the cell b, what the Statement gives of the start (any of its parts by flat_of_before) -/
def lw_At (p : Program) (s : State) (m : MethodId) (meth : Method) (c : Code) (b L : Nat) (xs : Nat → Int32) : Prop :=
  p.tables.exec = Jvm.exec ∧ c.code = code ∧ meth.sig.returnType = ret ∧ c.maxLocals = 7 ∧ s.vm.findClass R_law = some m.cls ∧ (∀ w ∈ lw_tbl, w.before #[Value.ref b] s = true) ∧ va_X b L xs s s.heap ∧ b < s.heap.size ∧ meth.locks = false ∧ (Jvm.Cond.and given_1 narrow_1).before #[Value.ref b] s = true
/-! the law's loop -/
theorem mx_weak {G : mx_G} {X : mx_X} {pc : Nat} {L L' S : List Value} {M : mx_Mem} (hlen : L.length = L'.length) (h : ∀ (j : Nat) (v : Value), L'[j]? = some v → v ≠ .null → L[j]? = some v) (kk : mx_WW G X pc L' S M) : mx_WW G X pc L S M := by
  obtain ⟨p, l, e, R, s, m, args, below, meth, c, Q, cells, slots⟩ := X
  intro H locs ls hP hS hl
  exact kk H locs ls hP hS ⟨hl.1.trans hlen, hl.2.1, fun j v hj hv => hl.2.2 j v (h j v hj hv) hv⟩
theorem mx_callK {G : mx_G} {p : Program} {l : Launch} {e : Env} {R : Room} {s : State} {m : MethodId} {args a : Array Value} {below : List Frame} {meth : Method} {c : Code} {H : Heap} {locs : List Loc} {cells slots mc ms : Nat} {Q : State → Prop} {pc : Nat} {ls : Array Slot} {st0 rest : List Value} {Post : Option Value → mx_Mem → Prop}
    (hr : va_Run p l e R s m args below meth c H locs cells slots mc ms (F0 m pc ls st0) rest (mx_Qc G Post a) (mx_A G)) (hS : va_S (mx_A G) s.heap H locs)
    (kk : ∀ (r : Option Value) (M' : mx_Mem) (H1 : Heap) (locs1 : List Loc), Post r M' → va_P (mx_D G) mx_cl (mx_ws G M') H1 → va_S (mx_A G) s.heap H1 locs1 → W p l e R s m args below meth c H1 locs1 (cells + mc) (slots + ms) Q (F0 m (pc + 3) ls ((r.map (mx_c (mx_ad G))).toList ++ rest))) :
    W p l e R s m args below meth c H locs cells slots Q (F0 m pc ls st0) := by
  intro T hT X
  obtain ⟨v, st₀, t, T', L, h0, X', hL, e1, e2, ⟨r, M', hv, hp, hP, hz, hk⟩, st⟩ := hr T hT X
  cases hv
  rw [h0] at hz hk
  obtain ⟨t2, a1, b1⟩ := kk r M' T'.heap (locs ++ L) hp (by rw [e1]; exact hP)
    ⟨Nat.le_trans hS.1 (by rw [e1]; exact hz), fun q h1 h2 => by rw [e1, hk q (Nat.lt_of_lt_of_le h1 hS.1) h2]; exact hS.2.1 q h1 h2, fun q hq => by
      rcases List.mem_append.mp hq with h | h
      · exact hS.2.2 q h
      · exact hL q h⟩ T' rfl X'
  exact ⟨t2, st t2 a1, b1⟩
theorem lr_good : GoodIn mx_gW lrW := by
  have key : ∀ w ∈ mx_gW, w ∈ mx_gW ∧ ((w.onTables && w.keeps) = true ∨ ∃ ty, w = .arrayClass ty) := fun w hw => ⟨hw, good_of_word (List.mem_filter.mp hw).2⟩
  intro w hw
  rcases List.mem_cons.mp hw with rfl | hw
  · exact key _ vxw_cw
  · exact key _ hw
theorem lr_ini : Cond.initialized RL ∈ mx_gW := mx_in (by decide +kernel)
theorem lr_sig : (parseMethodDescriptor yL_row.desc).map (fun d => d.parameters.length) = some 3 := by decide +kernel
theorem lr_ne : yL_row.cls ≠ "java/lang/invoke/MethodHandle" ∧ yL_row.cls ≠ "java/lang/invoke/VarHandle" := by decide +kernel
theorem rwC_iff {n : Nat} {M : mx_Mem} (h : RR n M M) (i : Int32) : rwC M i ↔ (i = 0 ∧ M.1 46 12 = 1) := by
  have e1 : M.1 0 13 = M.1 46 12 := h.1.1.1.2.2.2.2.1
  have e2 : isB (M.1 0 13) := h.2.1.2.1.2.2.2.2.2.2
  rw [← e1]
  unfold rwC
  rcases e2 with q | q <;> rw [q]
  · constructor
    · intro h9; exact absurd h9.1 h9.2
    · intro h9; exact absurd h9.2 (by decide)
  · constructor
    · intro h9
      refine ⟨?_, rfl⟩
      have h1 := Int32.le_iff_toInt_le.mp h9.1
      have h2 : ¬ (1 : Int32).toInt ≤ i.toInt := fun q9 => h9.2 (Int32.le_iff_toInt_le.mpr q9)
      apply Int32.toInt_inj.mp
      have e0 : (0 : Int32).toInt = 0 := rfl
      have e9 : (1 : Int32).toInt = 1 := rfl
      omega
    · intro h9
      rw [h9.1]
      exact ⟨by decide, by decide⟩
theorem lw_lw {i r v : Int32} (j : Nat) (w : Value) (hj : (lwL i)[j]? = some w) (hw : w ≠ .null) : ([.ref 74, .ref 0, .ref 46, .ref 61, .int i, .int r, .int v] : List Value)[j]? = some w := by
  rcases j with _ | _ | _ | _ | _ | _ | _ | j
  · exact hj
  · exact hj
  · exact hj
  · exact hj
  · exact hj
  · cases hj; exact absurd rfl hw
  · cases hj; exact absurd rfl hw
  · cases hj
section LWR
variable {p : Program} {l : Launch} {e : Env} {R : Room} {s : State} {m : MethodId} {args : Array Value} {below : List Frame} {meth : Method} {c : Code} {Q : State → Prop} {cells slots : Nat} {G : mx_G} {n : Nat} {M : mx_Mem} {i : Int32}
set_option maxRecDepth 100000 in
set_option maxHeartbeats 4000000 in
theorem lw_c25 (hl : l.stackTraces = false) (hn : mx_n G = 62) (hXC : mx_XC G s s.heap) (hX : mx_OK G (p, l, e, R, s, m, args, below, meth, c, Q, cells, slots) RL cL_law 7) (hRR : R.frames = 10 ∧ R.locals = 374) (hc1 : cells + 1 ≤ R.cells) (hs1 : slots + 6 ≤ R.slots) (hi : lwH G i) (h : RR n M M)
    (kk : ∀ M2, RR (n + 1) M2 M2 → mx_WW G (p, l, e, R, s, m, args, below, meth, c, Q, cells + 1, slots + 6) 1109 (lwL i) [] M2) : mx_WW G (p, l, e, R, s, m, args, below, meth, c, Q, cells, slots) 1053 (lwL i) [] M := by
  obtain ⟨h1, -⟩ := hi
  obtain ⟨hx, hb, hml, hown, hts, hSC⟩ := id hX
  generalize ha : mx_sX G (i + 1).toNatClampNeg = a
  have hX1 : mx_OK G (p, l, e, R, s, m, args, below, meth, c, Q, cells + 1, slots + 6) RL cL_law 7 := hX
  have hR1 : mx_RM (p, l, e, R, s, m, args, below, meth, c, Q, cells + 1, slots + 6) 10 374 := ⟨hRR.1, hRR.2, hc1, hs1⟩
  have after : ∀ r M', lrP M a r M' → mx_WW G (p, l, e, R, s, m, args, below, meth, c, Q, cells + 1, slots + 6) 1064 (lwL i) (r.toList ++ []) M' := by
    generalize (p, l, e, R, s, m, args, below, meth, c, Q, cells + 1, slots + 6) = X at hX1 hR1 kk ⊢
    intro r M' hp
    rcases hp with ⟨hc, rfl, rfl⟩ | ⟨hc, rfl, rfl⟩
    · obtain ⟨q0, q1⟩ := (rwC_iff h a).mp hc
      refine r_istore 1066 hX1 dL_law_1064 rfl ?_
      refine r_aload_n 1067 hX1 dL_law_1066 rfl ?_
      refine r_aload_n 1068 hX1 dL_law_1067 rfl ?_
      refine r_iload 1070 hX1 dL_law_1068 rfl ?_
      refine r_iconst (v := 1) 1071 hX1 dL_law_1070 rfl ?_
      refine r_iadd 1072 hX1 dL_law_1071 ?_
      refine r_sald 1073 hX1 dL_law_1072 h1 ?_
      rw [ha, q0]
      refine r_cV1F 1076 hX1 hR1 (tX8_row_0 (M := mL M 61 0 (M.1 0 14).toInt64) q1) dL_law_1073 kX8_row lL_131 rfl rfl rfl rfl rfl rfl ?_
      refine r_istore 1078 hX1 dL_law_1076 rfl ?_
      refine r_aload_n 1079 hX1 dL_law_1078 rfl ?_
      refine r_cV0F 1082 hX1 hR1 tX8_thrown dL_law_1079 kX8_thrown lL_132 rfl rfl rfl rfl rfl rfl ?_
      refine r_iload 1084 hX1 dL_law_1082 rfl ?_
      refine r_icmp_eq 1087 1089 hX1 dL_law_1084 (fun _ => ?_) (fun c9 => absurd (by rfl) c9)
      refine r_iload 1091 hX1 dL_law_1089 rfl ?_
      refine r_if_ne 1094 1106 hX1 dL_law_1091 (fun c9 => absurd rfl c9) (fun _ => ?_)
      refine r_aload_n 1095 hX1 dL_law_1094 rfl ?_
      refine r_iconst (v := 0) 1096 hX1 dL_law_1095 rfl ?_
      refine r_lald1 1097 hX1 dL_law_1096 (k := 61) (n := 1) rfl (by omega) (vpK rfl) ?_
      refine r_iload 1099 hX1 dL_law_1097 rfl ?_
      refine r_i2l 1100 hX1 dL_law_1099 ?_
      refine r_lcmp 1101 hX1 dL_law_1100 ?_
      have e0 : M.1 0 14 = M.1 46 11 := h.1.1.1.2.2.2.2.2
      have e9 : lg_cmp ((mI (mL M 61 0 (M.1 0 14).toInt64) 46 13 0).2 61 (0 : Int32).toNatClampNeg) (((mL M 61 0 (M.1 0 14).toInt64).1 46 11).toInt64) = 0 := by
        show lg_cmp ((M.1 0 14).toInt64) ((M.1 46 11).toInt64) = 0
        rw [e0]
        exact (lg_cmp_eq _ _).mpr rfl
      refine r_if_eq 1104 1106 hX1 dL_law_1101 (fun _ => ?_) (fun c9 => absurd e9 c9)
      refine r_goto 1109 hX1 dL_law_1106 ?_
      refine mx_weak (L' := lwL i) rfl lw_lw (kk _ ?_)
      exact RR_up (RR_cg h (fun k hk => mR_ne _ _ (by omega)) (fun _ _ _ => ⟨rfl, rfl⟩) (fun _ _ => ⟨rfl, rfl⟩) (fun k hk j _ => mI_ne _ _ _ _ (by omega)) (fun _ _ => rfl) h.2.1.2.1.1.2.1 (fun k hk => mR_ne _ _ (by omega)) (fun j hj => mI_nj _ _ _ (by omega)) (fun _ _ => rfl)) (Nat.le_succ n)
    · have q0 : ¬ (a = 0 ∧ M'.1 46 12 = 1) := fun q => hc ((rwC_iff h a).mpr q)
      refine r_istore 1066 hX1 dL_law_1064 rfl ?_
      refine r_aload_n 1067 hX1 dL_law_1066 rfl ?_
      refine r_aload_n 1068 hX1 dL_law_1067 rfl ?_
      refine r_iload 1070 hX1 dL_law_1068 rfl ?_
      refine r_iconst (v := 1) 1071 hX1 dL_law_1070 rfl ?_
      refine r_iadd 1072 hX1 dL_law_1071 ?_
      refine r_sald 1073 hX1 dL_law_1072 h1 ?_
      rw [ha]
      refine r_cV1F 1076 hX1 hR1 (tX8_row_no q0) dL_law_1073 kX8_row lL_131 rfl rfl rfl rfl rfl rfl ?_
      refine r_istore 1078 hX1 dL_law_1076 rfl ?_
      refine r_aload_n 1079 hX1 dL_law_1078 rfl ?_
      refine r_cV0F 1082 hX1 hR1 tX8_thrown dL_law_1079 kX8_thrown lL_132 rfl rfl rfl rfl rfl rfl ?_
      refine r_iload 1084 hX1 dL_law_1082 rfl ?_
      refine r_icmp_eq 1087 1089 hX1 dL_law_1084 (fun _ => ?_) (fun c9 => absurd (by rfl) c9)
      refine r_iload 1091 hX1 dL_law_1089 rfl ?_
      refine r_if_ne 1094 1106 hX1 dL_law_1091 (fun _ => ?_) (fun c9 => absurd c9 (by decide))
      refine r_goto 1109 hX1 dL_law_1106 ?_
      refine mx_weak (L' := lwL i) rfl lw_lw (kk _ ?_)
      exact RR_up (RR_cg h (fun k hk => (mR_ne _ _ (by omega)).trans (mR_ne _ _ (by omega))) (fun _ _ _ => ⟨rfl, rfl⟩) (fun _ _ => ⟨rfl, rfl⟩) (fun k hk j _ => (mI_ne _ _ _ _ (by omega)).trans (mI_ne _ _ _ _ (by omega))) (fun _ _ => rfl) h.2.1.2.1.1.2.1 (fun k hk => (mR_ne _ _ (by omega)).trans (mR_ne _ _ (by omega))) (fun j hj => (mI_nj _ _ _ (by omega)).trans (mI_nj _ _ _ (by omega))) (fun _ _ => rfl)) (Nat.le_succ n)
  have h61 : mx_WW G (p, l, e, R, s, m, args, below, meth, c, Q, cells, slots) 1061 (lwL i) [.ref 61, .int a, .ref 0] M := by
    intro H locs ls hP hS hl9
    have cw : vx_CSW R s args RL 126 yL_row cL_row 4 (some .int) [(0, 9, 12, 13)] lrW lrR 1 6 3 :=
      ⟨⟨rfl, rfl, by rw [hRR.1]; exact Nat.le_of_ble_eq_true rfl, by rw [hRR.2]; exact Nat.le_of_ble_eq_true rfl, pay_in hts lr_good, List.mem_cons_self⟩, hts _ vxw_cw, hts _ lr_ini, lr_ne, fun sig h9 => by
        have h2 := lr_sig
        rw [h9] at h2
        exact (Option.some.inj h2).symm, hts _ lL_126.1, hts _ lL_126.2⟩
    refine mx_callK (rest := []) (vx_runSW (As := [.ref (mx_ad G 0), .int a, .ref (mx_ad G 61)]) (n := 3) ⟨hx, hb, hml, hown, hts⟩ (tL_row (i := a) (M := M) hl hn) cw
      ⟨mx_XC_blind G _ (mx_blind G _ M), fun U hU hW => ⟨⟨rfl, by rw [hU]; exact mx_SC_warm hW hS hSC, by rw [hU]; exact hP⟩, by rw [hU]; exact mx_XC_warm hW hS hXC⟩⟩ rfl rfl hl9.1 rfl (lv_room (Nat.le_of_ble_eq_true rfl)) dL_law_1061 ⟨hc1, hs1⟩) hS (fun r M' H1 locs1 hp g1 g2 => by
      have := after r M' hp H1 locs1 ls g1 g2 hl9
      rw [mx_tl] at this
      exact this)
  refine r_aload_n 1054 hX dL_law_1053 rfl ?_
  refine r_aload_n 1055 hX dL_law_1054 rfl ?_
  refine r_iload 1057 hX dL_law_1055 rfl ?_
  refine r_iconst (v := 1) 1058 hX dL_law_1057 rfl ?_
  refine r_iadd 1059 hX dL_law_1058 ?_
  refine r_sald 1060 hX dL_law_1059 h1 ?_
  rw [ha]
  refine r_aload_n 1061 hX dL_law_1060 rfl ?_
  exact h61
end LWR

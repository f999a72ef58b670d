/-! row: it returns or throws -/
def mx_E : String := "java/util/NoSuchElementException"
def mx_Es : List String := ["java/lang/RuntimeException", "java/lang/Exception"]
def mx_bad : List Cond := [.declares (Bundle.init0 "java/lang/RuntimeException"), .declares (Bundle.init0 "java/lang/Exception"), .declares (Bundle.init0 Bundle.tN), .castable mx_E mx_E]
theorem vxw_bad : ∀ w ∈ (vx_at0 RX7 286 mx_E mx_Es).filter (fun w => !goodWord w), w ∈ mx_bad := by decide +kernel
theorem vxw_in : ∀ w ∈ (vx_at0 RX7 286 mx_E mx_Es).filter goodWord, w ∈ lw_tbl := by decide +kernel
theorem vxw_ot : ∀ w ∈ Cond.classLink RX7 284 mx_E :: Cond.initialized mx_E :: vx_at0 RX7 286 mx_E mx_Es, vx_ot w = true := by decide +kernel
theorem vxw_1 : Cond.classLink RX7 284 mx_E ∈ mx_gW := mx_in (by decide +kernel)
theorem vxw_2 : Cond.initialized mx_E ∈ mx_gW := mx_in (by decide +kernel)
theorem mx_bad_ot : ∀ w ∈ mx_bad, w.onTables = true := by decide +kernel
/-- what a throw needs of the state -/
def mx_XC (G : mx_G) (U : State) (H : Heap) : Prop := (∀ w ∈ mx_bad, va_Nw w U) ∧ vx_Zq Bundle.tN "UNASSIGNED_STACK" Bundle.steD (mx_A G) U H ∧ vx_Zq Bundle.tN "SUPPRESSED_SENTINEL" Bundle.listD (mx_A G) U H
theorem mx_bad_warm {s U : State} (hW : s.WarmedH U.vm) (h : ∀ w ∈ mx_bad, va_Nw w s) : ∀ w ∈ mx_bad, va_Nw w U := by
  intro w hw
  have h9 := h w hw
  simp only [mx_bad, List.mem_cons, List.not_mem_nil, or_false] at hw
  rcases hw with rfl | rfl | rfl | rfl
  · exact va_Nw.warmD hW h9
  · exact va_Nw.warmD hW h9
  · exact va_Nw.warmD hW h9
  · exact va_Nw.warmC hW h9
theorem mx_XC_warm {G : mx_G} {s U : State} {H : Heap} {locs : List Loc} (hW : s.WarmedH U.vm) (hS : va_S (mx_A G) s.heap H locs) (h : mx_XC G s s.heap) : mx_XC G U H :=
  ⟨mx_bad_warm hW h.1, vx_Zq.moved hW.alike (h.2.1.kept (fun a ha hA => hS.2.1 a ha hA)), vx_Zq.moved hW.alike (h.2.2.kept (fun a ha hA => hS.2.1 a ha hA))⟩
theorem mx_XC_same {G : mx_G} {s U : State} {H : Heap} (hv : s.vm = U.vm) (h : mx_XC G s H) : mx_XC G U H := by
  have ha : s.vm.Alike U.vm := by rw [← hv]; exact Vm.Alike.refl s.vm
  have hW : s.WarmedH U.vm := by rw [← hv]; exact State.WarmedH.refl s
  exact ⟨mx_bad_warm hW h.1, vx_Zq.moved ha h.2.1, vx_Zq.moved ha h.2.2⟩
def rwC (M : mx_Mem) (i : Int32) : Prop := 0 ≤ i ∧ ¬ M.1 0 13 ≤ i
def rwX (G : mx_G) (M : mx_Mem) (i : Int32) : String → State → State → Prop := fun E st t => E = mx_E ∧ ¬ rwC M i ∧ va_P (mx_D G) mx_cl (mx_ws G M) t.heap ∧ va_F (mx_A G) st t
def rwP (M : mx_Mem) (i : Int32) : Option Value → mx_Mem → Prop := fun r M' => rwC M i ∧ r = some (.int (M.1 0 14)) ∧ M' = M
set_option maxRecDepth 100000 in
set_option maxHeartbeats 4000000 in
theorem tX7_rowX {l : Launch} {G : mx_G} {i : Int32} {M : mx_Mem} (hl : l.stackTraces = false) : vx_Met l yX7_row (Cond.code yX7_row cX7_row 2 (some .int) :: mx_gW) ({ frames := 6, cells := 1, slots := 6, locals := 81 } : Room) (fun v U => mx_Pc G [.ref 0, .int i] M v U ∧ mx_XC G U U.heap) (mx_Qc G (rwP M i)) (rwX G M i) 1 6 (mx_A G) := by
  refine vx_ofW (cc := cX7_row) (maxL := 2) (ret := some .int) (by decide +kernel) rfl ?_
  intro p e s m args below meth c s₁ B hml htab hv
  obtain ⟨⟨rfl, hSC, hP0⟩, hXC⟩ := hv
  have hts : ∀ w ∈ Cond.code yX7_row cX7_row 2 (some .int) :: mx_gW, w.before _ s = true := atoms_spec B.pre
  have ho : s.vm.findClass RX7 = some m.cls := findClass_of_methodNamed B.named
  have hg : ∀ w ∈ mx_gW, w.before _ s = true := fun w hw => hts w (List.mem_cons_of_mem _ hw)
  have hlocks := B.notSynchronized
  have hrt := B.returns
  rw [lg_entry_eq]
  have hl0 := mx_entry (G := G) (av := [.ref 0, .int i]) (n := 2) (Nat.le_of_ble_eq_true rfl)
  have hex := B.exec
  have hby := B.bytes
  generalize hR9 : (headSpec (Cond.code yX7_row cX7_row 2 (some .int) :: mx_gW) ({ frames := 6, cells := 1, slots := 6, locals := 81 } : Room)).room = R9
  have eR : R9 = ({ frames := 6, cells := 1, slots := 6, locals := 81 } : Room) := hR9.symm
  have hX : mx_OK G (p, l, e, R9, s, m, (([.ref 0, .int i] : List Value).map (mx_c (mx_ad G))).toArray, below, meth, c, vx_MQ below (mx_Qc G (rwP M i)) (rwX G M i) ((([.ref 0, .int i] : List Value).map (mx_c (mx_ad G))).toArray) s 1 6 (mx_A G), 0, 0) RX7 cX7_row 2 := ⟨hex, hby, hml, ho, hg, hSC⟩
  have hret : rwC M i → mx_WW G (p, l, e, R9, s, m, (([.ref 0, .int i] : List Value).map (mx_c (mx_ad G))).toArray, below, meth, c, vx_MQ below (mx_Qc G (rwP M i)) (rwX G M i) ((([.ref 0, .int i] : List Value).map (mx_c (mx_ad G))).toArray) s 1 6 (mx_A G), 0, 0) 24 [.ref 0, .int i] [.int (M.1 0 14)] M := by
    intro hc H locs ls hP hS hl9
    refine W.widen (k := 1) (n := 6) (by omega) (by omega) ?_
    refine vx_ret ?_
    have hX2 : mx_OK G (p, l, e, R9, s, m, (([.ref 0, .int i] : List Value).map (mx_c (mx_ad G))).toArray, below, meth, c, MQ below (mx_Qc G (rwP M i)) ((([.ref 0, .int i] : List Value).map (mx_c (mx_ad G))).toArray) s 1 6 (mx_A G), 1, 6) RX7 cX7_row 2 := ⟨hex, hby, hml, ho, hg, hSC⟩
    exact r_iret (Post := rwP M i) hX2 ⟨hrt, hlocks, rfl⟩ dX7_row_24 ⟨hc, rfl, rfl⟩ H locs ls hP hS hl9
  have hthr : ¬ rwC M i → mx_WW G (p, l, e, R9, s, m, (([.ref 0, .int i] : List Value).map (mx_c (mx_ad G))).toArray, below, meth, c, vx_MQ below (mx_Qc G (rwP M i)) (rwX G M i) ((([.ref 0, .int i] : List Value).map (mx_c (mx_ad G))).toArray) s 1 6 (mx_A G), 0, 0) 12 [.ref 0, .int i] [] M := by
    intro hc H locs ls hP hS hl9
    refine vx_throw0 (A := mx_A G) (names := mx_Es) (own := RX7) (cls := mx_E) hex hby hl ho (by decide +kernel) (by decide +kernel) (hg _ vxw_1) (hg _ vxw_2) (vx_hat (fun w hw => hg w (List.mem_filter.mpr ⟨vxw_in w hw, (List.mem_filter.mp hw).2⟩)) vxw_bad (fun w hw => va_Nw.use (mx_bad_ot w hw) (hXC.1 w hw))) vxw_ot hXC.2.1 hXC.2.2 hS (by rw [hl9.1, hml]; rfl) dX7_row_12 dX7_row_15 dX7_row_16 dX7_row_19 (fun x hx => (htab x hx).elim) (by rw [eR]; exact Nat.le_of_ble_eq_true rfl) (by rw [eR]; exact Nat.le_of_ble_eq_true rfl) (by rw [eR]; exact Nat.le_of_ble_eq_true rfl) (by rw [eR]; exact Nat.le_of_ble_eq_true rfl) hlocks (fun t _ hz hk => ⟨rfl, hc, hP.kept (fun k x hx => hk x.1 ((hP k x hx).lt)), ⟨Nat.le_trans hS.1 hz, fun q h1 h2 => (hk q (Nat.lt_of_lt_of_le h1 hS.1)).trans (hS.2.1 q h1 h2)⟩⟩) hS.2.2 (by omega) (by omega)
  have key : mx_WW G (p, l, e, R9, s, m, (([.ref 0, .int i] : List Value).map (mx_c (mx_ad G))).toArray, below, meth, c, vx_MQ below (mx_Qc G (rwP M i)) (rwX G M i) ((([.ref 0, .int i] : List Value).map (mx_c (mx_ad G))).toArray) s 1 6 (mx_A G), 0, 0) 0 [.ref 0, .int i] [] M := by
    generalize (p, l, e, R9, s, m, (([.ref 0, .int i] : List Value).map (mx_c (mx_ad G))).toArray, below, meth, c, vx_MQ below (mx_Qc G (rwP M i)) (rwX G M i) ((([.ref 0, .int i] : List Value).map (mx_c (mx_ad G))).toArray) s 1 6 (mx_A G), 0, 0) = X at hX hret hthr ⊢
    refine r_iload_n 1 hX dX7_row_0 rfl ?_
    refine r_If_lt 4 12 hX dX7_row_1 (fun c1 => ?_) (fun c1 => ?_)
    · exact hthr (fun q => by first | exact c1 q.1 | exact q.2 c2)
    · refine r_iload_n 5 hX dX7_row_4 rfl ?_
      refine r_aload_n 6 hX dX7_row_5 rfl ?_
      refine r_getI 9 hX dX7_row_6 fX7_76 rfl rfl rfl ?_
      refine r_Icmp_lt 12 20 hX dX7_row_9 (fun c2 => ?_) (fun c2 => ?_)
      · refine r_aload_n 21 hX dX7_row_20 rfl ?_
        refine r_getI 24 hX dX7_row_21 fX7_80 rfl rfl rfl ?_
        exact hret ⟨c1, c2⟩
      · exact hthr (fun q => by first | exact c1 q.1 | exact q.2 c2)
  exact key s.heap [] _ hP0 va_S.rf hl0

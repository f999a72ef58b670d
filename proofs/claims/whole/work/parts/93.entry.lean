/-! the law's entry: what the tables and the start give -/
def eW (q : Nat × String × String × List Int32) : List Cond := [.arrayOf (.static q.2.1 q.2.2.1 "[I") .int, .eq (.length (.static q.2.1 q.2.2.1 "[I")) (.int (Int32.ofNat q.2.2.2.length))] ++ (List.range q.2.2.2.length).map (fun j => .eq (.elem (.static q.2.1 q.2.2.1 "[I") (.int (Int32.ofNat j))) (.int (q.2.2.2.getD j 0)))
theorem eW_in : ∀ q ∈ mx_stL, ∀ w ∈ eW q, w ∈ flatC (Jvm.Cond.and given_1 narrow_1) := by decide +kernel
theorem eW_tb : ∀ q ∈ mx_stL, Cond.laysStatic q.2.1 q.2.2.1 "[I" ∈ lw_tbl ∧ Cond.initialized q.2.1 ∈ lw_tbl := by decide +kernel
theorem eW_un : ∀ q ∈ mx_stL, ∀ q' ∈ mx_stL, q.1 = q'.1 → q = q' := by decide +kernel
theorem eW_sm : ∀ q ∈ mx_stL, q.2.2.2.length < 2 ^ 31 ∧ ¬ q.1 < 62 ∧ ¬ q.1 = 74 := by decide +kernel
theorem e_st {args : Array Value} {s : State} {A : Nat → Prop} (hts : ∀ w ∈ lw_tbl, w.before args s = true) (hgv : (Jvm.Cond.and given_1 narrow_1).before args s = true) (hA : ∀ a : Nat, a < s.heap.size → ¬ A a) (q : Nat × String × String × List Int32) (hq : q ∈ mx_stL) :
    ∃ a : Nat, va_Z q.2.1 q.2.2.1 "[I" (.ref a) A s s.heap ∧ va_T .int a q.2.2.2.length (mx_stV q.2.2.2) A s s.heap := by
  have hf : ∀ w ∈ eW q, w.before args s = true := fun w hw => flat_of_before _ hgv w (eW_in q hq w hw)
  obtain ⟨t, h1, h2⟩ := va_Tof (tm := .static q.2.1 q.2.2.1 "[I") (ty := .int) (N := q.2.2.2.length) (f := mx_stV q.2.2.2) (eW_sm q hq).1 (hf _ List.mem_cons_self) (va_eqt (hf _ (List.mem_cons_of_mem _ List.mem_cons_self))) (fun j hj => va_eqt (hf _ (List.mem_append_right _ (List.mem_map.mpr ⟨j, List.mem_range.mpr hj, rfl⟩)))) hA
  exact ⟨t, va_Zof (hts _ (eW_tb q hq).1) (hts _ (eW_tb q hq).2) h1 hA, h2⟩
theorem e_sts {args : Array Value} {s : State} {A : Nat → Prop} (hts : ∀ w ∈ lw_tbl, w.before args s = true) (hgv : (Jvm.Cond.and given_1 narrow_1).before args s = true) (hA : ∀ a : Nat, a < s.heap.size → ¬ A a) :
    ∃ st : Nat → Nat, ∀ q ∈ mx_stL, va_Z q.2.1 q.2.2.1 "[I" (.ref (st q.1)) A s s.heap ∧ va_T .int (st q.1) q.2.2.2.length (mx_stV q.2.2.2) A s s.heap := by
  have h : ∀ k : Nat, ∃ a : Nat, ∀ q ∈ mx_stL, q.1 = k → va_Z q.2.1 q.2.2.1 "[I" (.ref a) A s s.heap ∧ va_T .int a q.2.2.2.length (mx_stV q.2.2.2) A s s.heap := by
    intro k
    by_cases h0 : ∃ q, q ∈ mx_stL ∧ q.1 = k
    · obtain ⟨q, hq, rfl⟩ := h0
      obtain ⟨a, ha⟩ := e_st hts hgv hA q hq
      exact ⟨a, fun q' hq' e => by rw [eW_un q' hq' q hq e]; exact ha⟩
    · exact ⟨0, fun q hq e => absurd ⟨q, hq, e⟩ h0⟩
  exact ⟨fun k => (h k).choose, fun q hq => (h q.1).choose_spec q hq rfl⟩
theorem e_D {args : Array Value} {s : State} (hg : ∀ w ∈ mx_gW, w.before args s = true) : ∃ D : va_G, ∀ (c : Nat) (q : vw_C), mx_cl[c]? = some q → u_Kn s q.1 q.2.1 q.2.2 (D.1 c) (D.2 c) := by
  have h : ∀ c : Nat, ∃ z : ClassId × (Nat → Nat), ∀ q : vw_C, mx_cl[c]? = some q → u_Kn s q.1 q.2.1 q.2.2 z.1 z.2 := by
    intro c
    match c with
    | 0 => obtain ⟨a, b, hh⟩ := u_known hg mx_ck0.2.1 (hg _ inX0.1); exact ⟨(a, b), fun q hq => by cases hq; exact hh⟩
    | 1 => obtain ⟨a, b, hh⟩ := u_known hg mx_ck1.2.1 (hg _ inX1.1); exact ⟨(a, b), fun q hq => by cases hq; exact hh⟩
    | 2 => obtain ⟨a, b, hh⟩ := u_known hg mx_ck2.2.1 (hg _ inX2.1); exact ⟨(a, b), fun q hq => by cases hq; exact hh⟩
    | 3 => obtain ⟨a, b, hh⟩ := u_known hg mx_ck3.2.1 (hg _ inX3.1); exact ⟨(a, b), fun q hq => by cases hq; exact hh⟩
    | 4 => obtain ⟨a, b, hh⟩ := u_known hg mx_ck4.2.1 (hg _ inX4.1); exact ⟨(a, b), fun q hq => by cases hq; exact hh⟩
    | 5 => obtain ⟨a, b, hh⟩ := u_known hg mx_ck5.2.1 (hg _ inX5.1); exact ⟨(a, b), fun q hq => by cases hq; exact hh⟩
    | 6 => obtain ⟨a, b, hh⟩ := u_known hg mx_ck6.2.1 (hg _ inX6.1); exact ⟨(a, b), fun q hq => by cases hq; exact hh⟩
    | 7 => obtain ⟨a, b, hh⟩ := u_known hg mx_ck7.2.1 (hg _ inX7.1); exact ⟨(a, b), fun q hq => by cases hq; exact hh⟩
    | 8 => obtain ⟨a, b, hh⟩ := u_known hg mx_ck8.2.1 (hg _ inX8.1); exact ⟨(a, b), fun q hq => by cases hq; exact hh⟩
    | c + 9 => exact ⟨(0, fun _ => 0), fun q hq => by cases hq⟩
  exact ⟨(fun c => (h c).choose.1, fun c => (h c).choose.2), fun c q hq => (h c).choose_spec q hq⟩
theorem e_AO : Cond.arrayOver (.array .int) ∈ lw_tbl := by decide +kernel
theorem e_cA1 {args : Array Value} {s : State} {ty : FieldType} (h : (Cond.arrayClass ty).before args s = true) : ∃ c : ClassId, ArrOfT s c ty ∧ s.vm.findClass ("[" ++ ty.toString) = some c := by
  obtain ⟨c, k, comp, h1, h2, h3⟩ := Cond.arrayClass_spec h
  refine ⟨c, fun n z => ?_, h1⟩
  exact ⟨fun q hq => (by cases hq), k, h2, comp, h3⟩
theorem e_cA {args : Array Value} {s : State} (hg : ∀ w ∈ mx_gW, w.before args s = true) (hAO : mk_AO s) : ∃ cA : FieldType → ClassId, (ArrOfT s (cA .int) .int ∧ va_RA s (cA .int) .int) ∧ (ArrOfT s (cA .boolean) .boolean ∧ va_RA s (cA .boolean) .boolean) ∧ (ArrOfT s (cA .byte) .byte ∧ va_RA s (cA .byte) .byte) ∧ (ArrOfT s (cA .char) .char ∧ va_RA s (cA .char) .char) ∧ (ArrOfT s (cA .long) .long ∧ va_RA s (cA .long) .long) ∧ (ArrOfT s (cA (.array .int)) (.array .int) ∧ va_RA s (cA (.array .int)) (.array .int)) := by
  obtain ⟨c0, h0⟩ := e_cA1 (hg _ ac_int)
  obtain ⟨c1, h1⟩ := e_cA1 (hg _ ac_boolean)
  obtain ⟨c2, h2⟩ := e_cA1 (hg _ ac_byte)
  obtain ⟨c3, h3⟩ := e_cA1 (hg _ ac_char)
  obtain ⟨c4, h4⟩ := e_cA1 (hg _ ac_long)
  obtain ⟨comp, c5, k, -, -, hk, hkind, h5⟩ := arrayOverA_spec hAO
  refine ⟨fun ty => match ty with
    | .int => c0
    | .boolean => c1
    | .byte => c2
    | .char => c3
    | .long => c4
    | _ => c5, h0, h1, h2, h3, h4, fun n z => ⟨fun q hq => (by cases hq), k, hk, comp, hkind⟩, h5⟩
theorem e_nest : ∀ w ∈ mx_nest, w ∈ lw_tbl := by decide +kernel
theorem e_nest_ot : ∀ w ∈ mx_nest, w.onTables = true := by decide +kernel
theorem e_bad : ∀ w ∈ mx_bad, w ∈ lw_tbl := by decide +kernel
theorem e_zq : (Cond.laysStatic Bundle.tN "UNASSIGNED_STACK" Bundle.steD ∈ lw_tbl ∧ Cond.laysStatic Bundle.tN "SUPPRESSED_SENTINEL" Bundle.listD ∈ lw_tbl) ∧ Cond.initialized Bundle.tN ∈ lw_tbl := by decide +kernel
theorem e_zr : Cond.isRef (.static Bundle.tN "UNASSIGNED_STACK" Bundle.steD) ∈ flatC (Jvm.Cond.and given_1 narrow_1) ∧ Cond.isRef (.static Bundle.tN "SUPPRESSED_SENTINEL" Bundle.listD) ∈ flatC (Jvm.Cond.and given_1 narrow_1) := by decide +kernel
/-- the law's world: base, static rows, the script at the cell b -/
abbrev lwG (s : State) (n b : Nat) (st : Nat → Nat) (D : va_G) (cA : FieldType → ClassId) (L : Nat) (xs : Nat → Int32) : mx_G := m0G s.heap.size n (fun k => if k = 74 then b else st k) D cA L xs
theorem e_SC {args : Array Value} {s : State} {b L : Nat} {xs : Nat → Int32} {st : Nat → Nat} {D : va_G} {cA : FieldType → ClassId} (n : Nat) (hn : 61 ≤ n) (hn2 : n ≤ 62) (hts : ∀ w ∈ lw_tbl, w.before args s = true) (hX : va_X b L xs s s.heap) (hbl : b < s.heap.size)
    (hst : ∀ q ∈ mx_stL, va_Z q.2.1 q.2.2.1 "[I" (.ref (st q.1)) (fun q => s.heap.size ≤ q) s s.heap ∧ va_T .int (st q.1) q.2.2.2.length (mx_stV q.2.2.2) (fun q => s.heap.size ≤ q) s s.heap)
    (hK : va_K D mx_cl (mx_tys (lwG s n b st D cA L xs)) s) : mx_SC (lwG s n b st D cA L xs) s s.heap := by
  have had : ∀ i, i < 62 → mx_ad (lwG s n b st D cA L xs) i = s.heap.size + i := fun i hi => if_pos hi
  refine ⟨hK, fun w hw => va_Nw.of (e_nest_ot w hw) (hts _ (e_nest w hw)), fun i j hi hj hij => ?_, fun i hi => ?_, ⟨hn, Nat.le_refl _⟩, fun q hq => ?_, ?_, ?_, ?_⟩
  · have hi : i < n := hi
    have hj : j < n := hj
    rw [had i (by omega), had j (by omega)] at hij
    omega
  · have hi : i < n := hi
    rw [had i (by omega)]
    exact Nat.le_add_right _ _
  · have e : mx_ad (lwG s n b st D cA L xs) q.1 = st q.1 := (if_neg (eW_sm q hq).2.1).trans (if_neg (eW_sm q hq).2.2)
    rw [e]
    exact hst q hq
  · exact hX
  · exact hbl
  · exact fun h => absurd (show s.heap.size ≤ b from h) (by omega)
theorem e_XC {args : Array Value} {s : State} {b L n : Nat} {xs : Nat → Int32} {st : Nat → Nat} {D : va_G} {cA : FieldType → ClassId} (hts : ∀ w ∈ lw_tbl, w.before args s = true) (hgv : (Jvm.Cond.and given_1 narrow_1).before args s = true) : mx_XC (lwG s n b st D cA L xs) s s.heap := by
  have hA : ∀ a : Nat, a < s.heap.size → ¬ mx_A (lwG s n b st D cA L xs) a := fun a ha h => absurd (show s.heap.size ≤ a from h) (by omega)
  exact ⟨fun w hw => va_Nw.of (mx_bad_ot w hw) (hts _ (e_bad w hw)), vx_Zqof (hts _ e_zq.1.1) (hts _ e_zq.2) (flat_of_before _ hgv _ e_zr.1) hA, vx_Zqof (hts _ e_zq.1.2) (hts _ e_zq.2) (flat_of_before _ hgv _ e_zr.2) hA⟩

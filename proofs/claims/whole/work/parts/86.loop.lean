/-! the law's loop, from its head -/
theorem lw_len {N n : Nat} (hN : N ≤ 4096) (hn : n ≤ 512) (h : ¬ Int32.ofNat N - 8 < nI (8 * n)) : 8 * n + 8 ≤ N := by
  have e1 : (nI N - 8).toInt = (N : Int) - 8 := by
    rw [Int32.toInt_sub, nI_toInt (by omega), show (8 : Int32).toInt = 8 from rfl]
    exact Int.bmod_eq_of_le (by omega) (by omega)
  have e2 : (nI (8 * n)).toInt = ((8 * n : Nat) : Int) := nI_toInt (by omega)
  have h2 : ¬ (nI N - 8).toInt < (nI (8 * n)).toInt := fun q => h (Int32.lt_iff_toInt_lt.mpr q)
  rw [e1, e2] at h2
  omega
theorem lw_in {N n j : Nat} (hN : N ≤ 4096) (h : 8 * n + 8 ≤ N) (hj : j < 8) : vp_in (nI (8 * n) + nI j) N := by
  rw [nI_add]
  exact vp_in_nI (by omega) (by omega)
theorem lw_hH {G : mx_G} {n : Nat} (hN : mx_sN G ≤ 4096) (h : 8 * n + 8 ≤ mx_sN G) : lwH G (nI (8 * n)) :=
  ⟨lw_in (j := 1) hN h (by omega), lw_in (j := 2) hN h (by omega), lw_in (j := 3) hN h (by omega), lw_in (j := 4) hN h (by omega), lw_in (j := 5) hN h (by omega), lw_in (j := 6) hN h (by omega), lw_in (j := 7) hN h (by omega)⟩
theorem lw_next (n : Nat) : nI (8 * n) + 8 = nI (8 * (n + 1)) := nI_add (8 * n) 8
set_option maxRecDepth 100000 in
set_option maxHeartbeats 4000000 in
theorem lw_loop {p : Program} {l : Launch} {e : Env} {s : State} {m : MethodId} {below : List Frame} {meth : Method} {c : Code} {b : Nat} {G : mx_G} (hl : l.stackTraces = false) (hn : mx_n G = 62) (hN : mx_sN G ≤ 4096) (hba : mx_base G = s.heap.size) (hr : meth.sig.returnType = ret) (hlocks : meth.locks = false) (hXC : mx_XC G s s.heap)
    (hX : ∀ cells slots, mx_OK G (p, l, e, room_1, s, m, #[Value.ref b], below, meth, c, lw_Z below #[Value.ref b] s, cells, slots) RL cL_law 7) :
    ∀ (k n : Nat) (M : mx_Mem) (cells slots : Nat), n + k = 513 → RR n M M → cells + k ≤ 601024 → slots + 6 * k ≤ 7293034 → n ≤ 512 → mx_WW G (p, l, e, room_1, s, m, #[Value.ref b], below, meth, c, lw_Z below #[Value.ref b] s, cells, slots) 23 (lwL (nI (8 * n))) [] M := by
  intro k
  induction k with
  | zero => intro n M cells slots h1 h2 h3 h4 h5; exact absurd h5 (by omega)
  | succ k ih =>
    intro n M cells slots h1 h2 h3 h4 h5
    have hX9 := hX cells slots
    have hR9 : mx_RM (p, l, e, room_1, s, m, #[Value.ref b], below, meth, c, lw_Z below #[Value.ref b] s, cells, slots) 10 374 := ⟨rfl, rfl, (show cells ≤ 601024 by omega), (show slots ≤ 7293034 by omega)⟩
    refine r_iload 25 hX9 dL_law_23 rfl ?_
    refine r_aload_n 26 hX9 dL_law_25 rfl ?_
    refine r_slen 27 hX9 dL_law_26 ?_
    refine r_bipush (v := 8) 29 hX9 dL_law_27 rfl ?_
    refine r_isub 30 hX9 dL_law_29 ?_
    refine r_icmp_gt 33 1115 hX9 dL_law_30 (fun _ => ?_) (fun c1 => ?_)
    · refine r_iconst (v := 1) 1116 hX9 dL_law_1115 rfl ?_
      intro H locs ls hP hS hl9
      refine va_forget (fun q hq => by rw [← hba]; exact hS.2.2 q hq) ?_
      refine W.widen (k := 601024) (n := 7293034) (by omega) (by omega) ?_
      exact lw_ret hX9.1 hX9.2.1 hr hlocks dL_law_1116
    · have h8 : 8 * n + 8 ≤ mx_sN G := lw_len hN h5 c1
      have hH : lwH G (nI (8 * n)) := lw_hH hN h8
      have ih' : ∀ (M2 : mx_Mem) (c2 s2 : Nat), RR (n + 1) M2 M2 → c2 + k ≤ 601024 → s2 + 6 * k ≤ 7293034 → mx_WW G (p, l, e, room_1, s, m, #[Value.ref b], below, meth, c, lw_Z below #[Value.ref b] s, c2, s2) 1109 (lwL (nI (8 * n))) [] M2 := by
        intro M2 c2 s2 hM hc hs
        have hX8 := hX c2 s2
        refine r_iinc (v := 8) 1112 hX8 dL_law_1109 rfl rfl rfl ?_
        refine r_goto 23 hX8 dL_law_1112 ?_
        have h9 := ih (n + 1) M2 c2 s2 (by omega) hM hc hs (by omega)
        rw [← lw_next] at h9
        exact h9
      refine r_aload_n 34 hX9 dL_law_33 rfl ?_
      refine r_iload 36 hX9 dL_law_34 rfl ?_
      refine r_sald 37 hX9 dL_law_36 (vp_in_nI (by omega) (by omega)) ?_
      refine r_bipush (v := 31) 39 hX9 dL_law_37 rfl ?_
      refine r_iand 40 hX9 dL_law_39 ?_
      generalize mx_sX G (nI (8 * n)).toNatClampNeg &&& 31 = x
      have kk : ∀ M2 : mx_Mem, RR (n + 1) M2 M2 → mx_WW G (p, l, e, room_1, s, m, #[Value.ref b], below, meth, c, lw_Z below #[Value.ref b] s, cells, slots) 1109 (lwL (nI (8 * n))) [] M2 := fun M2 hM => ih' M2 cells slots hM (by omega) (by omega)
      rcases mx_sw x 26 (by decide) with hw | ⟨j, hj, rfl⟩
      · refine r_tableOut 1109 hX9 dL_law_40 (hw.imp id (fun q => by omega)) ?_
        exact kk M (RR_up h2 (Nat.le_succ n))
      · have h1000 : n ≤ 1000 := by omega
        match j, hj with
        | 0, _ =>
          refine r_tableIn 160 hX9 dL_law_40 (off := 120) (by decide) (by decide) (by rfl) ?_
          exact lw_c0 hX9 hR9 hH h1000 h2 kk
        | 1, _ =>
          refine r_tableIn 221 hX9 dL_law_40 (off := 181) (by decide) (by decide) (by rfl) ?_
          exact lw_c1 hX9 hR9 hH h1000 h2 kk
        | 2, _ =>
          refine r_tableIn 258 hX9 dL_law_40 (off := 218) (by decide) (by decide) (by rfl) ?_
          exact lw_c2 hX9 hR9 hH h1000 h2 kk
        | 3, _ =>
          refine r_tableIn 295 hX9 dL_law_40 (off := 255) (by decide) (by decide) (by rfl) ?_
          exact lw_c3 hX9 hR9 hH h1000 h2 kk
        | 4, _ =>
          refine r_tableIn 396 hX9 dL_law_40 (off := 356) (by decide) (by decide) (by rfl) ?_
          exact lw_c4 hX9 hR9 hH h1000 h2 kk
        | 5, _ =>
          refine r_tableIn 421 hX9 dL_law_40 (off := 381) (by decide) (by decide) (by rfl) ?_
          exact lw_c5 hX9 hR9 hH h1000 h2 kk
        | 6, _ =>
          refine r_tableIn 446 hX9 dL_law_40 (off := 406) (by decide) (by decide) (by rfl) ?_
          exact lw_c6 hX9 hR9 hH h1000 h2 kk
        | 7, _ =>
          refine r_tableIn 495 hX9 dL_law_40 (off := 455) (by decide) (by decide) (by rfl) ?_
          exact lw_c7 hX9 hR9 hH h1000 h2 kk
        | 8, _ =>
          refine r_tableIn 544 hX9 dL_law_40 (off := 504) (by decide) (by decide) (by rfl) ?_
          exact lw_c8 hX9 hR9 hH h1000 h2 kk
        | 9, _ =>
          refine r_tableIn 581 hX9 dL_law_40 (off := 541) (by decide) (by decide) (by rfl) ?_
          exact lw_c9 hX9 hR9 hH h1000 h2 kk
        | 10, _ =>
          refine r_tableIn 606 hX9 dL_law_40 (off := 566) (by decide) (by decide) (by rfl) ?_
          exact lw_c10 hX9 hR9 hH h1000 h2 kk
        | 11, _ =>
          refine r_tableIn 631 hX9 dL_law_40 (off := 591) (by decide) (by decide) (by rfl) ?_
          exact lw_c11 hX9 hR9 hH h1000 h2 kk
        | 12, _ =>
          refine r_tableIn 668 hX9 dL_law_40 (off := 628) (by decide) (by decide) (by rfl) ?_
          exact lw_c12 hX9 hR9 hH h1000 h2 kk
        | 13, _ =>
          refine r_tableIn 705 hX9 dL_law_40 (off := 665) (by decide) (by decide) (by rfl) ?_
          exact lw_c13 hX9 hR9 hH h1000 h2 kk
        | 14, _ =>
          refine r_tableIn 730 hX9 dL_law_40 (off := 690) (by decide) (by decide) (by rfl) ?_
          exact lw_c14 hX9 hR9 hH h1000 h2 kk
        | 15, _ =>
          refine r_tableIn 767 hX9 dL_law_40 (off := 727) (by decide) (by decide) (by rfl) ?_
          exact lw_c15 hX9 hR9 hH h1000 h2 kk
        | 16, _ =>
          refine r_tableIn 828 hX9 dL_law_40 (off := 788) (by decide) (by decide) (by rfl) ?_
          exact lw_c16 hX9 hR9 hH h1000 h2 kk
        | 17, _ =>
          refine r_tableIn 853 hX9 dL_law_40 (off := 813) (by decide) (by decide) (by rfl) ?_
          exact lw_c17 hX9 hR9 hH h1000 h2 kk
        | 18, _ =>
          refine r_tableIn 878 hX9 dL_law_40 (off := 838) (by decide) (by decide) (by rfl) ?_
          exact lw_c18 hX9 hR9 hH h1000 h2 kk
        | 19, _ =>
          refine r_tableIn 903 hX9 dL_law_40 (off := 863) (by decide) (by decide) (by rfl) ?_
          exact lw_c19 hX9 hR9 hH h1000 h2 kk
        | 20, _ =>
          refine r_tableIn 916 hX9 dL_law_40 (off := 876) (by decide) (by decide) (by rfl) ?_
          exact lw_c20 hX9 hR9 hH h1000 h2 kk
        | 21, _ =>
          refine r_tableIn 965 hX9 dL_law_40 (off := 925) (by decide) (by decide) (by rfl) ?_
          exact lw_c21 hX9 hR9 hH h1000 h2 kk
        | 22, _ =>
          refine r_tableIn 978 hX9 dL_law_40 (off := 938) (by decide) (by decide) (by rfl) ?_
          exact lw_c22 hX9 hR9 hH h1000 h2 kk
        | 23, _ =>
          refine r_tableIn 991 hX9 dL_law_40 (off := 951) (by decide) (by decide) (by rfl) ?_
          exact lw_c23 hX9 hR9 hH h1000 h2 kk
        | 24, _ =>
          refine r_tableIn 1028 hX9 dL_law_40 (off := 988) (by decide) (by decide) (by rfl) ?_
          exact lw_c24 hX9 hR9 hH h1000 h2 kk
        | 25, _ =>
          refine r_tableIn 1053 hX9 dL_law_40 (off := 1013) (by decide) (by decide) (by rfl) ?_
          exact lw_c25 hl hn hXC hX9 ⟨rfl, rfl⟩ (show cells + 1 ≤ 601024 by omega) (show slots + 6 ≤ 7293034 by omega) hH h2 (fun M2 hM => ih' M2 (cells + 1) (slots + 6) hM (by omega) (by omega))
        | j + 26, hj => exact absurd hj (by omega)

/-! the loops of sheets -/
theorem itl_c (f : Nat → Int32) (p : Int32) : itl f p = 1 ∨ itl f p = 2 ∨ itl f p = 3 := by
  unfold itl
  repeat' split
  all_goals simp
/-- how many signs the item at p has -/
def itn (f : Nat → Int32) (p : Int32) : Nat := (itl f p).toNatClampNeg
theorem itn_e (f : Nat → Int32) (p : Int32) : itl f p = nI (itn f p) ∧ 1 ≤ itn f p ∧ itn f p ≤ 3 := by
  unfold itn
  rcases itl_c f p with h | h | h <;> rw [h] <;> exact ⟨rfl, by decide, by decide⟩
def fft (f : Nat → Int32) (n rd : Nat) : Nat → Nat → Int32
  | 0, _ => 0
  | k + 1, p => if rd ≤ p then (if rd < p ∨ 80 < n then nI rd else -1) else if ¬ flt f (nI p) = -1 ∧ ¬ nI rd ≤ flt f (nI p) then flt f (nI p) else fft f n rd k (p + itn f (nI p))
theorem mx1 (x : Int32) (h : x = 1 ∨ x = 2 ∨ x = 3) : (if (1 : Int32) ≤ x then x else 1) = x := by
  rcases h with rfl | rfl | rfl <;> decide
set_option maxRecDepth 100000 in
set_option maxHeartbeats 4000000 in
theorem tX6_firstFault {l : Launch} {G : mx_G} {n : Nat} {M : mx_Mem} (hn : n ≤ 100) (hc : ∀ j : Nat, j < 100 → isCh (M.1 38 j)) : mx_Met l G yX6_firstFault cX6_firstFault 5 ((some FieldType.int)) 2 44 [.ref 37, .int (nI n)] M (mx_F (some (.int (fft (M.1 38) n (min n 80) 101 0))) M) := by
  refine mx_enter (own := RX6) (L := [.ref 37, .int (nI n), .null, .null, .null]) (by decide +kernel) rfl rfl rfl ?_
  intro X hlX hX hR hT
  have hrd : (if nI n ≤ 80 then nI n else 80) = nI (min n 80) := by
    rw [show (80 : Int32) = nI 80 from rfl]
    by_cases h : n ≤ 80
    · rw [if_pos (nI_le h (by decide)), Nat.min_eq_left h]
    · rw [if_neg (nI_ge (by omega) (by omega)), Nat.min_eq_right (by omega)]
  have hm : min n 80 ≤ 80 := Nat.min_le_right _ _
  generalize min n 80 = rd at hrd hm hT
  generalize hz : fft (M.1 38) n rd 101 0 = z at hT
  have loop : ∀ (k p : Nat) (v4 : Value), rd - p < k → p ≤ 82 → fft (M.1 38) n rd k p = z → mx_WW G X 9 [.ref 37, .int (nI n), .int (nI rd), .int (nI p), v4] [] M := by
    intro k
    induction k with
    | zero => intro p v4 h; omega
    | succ k ih =>
      intro p v4 hk hp hQ
      have hit := itn_e (M.1 38) (nI p)
      rw [fft] at hQ
      refine r_iload_n 10 hX dX6_firstFault_9 rfl ?_
      refine r_iload_n 11 hX dX6_firstFault_10 rfl ?_
      refine r_icmp_ge 14 51 hX dX6_firstFault_11 (fun c1 => ?_) (fun c1 => ?_)
      · refine r_iload_n 52 hX dX6_firstFault_51 rfl ?_
        refine r_iload_n 53 hX dX6_firstFault_52 rfl ?_
        refine r_Icmp_gt 56 62 hX dX6_firstFault_53 (fun c2 => ?_) (fun c2 => ?_)
        · refine r_iload_n 63 hX dX6_firstFault_62 rfl ?_
          refine r_goto 67 hX dX6_firstFault_63 ?_
          refine r_iret hX hT dX6_firstFault_67 ?_
          have hge : rd ≤ p := by
            rcases Nat.lt_or_ge p rd with h | h
            · exact absurd c1 (nI_ge h (by omega))
            · exact h
          rw [if_pos hge] at hQ
          have k1 : nI p ≤ nI rd → ¬ rd < p := fun h h2 => nI_ge h2 (by omega) h
          have k2 : ¬ nI p ≤ nI rd → rd < p := fun h => Nat.lt_of_not_le fun h2 => h (nI_le h2 (by omega))
          have k3 : nI n ≤ 80 → ¬ 80 < n := fun h h2 => (show ¬ nI n ≤ nI 80 from nI_ge h2 (by omega)) h
          have k4 : ¬ nI n ≤ 80 → 80 < n := fun h => Nat.lt_of_not_le fun h2 => h (show nI n ≤ nI 80 from nI_le h2 (by omega))
          first | (rw [if_pos (by first | exact Or.inl (k2 (by assumption)) | exact Or.inr (k4 (by assumption)))] at hQ; exact ⟨by rw [hQ], rfl⟩) | (rw [if_neg (by rintro (h | h); exact k1 (by assumption) h; exact k3 (by assumption) h)] at hQ; exact ⟨by rw [hQ], rfl⟩)
        · refine r_iload_n 57 hX dX6_firstFault_56 rfl ?_
          refine r_bipush 59 hX dX6_firstFault_57 (v := 80) (by decide) ?_
          refine r_icmp_le 62 66 hX dX6_firstFault_59 (fun c3 => ?_) (fun c3 => ?_)
          · refine r_iconst 67 hX dX6_firstFault_66 (v := -1) (by decide) ?_
            refine r_iret hX hT dX6_firstFault_67 ?_
            have hge : rd ≤ p := by
              rcases Nat.lt_or_ge p rd with h | h
              · exact absurd c1 (nI_ge h (by omega))
              · exact h
            rw [if_pos hge] at hQ
            have k1 : nI p ≤ nI rd → ¬ rd < p := fun h h2 => nI_ge h2 (by omega) h
            have k2 : ¬ nI p ≤ nI rd → rd < p := fun h => Nat.lt_of_not_le fun h2 => h (nI_le h2 (by omega))
            have k3 : nI n ≤ 80 → ¬ 80 < n := fun h h2 => (show ¬ nI n ≤ nI 80 from nI_ge h2 (by omega)) h
            have k4 : ¬ nI n ≤ 80 → 80 < n := fun h => Nat.lt_of_not_le fun h2 => h (show nI n ≤ nI 80 from nI_le h2 (by omega))
            first | (rw [if_pos (by first | exact Or.inl (k2 (by assumption)) | exact Or.inr (k4 (by assumption)))] at hQ; exact ⟨by rw [hQ], rfl⟩) | (rw [if_neg (by rintro (h | h); exact k1 (by assumption) h; exact k3 (by assumption) h)] at hQ; exact ⟨by rw [hQ], rfl⟩)
          · refine r_iload_n 63 hX dX6_firstFault_62 rfl ?_
            refine r_goto 67 hX dX6_firstFault_63 ?_
            refine r_iret hX hT dX6_firstFault_67 ?_
            have hge : rd ≤ p := by
              rcases Nat.lt_or_ge p rd with h | h
              · exact absurd c1 (nI_ge h (by omega))
              · exact h
            rw [if_pos hge] at hQ
            have k1 : nI p ≤ nI rd → ¬ rd < p := fun h h2 => nI_ge h2 (by omega) h
            have k2 : ¬ nI p ≤ nI rd → rd < p := fun h => Nat.lt_of_not_le fun h2 => h (nI_le h2 (by omega))
            have k3 : nI n ≤ 80 → ¬ 80 < n := fun h h2 => (show ¬ nI n ≤ nI 80 from nI_ge h2 (by omega)) h
            have k4 : ¬ nI n ≤ 80 → 80 < n := fun h => Nat.lt_of_not_le fun h2 => h (show nI n ≤ nI 80 from nI_le h2 (by omega))
            first | (rw [if_pos (by first | exact Or.inl (k2 (by assumption)) | exact Or.inr (k4 (by assumption)))] at hQ; exact ⟨by rw [hQ], rfl⟩) | (rw [if_neg (by rintro (h | h); exact k1 (by assumption) h; exact k3 (by assumption) h)] at hQ; exact ⟨by rw [hQ], rfl⟩)
      · refine r_aload_n 15 hX dX6_firstFault_14 rfl ?_
        refine r_iload_n 16 hX dX6_firstFault_15 rfl ?_
        refine r_cV1F 19 hX hR (tX6_faultInItem hc) dX6_firstFault_16 kX6_faultInItem lX6_25 rfl rfl rfl rfl rfl rfl ?_
        refine r_istore 21 hX dX6_firstFault_19 rfl ?_
        refine r_iload 23 hX dX6_firstFault_21 rfl ?_
        refine r_iconst 24 hX dX6_firstFault_23 (v := -1) (by decide) ?_
        refine r_icmp_eq 27 36 hX dX6_firstFault_24 (fun c4 => ?_) (fun c4 => ?_)
        · refine r_iload_n 37 hX dX6_firstFault_36 rfl ?_
          refine r_iconst 38 hX dX6_firstFault_37 (v := 1) (by decide) ?_
          refine r_aload_n 39 hX dX6_firstFault_38 rfl ?_
          refine r_iload_n 40 hX dX6_firstFault_39 rfl ?_
          refine r_cV1F 43 hX hR (tX6_itemLength hc) dX6_firstFault_40 kX6_itemLength lX6_29 rfl rfl rfl rfl rfl rfl ?_
          refine r_mmax 46 hX hR dX6_firstFault_43 lX6_32 rfl rfl rfl ?_
          rw [mx1 _ (itl_c _ _)]
          refine r_iadd 47 hX dX6_firstFault_46 ?_
          refine r_istore_n 48 hX dX6_firstFault_47 rfl ?_
          refine r_goto 9 hX dX6_firstFault_48 ?_
          refine (show mx_WW G X 9 [.ref 37, .int (nI n), .int (nI rd), .int (nI p + itl (M.1 38) (nI p)), .int (flt (M.1 38) (nI p))] [] M from ?_)
          have hlt : p < rd := by
            rcases Nat.lt_or_ge p rd with h | h
            · exact h
            · exact absurd (nI_le h (by omega)) c1
          rw [if_neg (by omega), if_neg (by first | exact fun h => h.1 (by assumption) | exact fun h => h.2 (by assumption))] at hQ
          rw [hit.1, nI_add]
          exact ih (p + itn (M.1 38) (nI p)) _ (by omega) (by omega) hQ
        · refine r_iload 29 hX dX6_firstFault_27 rfl ?_
          refine r_iload_n 30 hX dX6_firstFault_29 rfl ?_
          refine r_icmp_ge 33 36 hX dX6_firstFault_30 (fun c5 => ?_) (fun c5 => ?_)
          · refine r_iload_n 37 hX dX6_firstFault_36 rfl ?_
            refine r_iconst 38 hX dX6_firstFault_37 (v := 1) (by decide) ?_
            refine r_aload_n 39 hX dX6_firstFault_38 rfl ?_
            refine r_iload_n 40 hX dX6_firstFault_39 rfl ?_
            refine r_cV1F 43 hX hR (tX6_itemLength hc) dX6_firstFault_40 kX6_itemLength lX6_29 rfl rfl rfl rfl rfl rfl ?_
            refine r_mmax 46 hX hR dX6_firstFault_43 lX6_32 rfl rfl rfl ?_
            rw [mx1 _ (itl_c _ _)]
            refine r_iadd 47 hX dX6_firstFault_46 ?_
            refine r_istore_n 48 hX dX6_firstFault_47 rfl ?_
            refine r_goto 9 hX dX6_firstFault_48 ?_
            refine (show mx_WW G X 9 [.ref 37, .int (nI n), .int (nI rd), .int (nI p + itl (M.1 38) (nI p)), .int (flt (M.1 38) (nI p))] [] M from ?_)
            have hlt : p < rd := by
              rcases Nat.lt_or_ge p rd with h | h
              · exact h
              · exact absurd (nI_le h (by omega)) c1
            rw [if_neg (by omega), if_neg (by first | exact fun h => h.1 (by assumption) | exact fun h => h.2 (by assumption))] at hQ
            rw [hit.1, nI_add]
            exact ih (p + itn (M.1 38) (nI p)) _ (by omega) (by omega) hQ
          · refine r_iload 35 hX dX6_firstFault_33 rfl ?_
            refine r_iret hX hT dX6_firstFault_35 ?_
            have hlt : p < rd := by
              rcases Nat.lt_or_ge p rd with h | h
              · exact h
              · exact absurd (nI_le h (by omega)) c1
            rw [if_neg (by omega), if_pos ⟨by assumption, by assumption⟩] at hQ
            exact ⟨by rw [hQ], rfl⟩
  refine r_iload_n 1 hX dX6_firstFault_0 rfl ?_
  refine r_bipush 3 hX dX6_firstFault_1 (v := 80) (by decide) ?_
  refine r_mmin 6 hX hR dX6_firstFault_3 lX6_19 rfl rfl rfl ?_
  rw [hrd]
  refine r_istore_n 7 hX dX6_firstFault_6 rfl ?_
  refine r_iconst 8 hX dX6_firstFault_7 (v := 0) (by decide) ?_
  refine r_istore_n 9 hX dX6_firstFault_8 rfl ?_
  exact loop 101 0 _ (by omega) (by omega) hz
theorem CI_sv {M : mx_Mem} (h : CI M) : CI (svM M) := by
  obtain ⟨⟨a1, a2, a3⟩, ⟨a4, a5, a6⟩, a7, a8⟩ := h
  have e : ∀ k : Nat, (k < 20 ∨ 30 < k) → (svM M).1 k = M.1 k := fun k hk => by
    unfold svM
    rw [mCp7_ne _ (by omega), mCo_ne _ (by omega), mCo_ne _ (by omega)]
  have e1 : (svM M).1 30 1 = M.1 19 1 := by
    have h9 : (svM M).1 30 1 = (mCo (mCo M 20 9) 25 14).1 19 1 := by simp [svM, mCp7, mI_ap]
    rw [h9, mCo_ne _ (by decide), mCo_ne _ (by decide)]
  have e2 : (svM M).1 20 6 = M.1 9 6 := by
    unfold svM
    rw [mCp7_ne _ (by decide), mCo_ne _ (by decide)]
    simp [mCo, mI_ap]
  have e3 : (svM M).1 25 6 = M.1 14 6 := by
    have h9 : (mCo (mCo M 20 9) 25 14).1 25 6 = (mCo M 20 9).1 14 6 := by
      generalize mCo M 20 9 = N
      simp [mCo, mI_ap]
    unfold svM
    rw [mCp7_ne _ (by decide), h9, mCo_ne _ (by decide)]
  refine ⟨⟨?_, ?_, ?_⟩, ⟨?_, ?_, ?_⟩, fun j hj => ?_, fun k hk => ?_⟩
  · rw [e _ (by decide)]; exact a1
  · rw [e _ (by decide)]; exact a2
  · rw [e _ (by decide)]; exact a3
  · rw [e1]; exact a1
  · rw [e2]; exact a2
  · rw [e3]; exact a3
  · rw [e _ (by decide)]; exact a7 j hj
  · rw [e _ (by decide), e _ (by decide)]; exact a8 k hk
def diL (n : Nat) : Nat → mx_Mem → Nat → Nat → Int32 × mx_Mem
  | 0, M, _, k => (nI k, M)
  | f + 1, M, p, k => if n ≤ p then (nI k, M) else if diR M (nI p) = -1 then (-1001 - nI p, rsM (diM M (nI p))) else diL n f (diM M (nI p)) (p + itn ((diM M (nI p)).1 38) (nI p)) (k + 1)
set_option maxRecDepth 100000 in
set_option maxHeartbeats 4000000 in
theorem tX7_doItems {l : Launch} {G : mx_G} {n : Nat} {M : mx_Mem} (hn : n ≤ 100) (hI : CI M) : mx_Met l G yX7_doItems cX7_doItems 4 ((some FieldType.int)) 5 115 [.ref 0, .int (nI n)] M (mx_F (some (.int (diL n 101 (svM M) 0 0).1)) (diL n 101 (svM M) 0 0).2) := by
  refine mx_enter (own := RX7) (L := [.ref 0, .int (nI n), .null, .null]) (by decide +kernel) rfl rfl rfl ?_
  intro X hlX hX hR hT
  have hI2 := CI_sv hI
  generalize hz : diL n 101 (svM M) 0 0 = z at hT
  have loop : ∀ (f : Nat) (N : mx_Mem) (p k : Nat), n - p < f → p ≤ 103 → CI N → diL n f N p k = z → mx_WW G X 8 [.ref 0, .int (nI n), .int (nI k), .int (nI p)] [] N := by
    intro f
    induction f with
    | zero => intro N p k h; omega
    | succ f ih =>
      intro N p k hk hp hJ hQ
      have hJ2 := CI_di (nI p) hJ
      have hit := itn_e ((diM N (nI p)).1 38) (nI p)
      rw [diL] at hQ
      refine r_iload_n 9 hX dX7_doItems_8 rfl ?_
      refine r_iload_n 10 hX dX7_doItems_9 rfl ?_
      refine r_icmp_ge 13 53 hX dX7_doItems_10 (fun c1 => ?_) (fun c1 => ?_)
      · refine r_iload_n 54 hX dX7_doItems_53 rfl ?_
        refine r_iret hX hT dX7_doItems_54 ?_
        have hge : n ≤ p := by
          rcases Nat.lt_or_ge p n with h | h
          · exact absurd c1 (nI_ge h (by omega))
          · exact h
        rw [if_pos hge] at hQ
        exact ⟨by rw [← hQ], by rw [← hQ]⟩
      · refine r_aload_n 14 hX dX7_doItems_13 rfl ?_
        refine r_iload_n 15 hX dX7_doItems_14 rfl ?_
        refine r_cV1F 18 hX hR (tX7_doItem hJ) dX7_doItems_15 kX7_doItem lX7_306 rfl rfl rfl rfl rfl rfl ?_
        refine r_iconst 19 hX dX7_doItems_18 (v := -1) (by decide) ?_
        refine r_icmp_ne 22 32 hX dX7_doItems_19 (fun c2 => ?_) (fun c2 => ?_)
        · refine r_iinc 35 hX dX7_doItems_32 rfl (v := 1) (by decide) rfl ?_
          refine r_iload_n 36 hX dX7_doItems_35 rfl ?_
          refine r_iconst 37 hX dX7_doItems_36 (v := 1) (by decide) ?_
          refine r_aload_n 38 hX dX7_doItems_37 rfl ?_
          refine r_getR 41 hX dX7_doItems_38 fX7_65 rfl rfl rfl ?_
          refine r_iload_n 42 hX dX7_doItems_41 rfl ?_
          refine r_cV1F 45 hX hR (tX6_itemLength hJ2.2.2.1) dX7_doItems_42 kX6_itemLength lX7_312 rfl rfl rfl rfl rfl rfl ?_
          refine r_mmax 48 hX hR dX7_doItems_45 lX7_315 rfl rfl rfl ?_
          rw [mx1 _ (itl_c _ _)]
          refine r_iadd 49 hX dX7_doItems_48 ?_
          refine r_istore_n 50 hX dX7_doItems_49 rfl ?_
          refine r_goto 8 hX dX7_doItems_50 ?_
          refine (show mx_WW G X 8 [.ref 0, .int (nI n), .int (nI k + 1), .int (nI p + itl ((diM N (nI p)).1 38) (nI p))] [] (diM N (nI p)) from ?_)
          have hlt : p < n := by
            rcases Nat.lt_or_ge p n with h | h
            · exact h
            · exact absurd (nI_le h (by omega)) c1
          rw [if_neg (by omega), if_neg c2] at hQ
          rw [hit.1, nI_add, nI_1]
          exact ih _ (p + itn ((diM N (nI p)).1 38) (nI p)) (k + 1) (by omega) (by omega) hJ2 hQ
        · refine r_aload_n 23 hX dX7_doItems_22 rfl ?_
          refine r_cV0U 26 hX hR (tX7_restoreMatch hJ2.2.1.2.1 hJ2.2.1.2.2 hJ2.2.1.1) dX7_doItems_23 kX7_restoreMatch lX7_309 rfl rfl rfl rfl rfl rfl ?_
          refine r_sipush 29 hX dX7_doItems_26 (v := -1001) (by decide) ?_
          refine r_iload_n 30 hX dX7_doItems_29 rfl ?_
          refine r_isub 31 hX dX7_doItems_30 ?_
          refine r_iret hX hT dX7_doItems_31 ?_
          have hlt : p < n := by
            rcases Nat.lt_or_ge p n with h | h
            · exact h
            · exact absurd (nI_le h (by omega)) c1
          rw [if_neg (by omega), if_pos c2] at hQ
          exact ⟨by rw [← hQ], by rw [← hQ]⟩
  refine r_aload_n 1 hX dX7_doItems_0 rfl ?_
  refine r_cV0U 4 hX hR (tX7_saveMatch hI.1.2.1 hI.1.2.2 hI.1.1) dX7_doItems_1 kX7_saveMatch lX7_303 rfl rfl rfl rfl rfl rfl ?_
  refine r_iconst 5 hX dX7_doItems_4 (v := 0) (by decide) ?_
  refine r_istore_n 6 hX dX7_doItems_5 rfl ?_
  refine r_iconst 7 hX dX7_doItems_6 (v := 0) (by decide) ?_
  refine r_istore_n 8 hX dX7_doItems_7 rfl ?_
  exact loop 101 (svM M) 0 0 (by omega) (by omega) hI2 hz
theorem CI_len {M : mx_Mem} (v : Int32) (h : CI M) : CI (mI M 37 1 v) := CI_w h (by decide) (by omega) (by omega)
def shF (M : mx_Mem) (n : Nat) : Int32 := fft (M.1 38) n (min n 80) 101 0
set_option maxRecDepth 100000 in
set_option maxHeartbeats 4000000 in
theorem tX7_sheet {l : Launch} {G : mx_G} {n : Nat} {M : mx_Mem} (hn : n ≤ 100) (hl : M.1 37 1 = nI n) (hI : CI M) : mx_Met l G yX7_sheet cX7_sheet 3 ((some FieldType.int)) 6 138 [.ref 0] M (mx_F (some (.int (if M.1 19 1 = 0 then -100 else if shF M n = -1 then (diL n 101 (svM (mI M 37 1 0)) 0 0).1 else -1 - shF M n))) (if M.1 19 1 = 0 then mI M 37 1 0 else if shF M n = -1 then (diL n 101 (svM (mI M 37 1 0)) 0 0).2 else mI M 37 1 0)) := by
  refine mx_enter (own := RX7) (L := [.ref 0, .null, .null]) (by decide +kernel) rfl rfl rfl ?_
  intro X hlX hX hR hT
  have hJ := CI_len 0 hI
  refine r_aload_n 1 hX dX7_sheet_0 rfl ?_
  refine r_getR 4 hX dX7_sheet_1 fX7_65 rfl rfl rfl ?_
  refine r_getI 7 hX dX7_sheet_4 fX7_220 rfl rfl rfl ?_
  rw [hl]
  refine r_istore_n 8 hX dX7_sheet_7 rfl ?_
  refine r_aload_n 9 hX dX7_sheet_8 rfl ?_
  refine r_getR 12 hX dX7_sheet_9 fX7_65 rfl rfl rfl ?_
  refine r_iconst 13 hX dX7_sheet_12 (v := 0) (by decide) ?_
  refine r_putI 16 hX dX7_sheet_13 fX7_220 fp6_1 rfl rfl rfl ?_
  refine r_aload_n 17 hX dX7_sheet_16 rfl ?_
  refine r_getR 20 hX dX7_sheet_17 fX7_39 rfl rfl rfl ?_
  refine r_getI 23 hX dX7_sheet_20 fX7_102 rfl rfl rfl ?_
  refine r_if_ne 26 29 hX dX7_sheet_23 (fun c1 => ?_) (fun c1 => ?_)
  · refine r_aload_n 30 hX dX7_sheet_29 rfl ?_
    refine r_getR 33 hX dX7_sheet_30 fX7_65 rfl rfl rfl ?_
    refine r_iload_n 34 hX dX7_sheet_33 rfl ?_
    refine r_cV1F 37 hX hR (tX6_firstFault hn hJ.2.2.1) dX7_sheet_34 kX6_firstFault lX7_245 rfl rfl rfl rfl rfl rfl ?_
    refine r_istore_n 38 hX dX7_sheet_37 rfl ?_
    refine r_iload_n 39 hX dX7_sheet_38 rfl ?_
    refine r_iconst 40 hX dX7_sheet_39 (v := -1) (by decide) ?_
    refine r_icmp_eq 43 47 hX dX7_sheet_40 (fun c2 => ?_) (fun c2 => ?_)
    · refine r_aload_n 48 hX dX7_sheet_47 rfl ?_
      refine r_iload_n 49 hX dX7_sheet_48 rfl ?_
      refine r_cV1F 52 hX hR (tX7_doItems hn hJ) dX7_sheet_49 kX7_doItems lX7_248 rfl rfl rfl rfl rfl rfl ?_
      refine r_iret hX hT dX7_sheet_52 ?_
      have c1' : ¬ M.1 19 1 = 0 := c1
      have c2' : shF M n = -1 := c2
      rw [if_neg c1', if_neg c1', if_pos c2', if_pos c2']
      exact ⟨rfl, rfl⟩
    · refine r_iconst 44 hX dX7_sheet_43 (v := -1) (by decide) ?_
      refine r_iload_n 45 hX dX7_sheet_44 rfl ?_
      refine r_isub 46 hX dX7_sheet_45 ?_
      refine r_iret hX hT dX7_sheet_46 ?_
      have c1' : ¬ M.1 19 1 = 0 := c1
      have c2' : ¬ shF M n = -1 := c2
      rw [if_neg c1', if_neg c1', if_neg c2', if_neg c2']
      exact ⟨rfl, rfl⟩
  · refine r_bipush 28 hX dX7_sheet_26 (v := -100) (by decide) ?_
    refine r_iret hX hT dX7_sheet_28 ?_
    have c1' : M.1 19 1 = 0 := c1
    rw [if_pos c1', if_pos c1']
    exact ⟨rfl, rfl⟩

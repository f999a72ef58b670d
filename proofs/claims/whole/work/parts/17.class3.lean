/-! Court: changes, FREE -/
theorem plc_in (f : Nat → Int32) (p : Int32) (h : ¬ plc f p = -1) : vp_in (plc f p) 6 := by
  unfold plc at h ⊢
  repeat' split
  all_goals first | exact vpK rfl | skip
  simp_all
def exN (M : mx_Mem) (c : Nat) (a b : Int32) : mx_Mem := if M.1 (c + 2) a.toNatClampNeg = 1 then mI (mI (mI M (c + 2) a.toNatClampNeg 2) (c + 2) b.toNatClampNeg 3) (c + 3) b.toNatClampNeg a else mI (mI M (c + 2) a.toNatClampNeg 4) (c + 2) b.toNatClampNeg 4
def exM (M : mx_Mem) (c : Nat) (a b : Int32) : mx_Mem := mI (mI (exN M c a b) (c + 1) (plc (M.1 (c + 1)) a).toNatClampNeg b) c 9 (M.1 c 9 + 1)
def fon (M : mx_Mem) (c : Nat) (p : Int32) : Prop := M.1 c 5 = -1 ∧ (plc (M.1 (c + 1)) p = 4 ∨ plc (M.1 (c + 1)) p = 5)
set_option maxRecDepth 100000 in
set_option maxHeartbeats 4000000 in
theorem tX2_exchange_9 {l : Launch} {G : mx_G} {a b : Int32} {M : mx_Mem} (h1 : ¬ plc (M.1 10) a = -1) (h2 : arP M 9 a b = 1) (ha : isP a) (hb : isP b) : mx_Met l G yX2_exchange cX2_exchange 4 ((some FieldType.int)) 2 42 [.ref 9, .int a, .int b] M (mx_F (some (.int (plc (M.1 10) a))) (exM M 9 a b)) := by
  refine mx_enter (own := RX2) (L := [.ref 9, .int a, .int b, .null]) (by decide +kernel) rfl rfl rfl ?_
  intro X hlX hX hR hT
  have hi := plc_in _ _ h1
  refine r_aload_n 1 hX dX2_exchange_0 rfl ?_
  refine r_iload_n 2 hX dX2_exchange_1 rfl ?_
  refine r_cV1F 5 hX hR tX2_placeOf_9 dX2_exchange_2 kX2_placeOf lX2_66 rfl rfl rfl rfl rfl rfl ?_
  refine r_istore_n 6 hX dX2_exchange_5 rfl ?_
  refine r_iload_n 7 hX dX2_exchange_6 rfl ?_
  refine r_iconst 8 hX dX2_exchange_7 (v := -1) (by decide) ?_
  refine r_icmp_eq 11 20 hX dX2_exchange_8 (fun c1 => absurd c1 h1) (fun c1 => ?_)
  refine r_aload_n 12 hX dX2_exchange_11 rfl ?_
  refine r_iload_n 13 hX dX2_exchange_12 rfl ?_
  refine r_iload_n 14 hX dX2_exchange_13 rfl ?_
  refine r_cV2F 17 hX hR tX2_arePair_9 dX2_exchange_14 kX2_arePair lX2_70 rfl rfl rfl rfl rfl rfl ?_
  refine r_Bne 20 22 hX dX2_exchange_17 (fun c2 => ?_) (fun c2 => absurd h2 c2)
  refine r_aload_n 23 hX dX2_exchange_22 rfl ?_
  refine r_getR 26 hX dX2_exchange_23 fX2_15 rfl rfl rfl ?_
  refine r_iload_n 27 hX dX2_exchange_26 rfl ?_
  refine r_iald 28 hX dX2_exchange_27 rfl rfl (by first | assumption | exact vpK rfl | exact vpP (by assumption) | exact vp6 (by assumption) (by assumption) | exact vp12 (by assumption) (by assumption) | exact vp48 (by assumption) (by assumption) | exact vp100 (by assumption) (by assumption)) ?_
  refine r_iconst 29 hX dX2_exchange_28 (v := 1) (by decide) ?_
  refine r_icmp_ne 32 56 hX dX2_exchange_29 (fun c3 => ?_) (fun c3 => ?_)
  · refine r_aload_n 57 hX dX2_exchange_56 rfl ?_
    refine r_getR 60 hX dX2_exchange_57 fX2_15 rfl rfl rfl ?_
    refine r_iload_n 61 hX dX2_exchange_60 rfl ?_
    refine r_iconst 62 hX dX2_exchange_61 (v := 4) (by decide) ?_
    refine r_iast 63 hX dX2_exchange_62 rfl rfl (by first | assumption | exact vpK rfl | exact vpP (by assumption) | exact vp6 (by assumption) (by assumption) | exact vp12 (by assumption) (by assumption) | exact vp48 (by assumption) (by assumption) | exact vp100 (by assumption) (by assumption)) ?_
    refine r_aload_n 64 hX dX2_exchange_63 rfl ?_
    refine r_getR 67 hX dX2_exchange_64 fX2_15 rfl rfl rfl ?_
    refine r_iload_n 68 hX dX2_exchange_67 rfl ?_
    refine r_iconst 69 hX dX2_exchange_68 (v := 4) (by decide) ?_
    refine r_iast 70 hX dX2_exchange_69 rfl rfl (by first | assumption | exact vpK rfl | exact vpP (by assumption) | exact vp6 (by assumption) (by assumption) | exact vp12 (by assumption) (by assumption) | exact vp48 (by assumption) (by assumption) | exact vp100 (by assumption) (by assumption)) ?_
    refine r_aload_n 71 hX dX2_exchange_70 rfl ?_
    refine r_getR 74 hX dX2_exchange_71 fX2_9 rfl rfl rfl ?_
    refine r_iload_n 75 hX dX2_exchange_74 rfl ?_
    refine r_iload_n 76 hX dX2_exchange_75 rfl ?_
    refine r_iast 77 hX dX2_exchange_76 rfl rfl (by first | assumption | exact vpK rfl | exact vpP (by assumption) | exact vp6 (by assumption) (by assumption) | exact vp12 (by assumption) (by assumption) | exact vp48 (by assumption) (by assumption) | exact vp100 (by assumption) (by assumption)) ?_
    refine r_aload_n 78 hX dX2_exchange_77 rfl ?_
    refine r_dup 79 hX dX2_exchange_78 rfl ?_
    refine r_getI 82 hX dX2_exchange_79 fX2_41 rfl rfl rfl ?_
    refine r_iconst 83 hX dX2_exchange_82 (v := 1) (by decide) ?_
    refine r_iadd 84 hX dX2_exchange_83 ?_
    refine r_putI 87 hX dX2_exchange_84 fX2_41 fp2_9 rfl rfl rfl ?_
    refine r_iload_n 88 hX dX2_exchange_87 rfl ?_
    refine r_iret hX hT dX2_exchange_88 ?_
    refine ⟨rfl, ?_⟩
    unfold exM exN
    first | (rw [if_pos (by assumption)]; rfl) | (rw [if_neg (by assumption)]; rfl)
  · refine r_aload_n 33 hX dX2_exchange_32 rfl ?_
    refine r_getR 36 hX dX2_exchange_33 fX2_15 rfl rfl rfl ?_
    refine r_iload_n 37 hX dX2_exchange_36 rfl ?_
    refine r_iconst 38 hX dX2_exchange_37 (v := 2) (by decide) ?_
    refine r_iast 39 hX dX2_exchange_38 rfl rfl (by first | assumption | exact vpK rfl | exact vpP (by assumption) | exact vp6 (by assumption) (by assumption) | exact vp12 (by assumption) (by assumption) | exact vp48 (by assumption) (by assumption) | exact vp100 (by assumption) (by assumption)) ?_
    refine r_aload_n 40 hX dX2_exchange_39 rfl ?_
    refine r_getR 43 hX dX2_exchange_40 fX2_15 rfl rfl rfl ?_
    refine r_iload_n 44 hX dX2_exchange_43 rfl ?_
    refine r_iconst 45 hX dX2_exchange_44 (v := 3) (by decide) ?_
    refine r_iast 46 hX dX2_exchange_45 rfl rfl (by first | assumption | exact vpK rfl | exact vpP (by assumption) | exact vp6 (by assumption) (by assumption) | exact vp12 (by assumption) (by assumption) | exact vp48 (by assumption) (by assumption) | exact vp100 (by assumption) (by assumption)) ?_
    refine r_aload_n 47 hX dX2_exchange_46 rfl ?_
    refine r_getR 50 hX dX2_exchange_47 fX2_18 rfl rfl rfl ?_
    refine r_iload_n 51 hX dX2_exchange_50 rfl ?_
    refine r_iload_n 52 hX dX2_exchange_51 rfl ?_
    refine r_iast 53 hX dX2_exchange_52 rfl rfl (by first | assumption | exact vpK rfl | exact vpP (by assumption) | exact vp6 (by assumption) (by assumption) | exact vp12 (by assumption) (by assumption) | exact vp48 (by assumption) (by assumption) | exact vp100 (by assumption) (by assumption)) ?_
    refine r_goto 70 hX dX2_exchange_53 ?_
    refine r_aload_n 71 hX dX2_exchange_70 rfl ?_
    refine r_getR 74 hX dX2_exchange_71 fX2_9 rfl rfl rfl ?_
    refine r_iload_n 75 hX dX2_exchange_74 rfl ?_
    refine r_iload_n 76 hX dX2_exchange_75 rfl ?_
    refine r_iast 77 hX dX2_exchange_76 rfl rfl (by first | assumption | exact vpK rfl | exact vpP (by assumption) | exact vp6 (by assumption) (by assumption) | exact vp12 (by assumption) (by assumption) | exact vp48 (by assumption) (by assumption) | exact vp100 (by assumption) (by assumption)) ?_
    refine r_aload_n 78 hX dX2_exchange_77 rfl ?_
    refine r_dup 79 hX dX2_exchange_78 rfl ?_
    refine r_getI 82 hX dX2_exchange_79 fX2_41 rfl rfl rfl ?_
    refine r_iconst 83 hX dX2_exchange_82 (v := 1) (by decide) ?_
    refine r_iadd 84 hX dX2_exchange_83 ?_
    refine r_putI 87 hX dX2_exchange_84 fX2_41 fp2_9 rfl rfl rfl ?_
    refine r_iload_n 88 hX dX2_exchange_87 rfl ?_
    refine r_iret hX hT dX2_exchange_88 ?_
    refine ⟨rfl, ?_⟩
    unfold exM exN
    first | (rw [if_pos (by assumption)]; rfl) | (rw [if_neg (by assumption)]; rfl)
set_option maxRecDepth 100000 in
set_option maxHeartbeats 4000000 in
theorem tX2_freeOn_9 {l : Launch} {G : mx_G} {p : Int32} {M : mx_Mem} : mx_Met l G yX2_freeOn cX2_freeOn 3 ((some FieldType.int)) 1 22 [.ref 9, .int p] M (mx_F (some (.int (if M.1 9 5 = -1 then (if plc (M.1 10) p = 4 then 4 else if plc (M.1 10) p = 5 then 5 else -1) else -1))) (if M.1 9 5 = -1 then (if plc (M.1 10) p = 4 then mI (mI M 9 5 4) 9 6 1 else if plc (M.1 10) p = 5 then mI (mI M 9 5 5) 9 6 1 else M) else M)) := by
  refine mx_enter (own := RX2) (L := [.ref 9, .int p, .null]) (by decide +kernel) rfl rfl rfl ?_
  intro X hlX hX hR hT
  refine r_aload_n 1 hX dX2_freeOn_0 rfl ?_
  refine r_iload_n 2 hX dX2_freeOn_1 rfl ?_
  refine r_cV1F 5 hX hR tX2_placeOf_9 dX2_freeOn_2 kX2_placeOf lX2_66 rfl rfl rfl rfl rfl rfl ?_
  refine r_istore_n 6 hX dX2_freeOn_5 rfl ?_
  refine r_aload_n 7 hX dX2_freeOn_6 rfl ?_
  refine r_getI 10 hX dX2_freeOn_7 fX2_28 rfl rfl rfl ?_
  refine r_iconst 11 hX dX2_freeOn_10 (v := -1) (by decide) ?_
  refine r_icmp_ne 14 24 hX dX2_freeOn_11 (fun c1 => ?_) (fun c1 => ?_)
  · refine r_iconst 25 hX dX2_freeOn_24 (v := -1) (by decide) ?_
    refine r_iret hX hT dX2_freeOn_25 ?_
    exact ⟨by simp [*], by simp [*]⟩
  · refine r_iload_n 15 hX dX2_freeOn_14 rfl ?_
    refine r_iconst 16 hX dX2_freeOn_15 (v := 4) (by decide) ?_
    refine r_icmp_eq 19 26 hX dX2_freeOn_16 (fun c2 => ?_) (fun c2 => ?_)
    · refine r_aload_n 27 hX dX2_freeOn_26 rfl ?_
      refine r_iload_n 28 hX dX2_freeOn_27 rfl ?_
      refine r_putI 31 hX dX2_freeOn_28 fX2_28 fp2_5 rfl rfl rfl ?_
      refine r_aload_n 32 hX dX2_freeOn_31 rfl ?_
      refine r_iconst 33 hX dX2_freeOn_32 (v := 1) (by decide) ?_
      refine r_putZ 36 hX dX2_freeOn_33 fX2_31 fp2_6 rfl rfl rfl (by first | assumption | decide) ?_
      refine r_iload_n 37 hX dX2_freeOn_36 rfl ?_
      refine r_iret hX hT dX2_freeOn_37 ?_
      exact ⟨by simp [*], by simp [*]⟩
    · refine r_iload_n 20 hX dX2_freeOn_19 rfl ?_
      refine r_iconst 21 hX dX2_freeOn_20 (v := 5) (by decide) ?_
      refine r_icmp_eq 24 26 hX dX2_freeOn_21 (fun c3 => ?_) (fun c3 => ?_)
      · refine r_aload_n 27 hX dX2_freeOn_26 rfl ?_
        refine r_iload_n 28 hX dX2_freeOn_27 rfl ?_
        refine r_putI 31 hX dX2_freeOn_28 fX2_28 fp2_5 rfl rfl rfl ?_
        refine r_aload_n 32 hX dX2_freeOn_31 rfl ?_
        refine r_iconst 33 hX dX2_freeOn_32 (v := 1) (by decide) ?_
        refine r_putZ 36 hX dX2_freeOn_33 fX2_31 fp2_6 rfl rfl rfl (by first | assumption | decide) ?_
        refine r_iload_n 37 hX dX2_freeOn_36 rfl ?_
        refine r_iret hX hT dX2_freeOn_37 ?_
        exact ⟨by simp [*], by simp [*]⟩
      · refine r_iconst 25 hX dX2_freeOn_24 (v := -1) (by decide) ?_
        refine r_iret hX hT dX2_freeOn_25 ?_
        exact ⟨by simp [*], by simp [*]⟩
set_option maxRecDepth 100000 in
set_option maxHeartbeats 4000000 in
theorem tX2_freeOff_9 {l : Launch} {G : mx_G} {M : mx_Mem} : mx_Met l G yX2_freeOff cX2_freeOff 2 ((some FieldType.int)) 0 0 [.ref 9] M (mx_F (some (.int (M.1 9 5))) (if M.1 9 5 = -1 then M else mI (mI M 9 5 (-1)) 9 6 1)) := by
  refine mx_enter (own := RX2) (L := [.ref 9, .null]) (by decide +kernel) rfl rfl rfl ?_
  intro X hlX hX hR hT
  refine r_aload_n 1 hX dX2_freeOff_0 rfl ?_
  refine r_getI 4 hX dX2_freeOff_1 fX2_28 rfl rfl rfl ?_
  refine r_istore_n 5 hX dX2_freeOff_4 rfl ?_
  refine r_iload_n 6 hX dX2_freeOff_5 rfl ?_
  refine r_iconst 7 hX dX2_freeOff_6 (v := -1) (by decide) ?_
  refine r_icmp_eq 10 20 hX dX2_freeOff_7 (fun c1 => ?_) (fun c1 => ?_)
  · refine r_iload_n 21 hX dX2_freeOff_20 rfl ?_
    refine r_iret hX hT dX2_freeOff_21 ?_
    exact ⟨rfl, by simp [*]⟩
  · refine r_aload_n 11 hX dX2_freeOff_10 rfl ?_
    refine r_iconst 12 hX dX2_freeOff_11 (v := -1) (by decide) ?_
    refine r_putI 15 hX dX2_freeOff_12 fX2_28 fp2_5 rfl rfl rfl ?_
    refine r_aload_n 16 hX dX2_freeOff_15 rfl ?_
    refine r_iconst 17 hX dX2_freeOff_16 (v := 1) (by decide) ?_
    refine r_putZ 20 hX dX2_freeOff_17 fX2_31 fp2_6 rfl rfl rfl (by first | assumption | decide) ?_
    refine r_iload_n 21 hX dX2_freeOff_20 rfl ?_
    refine r_iret hX hT dX2_freeOff_21 ?_
    exact ⟨rfl, by simp [*]⟩
set_option maxRecDepth 100000 in
set_option maxHeartbeats 4000000 in
theorem tX2_exchange_14 {l : Launch} {G : mx_G} {a b : Int32} {M : mx_Mem} (h1 : ¬ plc (M.1 15) a = -1) (h2 : arP M 14 a b = 1) (ha : isP a) (hb : isP b) : mx_Met l G yX2_exchange cX2_exchange 4 ((some FieldType.int)) 2 42 [.ref 14, .int a, .int b] M (mx_F (some (.int (plc (M.1 15) a))) (exM M 14 a b)) := by
  refine mx_enter (own := RX2) (L := [.ref 14, .int a, .int b, .null]) (by decide +kernel) rfl rfl rfl ?_
  intro X hlX hX hR hT
  have hi := plc_in _ _ h1
  refine r_aload_n 1 hX dX2_exchange_0 rfl ?_
  refine r_iload_n 2 hX dX2_exchange_1 rfl ?_
  refine r_cV1F 5 hX hR tX2_placeOf_14 dX2_exchange_2 kX2_placeOf lX2_66 rfl rfl rfl rfl rfl rfl ?_
  refine r_istore_n 6 hX dX2_exchange_5 rfl ?_
  refine r_iload_n 7 hX dX2_exchange_6 rfl ?_
  refine r_iconst 8 hX dX2_exchange_7 (v := -1) (by decide) ?_
  refine r_icmp_eq 11 20 hX dX2_exchange_8 (fun c1 => absurd c1 h1) (fun c1 => ?_)
  refine r_aload_n 12 hX dX2_exchange_11 rfl ?_
  refine r_iload_n 13 hX dX2_exchange_12 rfl ?_
  refine r_iload_n 14 hX dX2_exchange_13 rfl ?_
  refine r_cV2F 17 hX hR tX2_arePair_14 dX2_exchange_14 kX2_arePair lX2_70 rfl rfl rfl rfl rfl rfl ?_
  refine r_Bne 20 22 hX dX2_exchange_17 (fun c2 => ?_) (fun c2 => absurd h2 c2)
  refine r_aload_n 23 hX dX2_exchange_22 rfl ?_
  refine r_getR 26 hX dX2_exchange_23 fX2_15 rfl rfl rfl ?_
  refine r_iload_n 27 hX dX2_exchange_26 rfl ?_
  refine r_iald 28 hX dX2_exchange_27 rfl rfl (by first | assumption | exact vpK rfl | exact vpP (by assumption) | exact vp6 (by assumption) (by assumption) | exact vp12 (by assumption) (by assumption) | exact vp48 (by assumption) (by assumption) | exact vp100 (by assumption) (by assumption)) ?_
  refine r_iconst 29 hX dX2_exchange_28 (v := 1) (by decide) ?_
  refine r_icmp_ne 32 56 hX dX2_exchange_29 (fun c3 => ?_) (fun c3 => ?_)
  · refine r_aload_n 57 hX dX2_exchange_56 rfl ?_
    refine r_getR 60 hX dX2_exchange_57 fX2_15 rfl rfl rfl ?_
    refine r_iload_n 61 hX dX2_exchange_60 rfl ?_
    refine r_iconst 62 hX dX2_exchange_61 (v := 4) (by decide) ?_
    refine r_iast 63 hX dX2_exchange_62 rfl rfl (by first | assumption | exact vpK rfl | exact vpP (by assumption) | exact vp6 (by assumption) (by assumption) | exact vp12 (by assumption) (by assumption) | exact vp48 (by assumption) (by assumption) | exact vp100 (by assumption) (by assumption)) ?_
    refine r_aload_n 64 hX dX2_exchange_63 rfl ?_
    refine r_getR 67 hX dX2_exchange_64 fX2_15 rfl rfl rfl ?_
    refine r_iload_n 68 hX dX2_exchange_67 rfl ?_
    refine r_iconst 69 hX dX2_exchange_68 (v := 4) (by decide) ?_
    refine r_iast 70 hX dX2_exchange_69 rfl rfl (by first | assumption | exact vpK rfl | exact vpP (by assumption) | exact vp6 (by assumption) (by assumption) | exact vp12 (by assumption) (by assumption) | exact vp48 (by assumption) (by assumption) | exact vp100 (by assumption) (by assumption)) ?_
    refine r_aload_n 71 hX dX2_exchange_70 rfl ?_
    refine r_getR 74 hX dX2_exchange_71 fX2_9 rfl rfl rfl ?_
    refine r_iload_n 75 hX dX2_exchange_74 rfl ?_
    refine r_iload_n 76 hX dX2_exchange_75 rfl ?_
    refine r_iast 77 hX dX2_exchange_76 rfl rfl (by first | assumption | exact vpK rfl | exact vpP (by assumption) | exact vp6 (by assumption) (by assumption) | exact vp12 (by assumption) (by assumption) | exact vp48 (by assumption) (by assumption) | exact vp100 (by assumption) (by assumption)) ?_
    refine r_aload_n 78 hX dX2_exchange_77 rfl ?_
    refine r_dup 79 hX dX2_exchange_78 rfl ?_
    refine r_getI 82 hX dX2_exchange_79 fX2_41 rfl rfl rfl ?_
    refine r_iconst 83 hX dX2_exchange_82 (v := 1) (by decide) ?_
    refine r_iadd 84 hX dX2_exchange_83 ?_
    refine r_putI 87 hX dX2_exchange_84 fX2_41 fp2_9 rfl rfl rfl ?_
    refine r_iload_n 88 hX dX2_exchange_87 rfl ?_
    refine r_iret hX hT dX2_exchange_88 ?_
    refine ⟨rfl, ?_⟩
    unfold exM exN
    first | (rw [if_pos (by assumption)]; rfl) | (rw [if_neg (by assumption)]; rfl)
  · refine r_aload_n 33 hX dX2_exchange_32 rfl ?_
    refine r_getR 36 hX dX2_exchange_33 fX2_15 rfl rfl rfl ?_
    refine r_iload_n 37 hX dX2_exchange_36 rfl ?_
    refine r_iconst 38 hX dX2_exchange_37 (v := 2) (by decide) ?_
    refine r_iast 39 hX dX2_exchange_38 rfl rfl (by first | assumption | exact vpK rfl | exact vpP (by assumption) | exact vp6 (by assumption) (by assumption) | exact vp12 (by assumption) (by assumption) | exact vp48 (by assumption) (by assumption) | exact vp100 (by assumption) (by assumption)) ?_
    refine r_aload_n 40 hX dX2_exchange_39 rfl ?_
    refine r_getR 43 hX dX2_exchange_40 fX2_15 rfl rfl rfl ?_
    refine r_iload_n 44 hX dX2_exchange_43 rfl ?_
    refine r_iconst 45 hX dX2_exchange_44 (v := 3) (by decide) ?_
    refine r_iast 46 hX dX2_exchange_45 rfl rfl (by first | assumption | exact vpK rfl | exact vpP (by assumption) | exact vp6 (by assumption) (by assumption) | exact vp12 (by assumption) (by assumption) | exact vp48 (by assumption) (by assumption) | exact vp100 (by assumption) (by assumption)) ?_
    refine r_aload_n 47 hX dX2_exchange_46 rfl ?_
    refine r_getR 50 hX dX2_exchange_47 fX2_18 rfl rfl rfl ?_
    refine r_iload_n 51 hX dX2_exchange_50 rfl ?_
    refine r_iload_n 52 hX dX2_exchange_51 rfl ?_
    refine r_iast 53 hX dX2_exchange_52 rfl rfl (by first | assumption | exact vpK rfl | exact vpP (by assumption) | exact vp6 (by assumption) (by assumption) | exact vp12 (by assumption) (by assumption) | exact vp48 (by assumption) (by assumption) | exact vp100 (by assumption) (by assumption)) ?_
    refine r_goto 70 hX dX2_exchange_53 ?_
    refine r_aload_n 71 hX dX2_exchange_70 rfl ?_
    refine r_getR 74 hX dX2_exchange_71 fX2_9 rfl rfl rfl ?_
    refine r_iload_n 75 hX dX2_exchange_74 rfl ?_
    refine r_iload_n 76 hX dX2_exchange_75 rfl ?_
    refine r_iast 77 hX dX2_exchange_76 rfl rfl (by first | assumption | exact vpK rfl | exact vpP (by assumption) | exact vp6 (by assumption) (by assumption) | exact vp12 (by assumption) (by assumption) | exact vp48 (by assumption) (by assumption) | exact vp100 (by assumption) (by assumption)) ?_
    refine r_aload_n 78 hX dX2_exchange_77 rfl ?_
    refine r_dup 79 hX dX2_exchange_78 rfl ?_
    refine r_getI 82 hX dX2_exchange_79 fX2_41 rfl rfl rfl ?_
    refine r_iconst 83 hX dX2_exchange_82 (v := 1) (by decide) ?_
    refine r_iadd 84 hX dX2_exchange_83 ?_
    refine r_putI 87 hX dX2_exchange_84 fX2_41 fp2_9 rfl rfl rfl ?_
    refine r_iload_n 88 hX dX2_exchange_87 rfl ?_
    refine r_iret hX hT dX2_exchange_88 ?_
    refine ⟨rfl, ?_⟩
    unfold exM exN
    first | (rw [if_pos (by assumption)]; rfl) | (rw [if_neg (by assumption)]; rfl)
set_option maxRecDepth 100000 in
set_option maxHeartbeats 4000000 in
theorem tX2_freeOn_14 {l : Launch} {G : mx_G} {p : Int32} {M : mx_Mem} : mx_Met l G yX2_freeOn cX2_freeOn 3 ((some FieldType.int)) 1 22 [.ref 14, .int p] M (mx_F (some (.int (if M.1 14 5 = -1 then (if plc (M.1 15) p = 4 then 4 else if plc (M.1 15) p = 5 then 5 else -1) else -1))) (if M.1 14 5 = -1 then (if plc (M.1 15) p = 4 then mI (mI M 14 5 4) 14 6 1 else if plc (M.1 15) p = 5 then mI (mI M 14 5 5) 14 6 1 else M) else M)) := by
  refine mx_enter (own := RX2) (L := [.ref 14, .int p, .null]) (by decide +kernel) rfl rfl rfl ?_
  intro X hlX hX hR hT
  refine r_aload_n 1 hX dX2_freeOn_0 rfl ?_
  refine r_iload_n 2 hX dX2_freeOn_1 rfl ?_
  refine r_cV1F 5 hX hR tX2_placeOf_14 dX2_freeOn_2 kX2_placeOf lX2_66 rfl rfl rfl rfl rfl rfl ?_
  refine r_istore_n 6 hX dX2_freeOn_5 rfl ?_
  refine r_aload_n 7 hX dX2_freeOn_6 rfl ?_
  refine r_getI 10 hX dX2_freeOn_7 fX2_28 rfl rfl rfl ?_
  refine r_iconst 11 hX dX2_freeOn_10 (v := -1) (by decide) ?_
  refine r_icmp_ne 14 24 hX dX2_freeOn_11 (fun c1 => ?_) (fun c1 => ?_)
  · refine r_iconst 25 hX dX2_freeOn_24 (v := -1) (by decide) ?_
    refine r_iret hX hT dX2_freeOn_25 ?_
    exact ⟨by simp [*], by simp [*]⟩
  · refine r_iload_n 15 hX dX2_freeOn_14 rfl ?_
    refine r_iconst 16 hX dX2_freeOn_15 (v := 4) (by decide) ?_
    refine r_icmp_eq 19 26 hX dX2_freeOn_16 (fun c2 => ?_) (fun c2 => ?_)
    · refine r_aload_n 27 hX dX2_freeOn_26 rfl ?_
      refine r_iload_n 28 hX dX2_freeOn_27 rfl ?_
      refine r_putI 31 hX dX2_freeOn_28 fX2_28 fp2_5 rfl rfl rfl ?_
      refine r_aload_n 32 hX dX2_freeOn_31 rfl ?_
      refine r_iconst 33 hX dX2_freeOn_32 (v := 1) (by decide) ?_
      refine r_putZ 36 hX dX2_freeOn_33 fX2_31 fp2_6 rfl rfl rfl (by first | assumption | decide) ?_
      refine r_iload_n 37 hX dX2_freeOn_36 rfl ?_
      refine r_iret hX hT dX2_freeOn_37 ?_
      exact ⟨by simp [*], by simp [*]⟩
    · refine r_iload_n 20 hX dX2_freeOn_19 rfl ?_
      refine r_iconst 21 hX dX2_freeOn_20 (v := 5) (by decide) ?_
      refine r_icmp_eq 24 26 hX dX2_freeOn_21 (fun c3 => ?_) (fun c3 => ?_)
      · refine r_aload_n 27 hX dX2_freeOn_26 rfl ?_
        refine r_iload_n 28 hX dX2_freeOn_27 rfl ?_
        refine r_putI 31 hX dX2_freeOn_28 fX2_28 fp2_5 rfl rfl rfl ?_
        refine r_aload_n 32 hX dX2_freeOn_31 rfl ?_
        refine r_iconst 33 hX dX2_freeOn_32 (v := 1) (by decide) ?_
        refine r_putZ 36 hX dX2_freeOn_33 fX2_31 fp2_6 rfl rfl rfl (by first | assumption | decide) ?_
        refine r_iload_n 37 hX dX2_freeOn_36 rfl ?_
        refine r_iret hX hT dX2_freeOn_37 ?_
        exact ⟨by simp [*], by simp [*]⟩
      · refine r_iconst 25 hX dX2_freeOn_24 (v := -1) (by decide) ?_
        refine r_iret hX hT dX2_freeOn_25 ?_
        exact ⟨by simp [*], by simp [*]⟩
set_option maxRecDepth 100000 in
set_option maxHeartbeats 4000000 in
theorem tX2_freeOff_14 {l : Launch} {G : mx_G} {M : mx_Mem} : mx_Met l G yX2_freeOff cX2_freeOff 2 ((some FieldType.int)) 0 0 [.ref 14] M (mx_F (some (.int (M.1 14 5))) (if M.1 14 5 = -1 then M else mI (mI M 14 5 (-1)) 14 6 1)) := by
  refine mx_enter (own := RX2) (L := [.ref 14, .null]) (by decide +kernel) rfl rfl rfl ?_
  intro X hlX hX hR hT
  refine r_aload_n 1 hX dX2_freeOff_0 rfl ?_
  refine r_getI 4 hX dX2_freeOff_1 fX2_28 rfl rfl rfl ?_
  refine r_istore_n 5 hX dX2_freeOff_4 rfl ?_
  refine r_iload_n 6 hX dX2_freeOff_5 rfl ?_
  refine r_iconst 7 hX dX2_freeOff_6 (v := -1) (by decide) ?_
  refine r_icmp_eq 10 20 hX dX2_freeOff_7 (fun c1 => ?_) (fun c1 => ?_)
  · refine r_iload_n 21 hX dX2_freeOff_20 rfl ?_
    refine r_iret hX hT dX2_freeOff_21 ?_
    exact ⟨rfl, by simp [*]⟩
  · refine r_aload_n 11 hX dX2_freeOff_10 rfl ?_
    refine r_iconst 12 hX dX2_freeOff_11 (v := -1) (by decide) ?_
    refine r_putI 15 hX dX2_freeOff_12 fX2_28 fp2_5 rfl rfl rfl ?_
    refine r_aload_n 16 hX dX2_freeOff_15 rfl ?_
    refine r_iconst 17 hX dX2_freeOff_16 (v := 1) (by decide) ?_
    refine r_putZ 20 hX dX2_freeOff_17 fX2_31 fp2_6 rfl rfl rfl (by first | assumption | decide) ?_
    refine r_iload_n 21 hX dX2_freeOff_20 rfl ?_
    refine r_iret hX hT dX2_freeOff_21 ?_
    exact ⟨rfl, by simp [*]⟩
/-! SixWhoTurn: numbers -/
def skC (p w v : Int32) : Prop := isP p ∧ (0 ≤ w ∧ ¬ 4 ≤ w) ∧ (0 ≤ v ∧ v ≤ 100)
def skI (p w : Int32) : Prop := 0 ≤ p * 4 + w ∧ ¬ 48 ≤ p * 4 + w
def lbC (M : mx_Mem) (p : Int32) : Prop := (p = -1 ∨ isP p) ∧ M.1 19 1 = 0
set_option maxRecDepth 100000 in
set_option maxHeartbeats 4000000 in
theorem tX7_skill_0 {l : Launch} {G : mx_G} {p w v : Int32} {M : mx_Mem} : mx_Met l G yX7_skill cX7_skill 7 ((some FieldType.int)) 1 24 [.ref 0, .int 0, .int p, .int w, .int v] M (fun r M' => (skC p w v ∧ r = some (.int (sko (M.1 4) p w)) ∧ M' = (if 0 ≤ p * 4 + w ∧ ¬ 48 ≤ p * 4 + w then mI M 4 (p * 4 + w).toNatClampNeg v else M)) ∨ (¬ skC p w v ∧ r = some (.int (-1)) ∧ M' = M)) := by
  refine mx_enter (own := RX7) (L := [.ref 0, .int 0, .int p, .int w, .int v, .null, .null]) (by decide +kernel) rfl rfl rfl ?_
  intro X hlX hX hR hT
  refine r_iload_n 1 hX dX7_skill_0 rfl ?_
  refine r_cS1F 4 hX hR tX7_isTeam_0 dX7_skill_1 kX7_isTeam lX7_83 rfl rfl rfl ?_
  refine r_if_eq 7 35 hX dX7_skill_4 (fun c => absurd c (by decide)) (fun _ => ?_)
  refine r_iload_n 8 hX dX7_skill_7 rfl ?_
  refine r_cS1F 11 hX hR tX7_isPlayer dX7_skill_8 kX7_isPlayer lX7_87 rfl rfl rfl ?_
  refine r_Beq 14 35 hX dX7_skill_11 (fun c1 => ?_) (fun c1 => ?_)
  · refine r_iconst 36 hX dX7_skill_35 (v := -1) (by decide) ?_
    refine r_iret hX hT dX7_skill_36 ?_
    first | exact Or.inl ⟨⟨by assumption, ⟨by assumption, by assumption⟩, by assumption, by assumption⟩, rfl, rfl⟩ | exact Or.inr ⟨by unfold skC; simp [*], rfl, rfl⟩
  · refine r_iload_n 15 hX dX7_skill_14 rfl ?_
    refine r_If_lt 18 35 hX dX7_skill_15 (fun c2 => ?_) (fun c2 => ?_)
    · refine r_iconst 36 hX dX7_skill_35 (v := -1) (by decide) ?_
      refine r_iret hX hT dX7_skill_36 ?_
      first | exact Or.inl ⟨⟨by assumption, ⟨by assumption, by assumption⟩, by assumption, by assumption⟩, rfl, rfl⟩ | exact Or.inr ⟨by unfold skC; simp [*], rfl, rfl⟩
    · refine r_iload_n 19 hX dX7_skill_18 rfl ?_
      refine r_iconst 20 hX dX7_skill_19 (v := 4) (by decide) ?_
      refine r_icmp_ge 23 35 hX dX7_skill_20 (fun c3 => ?_) (fun c3 => ?_)
      · refine r_iconst 36 hX dX7_skill_35 (v := -1) (by decide) ?_
        refine r_iret hX hT dX7_skill_36 ?_
        first | exact Or.inl ⟨⟨by assumption, ⟨by assumption, by assumption⟩, by assumption, by assumption⟩, rfl, rfl⟩ | exact Or.inr ⟨by unfold skC; simp [*], rfl, rfl⟩
      · refine r_iload 25 hX dX7_skill_23 rfl ?_
        refine r_If_lt 28 35 hX dX7_skill_25 (fun c4 => ?_) (fun c4 => ?_)
        · refine r_iconst 36 hX dX7_skill_35 (v := -1) (by decide) ?_
          refine r_iret hX hT dX7_skill_36 ?_
          first | exact Or.inl ⟨⟨by assumption, ⟨by assumption, by assumption⟩, by assumption, by assumption⟩, rfl, rfl⟩ | exact Or.inr ⟨by unfold skC; simp [*], rfl, rfl⟩
        · refine r_iload 30 hX dX7_skill_28 rfl ?_
          refine r_bipush 32 hX dX7_skill_30 (v := 100) (by decide) ?_
          refine r_icmp_le 35 37 hX dX7_skill_32 (fun c5 => ?_) (fun c5 => ?_)
          · refine r_aload_n 38 hX dX7_skill_37 rfl ?_
            refine r_iload_n 39 hX dX7_skill_38 rfl ?_
            refine r_cV1F 42 hX hR tX7_squadOf_0 dX7_skill_39 kX7_squadOf lX7_90 rfl rfl rfl rfl rfl rfl ?_
            refine r_astore 44 hX dX7_skill_42 rfl ?_
            refine r_aload 46 hX dX7_skill_44 rfl ?_
            refine r_iload_n 47 hX dX7_skill_46 rfl ?_
            refine r_iload_n 48 hX dX7_skill_47 rfl ?_
            refine r_cV2F 51 hX hR tX4_skillOf_3 dX7_skill_48 kX4_skillOf lX7_94 rfl rfl rfl rfl rfl rfl ?_
            refine r_istore 53 hX dX7_skill_51 rfl ?_
            refine r_aload 55 hX dX7_skill_53 rfl ?_
            refine r_iload_n 56 hX dX7_skill_55 rfl ?_
            refine r_iload_n 57 hX dX7_skill_56 rfl ?_
            refine r_iload 59 hX dX7_skill_57 rfl ?_
            refine r_cV3U 62 hX hR tX4_putSkill_3 dX7_skill_59 kX4_putSkill lX7_98 rfl rfl rfl rfl rfl rfl ?_
            refine r_iload 64 hX dX7_skill_62 rfl ?_
            refine r_iret hX hT dX7_skill_64 ?_
            first | exact Or.inl ⟨⟨by assumption, ⟨by assumption, by assumption⟩, by assumption, by assumption⟩, rfl, rfl⟩ | exact Or.inr ⟨by unfold skC; simp [*], rfl, rfl⟩
          · refine r_iconst 36 hX dX7_skill_35 (v := -1) (by decide) ?_
            refine r_iret hX hT dX7_skill_36 ?_
            first | exact Or.inl ⟨⟨by assumption, ⟨by assumption, by assumption⟩, by assumption, by assumption⟩, rfl, rfl⟩ | exact Or.inr ⟨by unfold skC; simp [*], rfl, rfl⟩
set_option maxRecDepth 100000 in
set_option maxHeartbeats 4000000 in
theorem tX7_libre_0 {l : Launch} {G : mx_G} {p : Int32} {M : mx_Mem} : mx_Met l G yX7_libre cX7_libre 5 ((some FieldType.int)) 1 21 [.ref 0, .int 0, .int p] M (fun r M' => (lbC M p ∧ r = some (.int (M.1 3 2)) ∧ M' = mI M 3 2 p) ∨ (¬ lbC M p ∧ r = some (.int (-2)) ∧ M' = M)) := by
  refine mx_enter (own := RX7) (L := [.ref 0, .int 0, .int p, .null, .null]) (by decide +kernel) rfl rfl rfl ?_
  intro X hlX hX hR hT
  refine r_iload_n 1 hX dX7_libre_0 rfl ?_
  refine r_cS1F 4 hX hR tX7_isTeam_0 dX7_libre_1 kX7_isTeam lX7_83 rfl rfl rfl ?_
  refine r_if_eq 7 29 hX dX7_libre_4 (fun c => absurd c (by decide)) (fun _ => ?_)
  refine r_iload_n 8 hX dX7_libre_7 rfl ?_
  refine r_iconst 9 hX dX7_libre_8 (v := -1) (by decide) ?_
  refine r_icmp_eq 12 19 hX dX7_libre_9 (fun c1 => ?_) (fun c1 => ?_)
  · refine r_aload_n 20 hX dX7_libre_19 rfl ?_
    refine r_getR 23 hX dX7_libre_20 fX7_39 rfl rfl rfl ?_
    refine r_getI 26 hX dX7_libre_23 fX7_102 rfl rfl rfl ?_
    refine r_if_eq 29 32 hX dX7_libre_26 (fun c2 => ?_) (fun c2 => ?_)
    · refine r_aload_n 33 hX dX7_libre_32 rfl ?_
      refine r_iload_n 34 hX dX7_libre_33 rfl ?_
      refine r_cV1F 37 hX hR tX7_squadOf_0 dX7_libre_34 kX7_squadOf lX7_90 rfl rfl rfl rfl rfl rfl ?_
      refine r_astore_n 38 hX dX7_libre_37 rfl ?_
      refine r_aload_n 39 hX dX7_libre_38 rfl ?_
      refine r_getI 42 hX dX7_libre_39 fX7_106 rfl rfl rfl ?_
      refine r_istore 44 hX dX7_libre_42 rfl ?_
      refine r_aload_n 45 hX dX7_libre_44 rfl ?_
      refine r_iload_n 46 hX dX7_libre_45 rfl ?_
      refine r_putI 49 hX dX7_libre_46 fX7_106 fp4_2 rfl rfl rfl ?_
      refine r_iload 51 hX dX7_libre_49 rfl ?_
      refine r_iret hX hT dX7_libre_51 ?_
      clear hT hX hR hlX
      first | exact Or.inl ⟨by grind [lbC], rfl, rfl⟩ | exact Or.inr ⟨by grind [lbC], rfl, rfl⟩
    · refine r_bipush 31 hX dX7_libre_29 (v := -2) (by decide) ?_
      refine r_iret hX hT dX7_libre_31 ?_
      clear hT hX hR hlX
      first | exact Or.inl ⟨by grind [lbC], rfl, rfl⟩ | exact Or.inr ⟨by grind [lbC], rfl, rfl⟩
  · refine r_iload_n 13 hX dX7_libre_12 rfl ?_
    refine r_cS1F 16 hX hR tX7_isPlayer dX7_libre_13 kX7_isPlayer lX7_87 rfl rfl rfl ?_
    refine r_Beq 19 29 hX dX7_libre_16 (fun c3 => ?_) (fun c3 => ?_)
    · refine r_bipush 31 hX dX7_libre_29 (v := -2) (by decide) ?_
      refine r_iret hX hT dX7_libre_31 ?_
      clear hT hX hR hlX
      first | exact Or.inl ⟨by grind [lbC], rfl, rfl⟩ | exact Or.inr ⟨by grind [lbC], rfl, rfl⟩
    · refine r_aload_n 20 hX dX7_libre_19 rfl ?_
      refine r_getR 23 hX dX7_libre_20 fX7_39 rfl rfl rfl ?_
      refine r_getI 26 hX dX7_libre_23 fX7_102 rfl rfl rfl ?_
      refine r_if_eq 29 32 hX dX7_libre_26 (fun c4 => ?_) (fun c4 => ?_)
      · refine r_aload_n 33 hX dX7_libre_32 rfl ?_
        refine r_iload_n 34 hX dX7_libre_33 rfl ?_
        refine r_cV1F 37 hX hR tX7_squadOf_0 dX7_libre_34 kX7_squadOf lX7_90 rfl rfl rfl rfl rfl rfl ?_
        refine r_astore_n 38 hX dX7_libre_37 rfl ?_
        refine r_aload_n 39 hX dX7_libre_38 rfl ?_
        refine r_getI 42 hX dX7_libre_39 fX7_106 rfl rfl rfl ?_
        refine r_istore 44 hX dX7_libre_42 rfl ?_
        refine r_aload_n 45 hX dX7_libre_44 rfl ?_
        refine r_iload_n 46 hX dX7_libre_45 rfl ?_
        refine r_putI 49 hX dX7_libre_46 fX7_106 fp4_2 rfl rfl rfl ?_
        refine r_iload 51 hX dX7_libre_49 rfl ?_
        refine r_iret hX hT dX7_libre_51 ?_
        clear hT hX hR hlX
        first | exact Or.inl ⟨by grind [lbC], rfl, rfl⟩ | exact Or.inr ⟨by grind [lbC], rfl, rfl⟩
      · refine r_bipush 31 hX dX7_libre_29 (v := -2) (by decide) ?_
        refine r_iret hX hT dX7_libre_31 ?_
        clear hT hX hR hlX
        first | exact Or.inl ⟨by grind [lbC], rfl, rfl⟩ | exact Or.inr ⟨by grind [lbC], rfl, rfl⟩
set_option maxRecDepth 100000 in
set_option maxHeartbeats 4000000 in
theorem tX7_skill_1 {l : Launch} {G : mx_G} {p w v : Int32} {M : mx_Mem} : mx_Met l G yX7_skill cX7_skill 7 ((some FieldType.int)) 1 24 [.ref 0, .int 1, .int p, .int w, .int v] M (fun r M' => (skC p w v ∧ r = some (.int (sko (M.1 7) p w)) ∧ M' = (if 0 ≤ p * 4 + w ∧ ¬ 48 ≤ p * 4 + w then mI M 7 (p * 4 + w).toNatClampNeg v else M)) ∨ (¬ skC p w v ∧ r = some (.int (-1)) ∧ M' = M)) := by
  refine mx_enter (own := RX7) (L := [.ref 0, .int 1, .int p, .int w, .int v, .null, .null]) (by decide +kernel) rfl rfl rfl ?_
  intro X hlX hX hR hT
  refine r_iload_n 1 hX dX7_skill_0 rfl ?_
  refine r_cS1F 4 hX hR tX7_isTeam_1 dX7_skill_1 kX7_isTeam lX7_83 rfl rfl rfl ?_
  refine r_if_eq 7 35 hX dX7_skill_4 (fun c => absurd c (by decide)) (fun _ => ?_)
  refine r_iload_n 8 hX dX7_skill_7 rfl ?_
  refine r_cS1F 11 hX hR tX7_isPlayer dX7_skill_8 kX7_isPlayer lX7_87 rfl rfl rfl ?_
  refine r_Beq 14 35 hX dX7_skill_11 (fun c1 => ?_) (fun c1 => ?_)
  · refine r_iconst 36 hX dX7_skill_35 (v := -1) (by decide) ?_
    refine r_iret hX hT dX7_skill_36 ?_
    first | exact Or.inl ⟨⟨by assumption, ⟨by assumption, by assumption⟩, by assumption, by assumption⟩, rfl, rfl⟩ | exact Or.inr ⟨by unfold skC; simp [*], rfl, rfl⟩
  · refine r_iload_n 15 hX dX7_skill_14 rfl ?_
    refine r_If_lt 18 35 hX dX7_skill_15 (fun c2 => ?_) (fun c2 => ?_)
    · refine r_iconst 36 hX dX7_skill_35 (v := -1) (by decide) ?_
      refine r_iret hX hT dX7_skill_36 ?_
      first | exact Or.inl ⟨⟨by assumption, ⟨by assumption, by assumption⟩, by assumption, by assumption⟩, rfl, rfl⟩ | exact Or.inr ⟨by unfold skC; simp [*], rfl, rfl⟩
    · refine r_iload_n 19 hX dX7_skill_18 rfl ?_
      refine r_iconst 20 hX dX7_skill_19 (v := 4) (by decide) ?_
      refine r_icmp_ge 23 35 hX dX7_skill_20 (fun c3 => ?_) (fun c3 => ?_)
      · refine r_iconst 36 hX dX7_skill_35 (v := -1) (by decide) ?_
        refine r_iret hX hT dX7_skill_36 ?_
        first | exact Or.inl ⟨⟨by assumption, ⟨by assumption, by assumption⟩, by assumption, by assumption⟩, rfl, rfl⟩ | exact Or.inr ⟨by unfold skC; simp [*], rfl, rfl⟩
      · refine r_iload 25 hX dX7_skill_23 rfl ?_
        refine r_If_lt 28 35 hX dX7_skill_25 (fun c4 => ?_) (fun c4 => ?_)
        · refine r_iconst 36 hX dX7_skill_35 (v := -1) (by decide) ?_
          refine r_iret hX hT dX7_skill_36 ?_
          first | exact Or.inl ⟨⟨by assumption, ⟨by assumption, by assumption⟩, by assumption, by assumption⟩, rfl, rfl⟩ | exact Or.inr ⟨by unfold skC; simp [*], rfl, rfl⟩
        · refine r_iload 30 hX dX7_skill_28 rfl ?_
          refine r_bipush 32 hX dX7_skill_30 (v := 100) (by decide) ?_
          refine r_icmp_le 35 37 hX dX7_skill_32 (fun c5 => ?_) (fun c5 => ?_)
          · refine r_aload_n 38 hX dX7_skill_37 rfl ?_
            refine r_iload_n 39 hX dX7_skill_38 rfl ?_
            refine r_cV1F 42 hX hR tX7_squadOf_1 dX7_skill_39 kX7_squadOf lX7_90 rfl rfl rfl rfl rfl rfl ?_
            refine r_astore 44 hX dX7_skill_42 rfl ?_
            refine r_aload 46 hX dX7_skill_44 rfl ?_
            refine r_iload_n 47 hX dX7_skill_46 rfl ?_
            refine r_iload_n 48 hX dX7_skill_47 rfl ?_
            refine r_cV2F 51 hX hR tX4_skillOf_6 dX7_skill_48 kX4_skillOf lX7_94 rfl rfl rfl rfl rfl rfl ?_
            refine r_istore 53 hX dX7_skill_51 rfl ?_
            refine r_aload 55 hX dX7_skill_53 rfl ?_
            refine r_iload_n 56 hX dX7_skill_55 rfl ?_
            refine r_iload_n 57 hX dX7_skill_56 rfl ?_
            refine r_iload 59 hX dX7_skill_57 rfl ?_
            refine r_cV3U 62 hX hR tX4_putSkill_6 dX7_skill_59 kX4_putSkill lX7_98 rfl rfl rfl rfl rfl rfl ?_
            refine r_iload 64 hX dX7_skill_62 rfl ?_
            refine r_iret hX hT dX7_skill_64 ?_
            first | exact Or.inl ⟨⟨by assumption, ⟨by assumption, by assumption⟩, by assumption, by assumption⟩, rfl, rfl⟩ | exact Or.inr ⟨by unfold skC; simp [*], rfl, rfl⟩
          · refine r_iconst 36 hX dX7_skill_35 (v := -1) (by decide) ?_
            refine r_iret hX hT dX7_skill_36 ?_
            first | exact Or.inl ⟨⟨by assumption, ⟨by assumption, by assumption⟩, by assumption, by assumption⟩, rfl, rfl⟩ | exact Or.inr ⟨by unfold skC; simp [*], rfl, rfl⟩
set_option maxRecDepth 100000 in
set_option maxHeartbeats 4000000 in
theorem tX7_libre_1 {l : Launch} {G : mx_G} {p : Int32} {M : mx_Mem} : mx_Met l G yX7_libre cX7_libre 5 ((some FieldType.int)) 1 21 [.ref 0, .int 1, .int p] M (fun r M' => (lbC M p ∧ r = some (.int (M.1 6 2)) ∧ M' = mI M 6 2 p) ∨ (¬ lbC M p ∧ r = some (.int (-2)) ∧ M' = M)) := by
  refine mx_enter (own := RX7) (L := [.ref 0, .int 1, .int p, .null, .null]) (by decide +kernel) rfl rfl rfl ?_
  intro X hlX hX hR hT
  refine r_iload_n 1 hX dX7_libre_0 rfl ?_
  refine r_cS1F 4 hX hR tX7_isTeam_1 dX7_libre_1 kX7_isTeam lX7_83 rfl rfl rfl ?_
  refine r_if_eq 7 29 hX dX7_libre_4 (fun c => absurd c (by decide)) (fun _ => ?_)
  refine r_iload_n 8 hX dX7_libre_7 rfl ?_
  refine r_iconst 9 hX dX7_libre_8 (v := -1) (by decide) ?_
  refine r_icmp_eq 12 19 hX dX7_libre_9 (fun c1 => ?_) (fun c1 => ?_)
  · refine r_aload_n 20 hX dX7_libre_19 rfl ?_
    refine r_getR 23 hX dX7_libre_20 fX7_39 rfl rfl rfl ?_
    refine r_getI 26 hX dX7_libre_23 fX7_102 rfl rfl rfl ?_
    refine r_if_eq 29 32 hX dX7_libre_26 (fun c2 => ?_) (fun c2 => ?_)
    · refine r_aload_n 33 hX dX7_libre_32 rfl ?_
      refine r_iload_n 34 hX dX7_libre_33 rfl ?_
      refine r_cV1F 37 hX hR tX7_squadOf_1 dX7_libre_34 kX7_squadOf lX7_90 rfl rfl rfl rfl rfl rfl ?_
      refine r_astore_n 38 hX dX7_libre_37 rfl ?_
      refine r_aload_n 39 hX dX7_libre_38 rfl ?_
      refine r_getI 42 hX dX7_libre_39 fX7_106 rfl rfl rfl ?_
      refine r_istore 44 hX dX7_libre_42 rfl ?_
      refine r_aload_n 45 hX dX7_libre_44 rfl ?_
      refine r_iload_n 46 hX dX7_libre_45 rfl ?_
      refine r_putI 49 hX dX7_libre_46 fX7_106 fp4_2 rfl rfl rfl ?_
      refine r_iload 51 hX dX7_libre_49 rfl ?_
      refine r_iret hX hT dX7_libre_51 ?_
      clear hT hX hR hlX
      first | exact Or.inl ⟨by grind [lbC], rfl, rfl⟩ | exact Or.inr ⟨by grind [lbC], rfl, rfl⟩
    · refine r_bipush 31 hX dX7_libre_29 (v := -2) (by decide) ?_
      refine r_iret hX hT dX7_libre_31 ?_
      clear hT hX hR hlX
      first | exact Or.inl ⟨by grind [lbC], rfl, rfl⟩ | exact Or.inr ⟨by grind [lbC], rfl, rfl⟩
  · refine r_iload_n 13 hX dX7_libre_12 rfl ?_
    refine r_cS1F 16 hX hR tX7_isPlayer dX7_libre_13 kX7_isPlayer lX7_87 rfl rfl rfl ?_
    refine r_Beq 19 29 hX dX7_libre_16 (fun c3 => ?_) (fun c3 => ?_)
    · refine r_bipush 31 hX dX7_libre_29 (v := -2) (by decide) ?_
      refine r_iret hX hT dX7_libre_31 ?_
      clear hT hX hR hlX
      first | exact Or.inl ⟨by grind [lbC], rfl, rfl⟩ | exact Or.inr ⟨by grind [lbC], rfl, rfl⟩
    · refine r_aload_n 20 hX dX7_libre_19 rfl ?_
      refine r_getR 23 hX dX7_libre_20 fX7_39 rfl rfl rfl ?_
      refine r_getI 26 hX dX7_libre_23 fX7_102 rfl rfl rfl ?_
      refine r_if_eq 29 32 hX dX7_libre_26 (fun c4 => ?_) (fun c4 => ?_)
      · refine r_aload_n 33 hX dX7_libre_32 rfl ?_
        refine r_iload_n 34 hX dX7_libre_33 rfl ?_
        refine r_cV1F 37 hX hR tX7_squadOf_1 dX7_libre_34 kX7_squadOf lX7_90 rfl rfl rfl rfl rfl rfl ?_
        refine r_astore_n 38 hX dX7_libre_37 rfl ?_
        refine r_aload_n 39 hX dX7_libre_38 rfl ?_
        refine r_getI 42 hX dX7_libre_39 fX7_106 rfl rfl rfl ?_
        refine r_istore 44 hX dX7_libre_42 rfl ?_
        refine r_aload_n 45 hX dX7_libre_44 rfl ?_
        refine r_iload_n 46 hX dX7_libre_45 rfl ?_
        refine r_putI 49 hX dX7_libre_46 fX7_106 fp4_2 rfl rfl rfl ?_
        refine r_iload 51 hX dX7_libre_49 rfl ?_
        refine r_iret hX hT dX7_libre_51 ?_
        clear hT hX hR hlX
        first | exact Or.inl ⟨by grind [lbC], rfl, rfl⟩ | exact Or.inr ⟨by grind [lbC], rfl, rfl⟩
      · refine r_bipush 31 hX dX7_libre_29 (v := -2) (by decide) ?_
        refine r_iret hX hT dX7_libre_31 ?_
        clear hT hX hR hlX
        first | exact Or.inl ⟨by grind [lbC], rfl, rfl⟩ | exact Or.inr ⟨by grind [lbC], rfl, rfl⟩
set_option maxRecDepth 100000 in
set_option maxHeartbeats 4000000 in
theorem tX7_skill_n {l : Launch} {G : mx_G} {t p w v : Int32} {M : mx_Mem} (ht : ¬ isT t) : mx_Met l G yX7_skill cX7_skill 7 ((some FieldType.int)) 1 24 [.ref 0, .int t, .int p, .int w, .int v] M (mx_F (some (.int (-1))) M) := by
  refine mx_enter (own := RX7) (L := [.ref 0, .int t, .int p, .int w, .int v, .null, .null]) (by decide +kernel) rfl rfl rfl ?_
  intro X hlX hX hR hT
  refine r_iload_n 1 hX dX7_skill_0 rfl ?_
  refine r_cS1F 4 hX hR tX7_isTeam dX7_skill_1 kX7_isTeam lX7_83 rfl rfl rfl ?_
  refine r_Beq 7 35 hX dX7_skill_4 (fun c1 => ?_) (fun c1 => absurd c1 ht)
  refine r_iconst 36 hX dX7_skill_35 (v := -1) (by decide) ?_
  refine r_iret hX hT dX7_skill_36 ?_
  exact ⟨rfl, rfl⟩
set_option maxRecDepth 100000 in
set_option maxHeartbeats 4000000 in
theorem tX7_libre_n {l : Launch} {G : mx_G} {t p : Int32} {M : mx_Mem} (ht : ¬ isT t) : mx_Met l G yX7_libre cX7_libre 5 ((some FieldType.int)) 1 21 [.ref 0, .int t, .int p] M (mx_F (some (.int (-2))) M) := by
  refine mx_enter (own := RX7) (L := [.ref 0, .int t, .int p, .null, .null]) (by decide +kernel) rfl rfl rfl ?_
  intro X hlX hX hR hT
  refine r_iload_n 1 hX dX7_libre_0 rfl ?_
  refine r_cS1F 4 hX hR tX7_isTeam dX7_libre_1 kX7_isTeam lX7_83 rfl rfl rfl ?_
  refine r_Beq 7 29 hX dX7_libre_4 (fun c1 => ?_) (fun c1 => absurd c1 ht)
  refine r_bipush 31 hX dX7_libre_29 (v := -2) (by decide) ?_
  refine r_iret hX hT dX7_libre_31 ?_
  exact ⟨rfl, rfl⟩
def seC (M : mx_Mem) (w v : Int32) : Prop := M.1 19 0 = -1 ∧ nbTk (M.1 2) w v = 1
theorem nbTk_in {f : Nat → Int32} {w v : Int32} (h : nbTk f w v = 1) : 0 ≤ w ∧ ¬ 6 ≤ w := by
  grind [nbTk]
set_option maxRecDepth 100000 in
set_option maxHeartbeats 4000000 in
theorem tX7_set {l : Launch} {G : mx_G} {w v : Int32} {M : mx_Mem} : mx_Met l G yX7_set cX7_set 4 ((some FieldType.int)) 1 22 [.ref 0, .int w, .int v] M (fun r M' => (seC M w v ∧ r = some (.int (M.1 2 w.toNatClampNeg)) ∧ M' = mI M 2 w.toNatClampNeg v) ∨ (¬ seC M w v ∧ r = some (.int (-1)) ∧ M' = M)) := by
  refine mx_enter (own := RX7) (L := [.ref 0, .int w, .int v, .null]) (by decide +kernel) rfl rfl rfl ?_
  intro X hlX hX hR hT
  refine r_aload_n 1 hX dX7_set_0 rfl ?_
  refine r_getR 4 hX dX7_set_1 fX7_39 rfl rfl rfl ?_
  refine r_getI 7 hX dX7_set_4 fX7_109 rfl rfl rfl ?_
  refine r_iconst 8 hX dX7_set_7 (v := -1) (by decide) ?_
  refine r_icmp_ne 11 23 hX dX7_set_8 (fun c1 => ?_) (fun c1 => ?_)
  · refine r_iconst 24 hX dX7_set_23 (v := -1) (by decide) ?_
    refine r_iret hX hT dX7_set_24 ?_
    first | exact Or.inr ⟨by unfold seC; simp [*], rfl, rfl⟩ | exact Or.inl ⟨⟨by assumption, by assumption⟩, by rw [if_pos (nbTk_in (by assumption))], by rw [if_pos (nbTk_in (by assumption))]⟩
  · refine r_aload_n 12 hX dX7_set_11 rfl ?_
    refine r_getR 15 hX dX7_set_12 fX7_10 rfl rfl rfl ?_
    refine r_iload_n 16 hX dX7_set_15 rfl ?_
    refine r_iload_n 17 hX dX7_set_16 rfl ?_
    refine r_cV2F 20 hX hR tX3_takes dX7_set_17 kX3_takes lX7_112 rfl rfl rfl rfl rfl rfl ?_
    refine r_Bne 23 25 hX dX7_set_20 (fun c2 => ?_) (fun c2 => ?_)
    · refine r_aload_n 26 hX dX7_set_25 rfl ?_
      refine r_getR 29 hX dX7_set_26 fX7_10 rfl rfl rfl ?_
      refine r_iload_n 30 hX dX7_set_29 rfl ?_
      refine r_cV1F 33 hX hR tX3_valueOf dX7_set_30 kX3_valueOf lX7_116 rfl rfl rfl rfl rfl rfl ?_
      refine r_istore_n 34 hX dX7_set_33 rfl ?_
      refine r_aload_n 35 hX dX7_set_34 rfl ?_
      refine r_getR 38 hX dX7_set_35 fX7_10 rfl rfl rfl ?_
      refine r_iload_n 39 hX dX7_set_38 rfl ?_
      refine r_iload_n 40 hX dX7_set_39 rfl ?_
      refine r_cV2U 43 hX hR tX3_putValue dX7_set_40 kX3_putValue lX7_120 rfl rfl rfl rfl rfl rfl ?_
      refine r_iload_n 44 hX dX7_set_43 rfl ?_
      refine r_iret hX hT dX7_set_44 ?_
      first | exact Or.inr ⟨by unfold seC; simp [*], rfl, rfl⟩ | exact Or.inl ⟨⟨by assumption, by assumption⟩, by rw [if_pos (nbTk_in (by assumption))], by rw [if_pos (nbTk_in (by assumption))]⟩
    · refine r_iconst 24 hX dX7_set_23 (v := -1) (by decide) ?_
      refine r_iret hX hT dX7_set_24 ?_
      first | exact Or.inr ⟨by unfold seC; simp [*], rfl, rfl⟩ | exact Or.inl ⟨⟨by assumption, by assumption⟩, by rw [if_pos (nbTk_in (by assumption))], by rw [if_pos (nbTk_in (by assumption))]⟩

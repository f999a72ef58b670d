/-! Course, Stance, Text -/
def coS (M : mx_Mem) (t : Int32) : mx_Mem := mI (mI (mI (mI (mI (mI M 19 0 (M.1 19 0 + 1)) 19 1 1) 19 2 t) 19 3 0) 19 4 0) 19 5 (-1)
set_option maxRecDepth 100000 in
set_option maxHeartbeats 4000000 in
theorem tX1_startSet {l : Launch} {G : mx_G} {t : Int32} {M : mx_Mem} : mx_Met l G yX1_startSet cX1_startSet 2 (none) 0 0 [.ref 19, .int t] M (mx_F none (coS M t)) := by
  refine mx_enter (own := RX1) (L := [.ref 19, .int t]) (by decide +kernel) rfl rfl rfl ?_
  intro X hlX hX hR hT
  refine r_aload_n 1 hX dX1_startSet_0 rfl ?_
  refine r_dup 2 hX dX1_startSet_1 rfl ?_
  refine r_getI 5 hX dX1_startSet_2 fX1_9 rfl rfl rfl ?_
  refine r_iconst 6 hX dX1_startSet_5 (v := 1) (by decide) ?_
  refine r_iadd 7 hX dX1_startSet_6 ?_
  refine r_putI 10 hX dX1_startSet_7 fX1_9 fp1_0 rfl rfl rfl ?_
  refine r_aload_n 11 hX dX1_startSet_10 rfl ?_
  refine r_iconst 12 hX dX1_startSet_11 (v := 1) (by decide) ?_
  refine r_putZ 15 hX dX1_startSet_12 fX1_15 fp1_1 rfl rfl rfl (by first | assumption | decide) ?_
  refine r_aload_n 16 hX dX1_startSet_15 rfl ?_
  refine r_iload_n 17 hX dX1_startSet_16 rfl ?_
  refine r_putI 20 hX dX1_startSet_17 fX1_19 fp1_2 rfl rfl rfl ?_
  refine r_aload_n 21 hX dX1_startSet_20 rfl ?_
  refine r_iconst 22 hX dX1_startSet_21 (v := 0) (by decide) ?_
  refine r_putI 25 hX dX1_startSet_22 fX1_22 fp1_3 rfl rfl rfl ?_
  refine r_aload_n 26 hX dX1_startSet_25 rfl ?_
  refine r_iconst 27 hX dX1_startSet_26 (v := 0) (by decide) ?_
  refine r_putI 30 hX dX1_startSet_27 fX1_25 fp1_4 rfl rfl rfl ?_
  refine r_aload_n 31 hX dX1_startSet_30 rfl ?_
  refine r_iconst 32 hX dX1_startSet_31 (v := -1) (by decide) ?_
  refine r_putI 35 hX dX1_startSet_32 fX1_28 fp1_5 rfl rfl rfl ?_
  refine r_vret hX hT dX1_startSet_35 ?_
  exact ⟨rfl, rfl⟩
def mCp7 (M : mx_Mem) (a b : Nat) : mx_Mem := mI (mI (mI (mI (mI (mI (mI M a 0 (M.1 b 0)) a 1 (M.1 b 1)) a 2 (M.1 b 2)) a 3 (M.1 b 3)) a 4 (M.1 b 4)) a 5 (M.1 b 5)) a 6 (M.1 b 6)
set_option maxRecDepth 100000 in
set_option maxHeartbeats 4000000 in
theorem tX1_copyFrom_19 {l : Launch} {G : mx_G} {M : mx_Mem} (hb : M.1 30 1 = 0 ∨ M.1 30 1 = 1) : mx_Met l G yX1_copyFrom cX1_copyFrom 2 (none) 0 0 [.ref 19, .ref 30] M (mx_F none (mCp7 M 19 30)) := by
  refine mx_enter (own := RX1) (L := [.ref 19, .ref 30]) (by decide +kernel) rfl rfl rfl ?_
  intro X hlX hX hR hT
  refine r_aload_n 1 hX dX1_copyFrom_0 rfl ?_
  refine r_aload_n 2 hX dX1_copyFrom_1 rfl ?_
  refine r_getI 5 hX dX1_copyFrom_2 fX1_9 rfl rfl rfl ?_
  refine r_putI 8 hX dX1_copyFrom_5 fX1_9 fp1_0 rfl rfl rfl ?_
  refine r_aload_n 9 hX dX1_copyFrom_8 rfl ?_
  refine r_aload_n 10 hX dX1_copyFrom_9 rfl ?_
  refine r_getI 13 hX dX1_copyFrom_10 fX1_15 rfl rfl rfl ?_
  refine r_putZ 16 hX dX1_copyFrom_13 fX1_15 fp1_1 rfl rfl rfl hb ?_
  refine r_aload_n 17 hX dX1_copyFrom_16 rfl ?_
  refine r_aload_n 18 hX dX1_copyFrom_17 rfl ?_
  refine r_getI 21 hX dX1_copyFrom_18 fX1_19 rfl rfl rfl ?_
  refine r_putI 24 hX dX1_copyFrom_21 fX1_19 fp1_2 rfl rfl rfl ?_
  refine r_aload_n 25 hX dX1_copyFrom_24 rfl ?_
  refine r_aload_n 26 hX dX1_copyFrom_25 rfl ?_
  refine r_getI 29 hX dX1_copyFrom_26 fX1_22 rfl rfl rfl ?_
  refine r_putI 32 hX dX1_copyFrom_29 fX1_22 fp1_3 rfl rfl rfl ?_
  refine r_aload_n 33 hX dX1_copyFrom_32 rfl ?_
  refine r_aload_n 34 hX dX1_copyFrom_33 rfl ?_
  refine r_getI 37 hX dX1_copyFrom_34 fX1_25 rfl rfl rfl ?_
  refine r_putI 40 hX dX1_copyFrom_37 fX1_25 fp1_4 rfl rfl rfl ?_
  refine r_aload_n 41 hX dX1_copyFrom_40 rfl ?_
  refine r_aload_n 42 hX dX1_copyFrom_41 rfl ?_
  refine r_getI 45 hX dX1_copyFrom_42 fX1_28 rfl rfl rfl ?_
  refine r_putI 48 hX dX1_copyFrom_45 fX1_28 fp1_5 rfl rfl rfl ?_
  refine r_aload_n 49 hX dX1_copyFrom_48 rfl ?_
  refine r_aload_n 50 hX dX1_copyFrom_49 rfl ?_
  refine r_getI 53 hX dX1_copyFrom_50 fX1_31 rfl rfl rfl ?_
  refine r_putI 56 hX dX1_copyFrom_53 fX1_31 fp1_6 rfl rfl rfl ?_
  refine r_vret hX hT dX1_copyFrom_56 ?_
  exact ⟨rfl, rfl⟩
set_option maxRecDepth 100000 in
set_option maxHeartbeats 4000000 in
theorem tX1_copyFrom_30 {l : Launch} {G : mx_G} {M : mx_Mem} (hb : M.1 19 1 = 0 ∨ M.1 19 1 = 1) : mx_Met l G yX1_copyFrom cX1_copyFrom 2 (none) 0 0 [.ref 30, .ref 19] M (mx_F none (mCp7 M 30 19)) := by
  refine mx_enter (own := RX1) (L := [.ref 30, .ref 19]) (by decide +kernel) rfl rfl rfl ?_
  intro X hlX hX hR hT
  refine r_aload_n 1 hX dX1_copyFrom_0 rfl ?_
  refine r_aload_n 2 hX dX1_copyFrom_1 rfl ?_
  refine r_getI 5 hX dX1_copyFrom_2 fX1_9 rfl rfl rfl ?_
  refine r_putI 8 hX dX1_copyFrom_5 fX1_9 fp1_0 rfl rfl rfl ?_
  refine r_aload_n 9 hX dX1_copyFrom_8 rfl ?_
  refine r_aload_n 10 hX dX1_copyFrom_9 rfl ?_
  refine r_getI 13 hX dX1_copyFrom_10 fX1_15 rfl rfl rfl ?_
  refine r_putZ 16 hX dX1_copyFrom_13 fX1_15 fp1_1 rfl rfl rfl hb ?_
  refine r_aload_n 17 hX dX1_copyFrom_16 rfl ?_
  refine r_aload_n 18 hX dX1_copyFrom_17 rfl ?_
  refine r_getI 21 hX dX1_copyFrom_18 fX1_19 rfl rfl rfl ?_
  refine r_putI 24 hX dX1_copyFrom_21 fX1_19 fp1_2 rfl rfl rfl ?_
  refine r_aload_n 25 hX dX1_copyFrom_24 rfl ?_
  refine r_aload_n 26 hX dX1_copyFrom_25 rfl ?_
  refine r_getI 29 hX dX1_copyFrom_26 fX1_22 rfl rfl rfl ?_
  refine r_putI 32 hX dX1_copyFrom_29 fX1_22 fp1_3 rfl rfl rfl ?_
  refine r_aload_n 33 hX dX1_copyFrom_32 rfl ?_
  refine r_aload_n 34 hX dX1_copyFrom_33 rfl ?_
  refine r_getI 37 hX dX1_copyFrom_34 fX1_25 rfl rfl rfl ?_
  refine r_putI 40 hX dX1_copyFrom_37 fX1_25 fp1_4 rfl rfl rfl ?_
  refine r_aload_n 41 hX dX1_copyFrom_40 rfl ?_
  refine r_aload_n 42 hX dX1_copyFrom_41 rfl ?_
  refine r_getI 45 hX dX1_copyFrom_42 fX1_28 rfl rfl rfl ?_
  refine r_putI 48 hX dX1_copyFrom_45 fX1_28 fp1_5 rfl rfl rfl ?_
  refine r_aload_n 49 hX dX1_copyFrom_48 rfl ?_
  refine r_aload_n 50 hX dX1_copyFrom_49 rfl ?_
  refine r_getI 53 hX dX1_copyFrom_50 fX1_31 rfl rfl rfl ?_
  refine r_putI 56 hX dX1_copyFrom_53 fX1_31 fp1_6 rfl rfl rfl ?_
  refine r_vret hX hT dX1_copyFrom_56 ?_
  exact ⟨rfl, rfl⟩
def feX (f : Nat → Int32) : Nat → Int32 := va_cpy (fun i => ([800, 800, 500, 200, 200, 500] : List Int32).getD i 0) f 0 0 6
def feY (f : Nat → Int32) : Nat → Int32 := va_cpy (fun i => ([800, 200, 200, 200, 800, 800] : List Int32).getD i 0) f 0 0 6
def stF (M : mx_Mem) (s : Nat) : mx_Mem := mR (mR M (s + 1) (feX (M.1 (s + 1)))) (s + 2) (feY (M.1 (s + 2)))
def ovG (h : Bool) (a b : Int32) (r : Int32) (e : Int32) : Int32 := if h then (if b ≤ a then r else e) else e
/-- the first broken rule -/
def ovl (s : Bool) (x y : Nat → Int32) : Int32 :=
  ovG (!s) (y 1) (y 0) 0 (ovG true (y 2) (y 5) 1 (ovG true (y 3) (y 4) 2 (ovG true (x 3) (x 2) 3 (ovG true (x 2) (x 1) 4 (ovG true (x 4) (x 5) 5 (ovG (!s) (x 5) (x 0) 6 (-2)))))))
set_option maxRecDepth 100000 in
set_option maxHeartbeats 4000000 in
theorem tX5_stand_31 {l : Launch} {G : mx_G} {M : mx_Mem} : mx_Met l G yX5_stand cX5_stand 1 (none) 1 60 [.ref 31] M (mx_F none (stF M 31)) := by
  refine mx_enter (own := RX5) (L := [.ref 31]) (by decide +kernel) rfl rfl rfl ?_
  intro X hlX hX hR hT
  refine r_gets 3 hX dX5_stand_0 sX5_18 ?_
  refine r_iconst 4 hX dX5_stand_3 (v := 0) (by decide) ?_
  refine r_aload_n 5 hX dX5_stand_4 rfl ?_
  refine r_getR 8 hX dX5_stand_5 fX5_9 rfl rfl rfl ?_
  refine r_iconst 9 hX dX5_stand_8 (v := 0) (by decide) ?_
  refine r_bipush 11 hX dX5_stand_9 (v := 6) (by decide) ?_
  refine r_copyT 14 hX 4 hR dX5_stand_11 lX5_21 rfl rfl rfl (by decide) rfl rfl rfl ?_
  refine r_gets 17 hX dX5_stand_14 sX5_27 ?_
  refine r_iconst 18 hX dX5_stand_17 (v := 0) (by decide) ?_
  refine r_aload_n 19 hX dX5_stand_18 rfl ?_
  refine r_getR 22 hX dX5_stand_19 fX5_15 rfl rfl rfl ?_
  refine r_iconst 23 hX dX5_stand_22 (v := 0) (by decide) ?_
  refine r_bipush 25 hX dX5_stand_23 (v := 6) (by decide) ?_
  refine r_copyT 28 hX 5 hR dX5_stand_25 lX5_21 rfl rfl rfl (by decide) rfl rfl rfl ?_
  refine r_vret hX hT dX5_stand_28 ?_
  exact ⟨rfl, rfl⟩
set_option maxRecDepth 100000 in
set_option maxHeartbeats 4000000 in
theorem tX5_put_31 {l : Launch} {G : mx_G} {p a b : Int32} {M : mx_Mem} (h1 : 0 ≤ p) (h2 : ¬ 6 ≤ p) : mx_Met l G yX5_put cX5_put 4 (none) 0 0 [.ref 31, .int p, .int a, .int b] M (mx_F none (mI (mI M 32 p.toNatClampNeg a) 33 p.toNatClampNeg b)) := by
  refine mx_enter (own := RX5) (L := [.ref 31, .int p, .int a, .int b]) (by decide +kernel) rfl rfl rfl ?_
  intro X hlX hX hR hT
  refine r_iload_n 1 hX dX5_put_0 rfl ?_
  refine r_If_lt 4 24 hX dX5_put_1 (fun c1 => absurd h1 c1) (fun c1 => ?_)
  refine r_iload_n 5 hX dX5_put_4 rfl ?_
  refine r_bipush 7 hX dX5_put_5 (v := 6) (by decide) ?_
  refine r_icmp_ge 10 24 hX dX5_put_7 (fun c2 => absurd c2 h2) (fun c2 => ?_)
  refine r_aload_n 11 hX dX5_put_10 rfl ?_
  refine r_getR 14 hX dX5_put_11 fX5_9 rfl rfl rfl ?_
  refine r_iload_n 15 hX dX5_put_14 rfl ?_
  refine r_iload_n 16 hX dX5_put_15 rfl ?_
  refine r_iast 17 hX dX5_put_16 rfl rfl (by first | assumption | exact vpK rfl | exact vpP (by assumption) | exact vp6 (by assumption) (by assumption) | exact vp12 (by assumption) (by assumption) | exact vp48 (by assumption) (by assumption) | exact vp100 (by assumption) (by assumption)) ?_
  refine r_aload_n 18 hX dX5_put_17 rfl ?_
  refine r_getR 21 hX dX5_put_18 fX5_15 rfl rfl rfl ?_
  refine r_iload_n 22 hX dX5_put_21 rfl ?_
  refine r_iload_n 23 hX dX5_put_22 rfl ?_
  refine r_iast 24 hX dX5_put_23 rfl rfl (by first | assumption | exact vpK rfl | exact vpP (by assumption) | exact vp6 (by assumption) (by assumption) | exact vp12 (by assumption) (by assumption) | exact vp48 (by assumption) (by assumption) | exact vp100 (by assumption) (by assumption)) ?_
  refine r_vret hX hT dX5_put_24 ?_
  exact ⟨rfl, rfl⟩
set_option maxRecDepth 100000 in
set_option maxHeartbeats 4000000 in
theorem tX5_firstBroken_31_0 {l : Launch} {G : mx_G} {M : mx_Mem} : mx_Met l G yX5_firstBroken cX5_firstBroken 5 ((some FieldType.int)) 0 0 [.ref 31, .int 0] M (mx_F (some (.int (ovl false (M.1 32) (M.1 33)))) M) := by
  refine mx_enter (own := RX5) (L := [.ref 31, .int 0, .null, .null, .null]) (by decide +kernel) rfl rfl rfl ?_
  intro X hlX hX hR hT
  refine r_iconst 1 hX dX5_firstBroken_0 (v := 0) (by decide) ?_
  refine r_istore_n 2 hX dX5_firstBroken_1 rfl ?_
  refine r_iload_n 3 hX dX5_firstBroken_2 rfl ?_
  refine r_gets 6 hX dX5_firstBroken_3 sX5_30 ?_
  refine r_tlen 7 hX dX5_firstBroken_6 (j := 6) rfl (v := 7) (by decide) ?_
  refine r_icmp_ge 10 77 hX dX5_firstBroken_7 (fun c => absurd c (by decide)) (fun _ => ?_)
  refine r_iload_n 11 hX dX5_firstBroken_10 rfl ?_
  refine r_if_eq 14 22 hX dX5_firstBroken_11 (fun _ => ?_) (fun c => absurd c (by decide))
  refine r_iconst 23 hX dX5_firstBroken_22 (v := 1) (by decide) ?_
  refine r_goto 27 hX dX5_firstBroken_23 ?_
  refine r_istore_n 28 hX dX5_firstBroken_27 rfl ?_
  refine r_iload_n 29 hX dX5_firstBroken_28 rfl ?_
  refine r_iconst 30 hX dX5_firstBroken_29 (v := 3) (by decide) ?_
  refine r_icmp_ge 33 40 hX dX5_firstBroken_30 (fun c => absurd c (by decide)) (fun _ => ?_)
  refine r_aload_n 34 hX dX5_firstBroken_33 rfl ?_
  refine r_getR 37 hX dX5_firstBroken_34 fX5_15 rfl rfl rfl ?_
  refine r_goto 44 hX dX5_firstBroken_37 ?_
  refine r_astore 46 hX dX5_firstBroken_44 rfl ?_
  refine (show mx_WW G X 46 [_, _, _, _, _] _ _ from ?_)
  refine r_iload_n 47 hX dX5_firstBroken_46 rfl ?_
  refine r_if_eq 50 71 hX dX5_firstBroken_47 (fun c => absurd c (by decide)) (fun _ => ?_)
  refine r_aload 52 hX dX5_firstBroken_50 rfl ?_
  refine r_gets 55 hX dX5_firstBroken_52 sX5_30 ?_
  refine r_iload_n 56 hX dX5_firstBroken_55 rfl ?_
  refine r_taldK 57 hX dX5_firstBroken_56 (j := 6) rfl (vpK rfl) (v := 1) (by decide) ?_
  refine r_ialdK 58 hX dX5_firstBroken_57 rfl rfl (vpK rfl) (j := 1) (by decide) ?_
  refine r_aload 60 hX dX5_firstBroken_58 rfl ?_
  refine r_gets 63 hX dX5_firstBroken_60 sX5_33 ?_
  refine r_iload_n 64 hX dX5_firstBroken_63 rfl ?_
  refine r_taldK 65 hX dX5_firstBroken_64 (j := 7) rfl (vpK rfl) (v := 0) (by decide) ?_
  refine r_ialdK 66 hX dX5_firstBroken_65 rfl rfl (vpK rfl) (j := 0) (by decide) ?_
  refine r_Icmp_lt 69 71 hX dX5_firstBroken_66 (fun c1 => ?_) (fun c1 => ?_)
  · refine r_iincK 74 hX dX5_firstBroken_71 rfl (w := 1) (by decide) rfl ?_
    refine r_goto 2 hX dX5_firstBroken_74 ?_
    refine r_iload_n 3 hX dX5_firstBroken_2 rfl ?_
    refine r_gets 6 hX dX5_firstBroken_3 sX5_30 ?_
    refine r_tlen 7 hX dX5_firstBroken_6 (j := 6) rfl (v := 7) (by decide) ?_
    refine r_icmp_ge 10 77 hX dX5_firstBroken_7 (fun c => absurd c (by decide)) (fun _ => ?_)
    refine r_iload_n 11 hX dX5_firstBroken_10 rfl ?_
    refine r_if_eq 14 22 hX dX5_firstBroken_11 (fun _ => ?_) (fun c => absurd c (by decide))
    refine r_iconst 23 hX dX5_firstBroken_22 (v := 1) (by decide) ?_
    refine r_goto 27 hX dX5_firstBroken_23 ?_
    refine r_istore_n 28 hX dX5_firstBroken_27 rfl ?_
    refine r_iload_n 29 hX dX5_firstBroken_28 rfl ?_
    refine r_iconst 30 hX dX5_firstBroken_29 (v := 3) (by decide) ?_
    refine r_icmp_ge 33 40 hX dX5_firstBroken_30 (fun c => absurd c (by decide)) (fun _ => ?_)
    refine r_aload_n 34 hX dX5_firstBroken_33 rfl ?_
    refine r_getR 37 hX dX5_firstBroken_34 fX5_15 rfl rfl rfl ?_
    refine r_goto 44 hX dX5_firstBroken_37 ?_
    refine r_astore 46 hX dX5_firstBroken_44 rfl ?_
    refine (show mx_WW G X 46 [_, _, _, _, _] _ _ from ?_)
    refine r_iload_n 47 hX dX5_firstBroken_46 rfl ?_
    refine r_if_eq 50 71 hX dX5_firstBroken_47 (fun c => absurd c (by decide)) (fun _ => ?_)
    refine r_aload 52 hX dX5_firstBroken_50 rfl ?_
    refine r_gets 55 hX dX5_firstBroken_52 sX5_30 ?_
    refine r_iload_n 56 hX dX5_firstBroken_55 rfl ?_
    refine r_taldK 57 hX dX5_firstBroken_56 (j := 6) rfl (vpK rfl) (v := 2) (by decide) ?_
    refine r_ialdK 58 hX dX5_firstBroken_57 rfl rfl (vpK rfl) (j := 2) (by decide) ?_
    refine r_aload 60 hX dX5_firstBroken_58 rfl ?_
    refine r_gets 63 hX dX5_firstBroken_60 sX5_33 ?_
    refine r_iload_n 64 hX dX5_firstBroken_63 rfl ?_
    refine r_taldK 65 hX dX5_firstBroken_64 (j := 7) rfl (vpK rfl) (v := 5) (by decide) ?_
    refine r_ialdK 66 hX dX5_firstBroken_65 rfl rfl (vpK rfl) (j := 5) (by decide) ?_
    refine r_Icmp_lt 69 71 hX dX5_firstBroken_66 (fun c2 => ?_) (fun c2 => ?_)
    · refine r_iincK 74 hX dX5_firstBroken_71 rfl (w := 2) (by decide) rfl ?_
      refine r_goto 2 hX dX5_firstBroken_74 ?_
      refine r_iload_n 3 hX dX5_firstBroken_2 rfl ?_
      refine r_gets 6 hX dX5_firstBroken_3 sX5_30 ?_
      refine r_tlen 7 hX dX5_firstBroken_6 (j := 6) rfl (v := 7) (by decide) ?_
      refine r_icmp_ge 10 77 hX dX5_firstBroken_7 (fun c => absurd c (by decide)) (fun _ => ?_)
      refine r_iload_n 11 hX dX5_firstBroken_10 rfl ?_
      refine r_if_eq 14 22 hX dX5_firstBroken_11 (fun _ => ?_) (fun c => absurd c (by decide))
      refine r_iconst 23 hX dX5_firstBroken_22 (v := 1) (by decide) ?_
      refine r_goto 27 hX dX5_firstBroken_23 ?_
      refine r_istore_n 28 hX dX5_firstBroken_27 rfl ?_
      refine r_iload_n 29 hX dX5_firstBroken_28 rfl ?_
      refine r_iconst 30 hX dX5_firstBroken_29 (v := 3) (by decide) ?_
      refine r_icmp_ge 33 40 hX dX5_firstBroken_30 (fun c => absurd c (by decide)) (fun _ => ?_)
      refine r_aload_n 34 hX dX5_firstBroken_33 rfl ?_
      refine r_getR 37 hX dX5_firstBroken_34 fX5_15 rfl rfl rfl ?_
      refine r_goto 44 hX dX5_firstBroken_37 ?_
      refine r_astore 46 hX dX5_firstBroken_44 rfl ?_
      refine (show mx_WW G X 46 [_, _, _, _, _] _ _ from ?_)
      refine r_iload_n 47 hX dX5_firstBroken_46 rfl ?_
      refine r_if_eq 50 71 hX dX5_firstBroken_47 (fun c => absurd c (by decide)) (fun _ => ?_)
      refine r_aload 52 hX dX5_firstBroken_50 rfl ?_
      refine r_gets 55 hX dX5_firstBroken_52 sX5_30 ?_
      refine r_iload_n 56 hX dX5_firstBroken_55 rfl ?_
      refine r_taldK 57 hX dX5_firstBroken_56 (j := 6) rfl (vpK rfl) (v := 3) (by decide) ?_
      refine r_ialdK 58 hX dX5_firstBroken_57 rfl rfl (vpK rfl) (j := 3) (by decide) ?_
      refine r_aload 60 hX dX5_firstBroken_58 rfl ?_
      refine r_gets 63 hX dX5_firstBroken_60 sX5_33 ?_
      refine r_iload_n 64 hX dX5_firstBroken_63 rfl ?_
      refine r_taldK 65 hX dX5_firstBroken_64 (j := 7) rfl (vpK rfl) (v := 4) (by decide) ?_
      refine r_ialdK 66 hX dX5_firstBroken_65 rfl rfl (vpK rfl) (j := 4) (by decide) ?_
      refine r_Icmp_lt 69 71 hX dX5_firstBroken_66 (fun c3 => ?_) (fun c3 => ?_)
      · refine r_iincK 74 hX dX5_firstBroken_71 rfl (w := 3) (by decide) rfl ?_
        refine r_goto 2 hX dX5_firstBroken_74 ?_
        refine r_iload_n 3 hX dX5_firstBroken_2 rfl ?_
        refine r_gets 6 hX dX5_firstBroken_3 sX5_30 ?_
        refine r_tlen 7 hX dX5_firstBroken_6 (j := 6) rfl (v := 7) (by decide) ?_
        refine r_icmp_ge 10 77 hX dX5_firstBroken_7 (fun c => absurd c (by decide)) (fun _ => ?_)
        refine r_iload_n 11 hX dX5_firstBroken_10 rfl ?_
        refine r_if_eq 14 22 hX dX5_firstBroken_11 (fun _ => ?_) (fun c => absurd c (by decide))
        refine r_iconst 23 hX dX5_firstBroken_22 (v := 1) (by decide) ?_
        refine r_goto 27 hX dX5_firstBroken_23 ?_
        refine r_istore_n 28 hX dX5_firstBroken_27 rfl ?_
        refine r_iload_n 29 hX dX5_firstBroken_28 rfl ?_
        refine r_iconst 30 hX dX5_firstBroken_29 (v := 3) (by decide) ?_
        refine r_icmp_ge 33 40 hX dX5_firstBroken_30 (fun _ => ?_) (fun c => absurd c (by decide))
        refine r_aload_n 41 hX dX5_firstBroken_40 rfl ?_
        refine r_getR 44 hX dX5_firstBroken_41 fX5_9 rfl rfl rfl ?_
        refine r_astore 46 hX dX5_firstBroken_44 rfl ?_
        refine (show mx_WW G X 46 [_, _, _, _, _] _ _ from ?_)
        refine r_iload_n 47 hX dX5_firstBroken_46 rfl ?_
        refine r_if_eq 50 71 hX dX5_firstBroken_47 (fun c => absurd c (by decide)) (fun _ => ?_)
        refine r_aload 52 hX dX5_firstBroken_50 rfl ?_
        refine r_gets 55 hX dX5_firstBroken_52 sX5_30 ?_
        refine r_iload_n 56 hX dX5_firstBroken_55 rfl ?_
        refine r_taldK 57 hX dX5_firstBroken_56 (j := 6) rfl (vpK rfl) (v := 3) (by decide) ?_
        refine r_ialdK 58 hX dX5_firstBroken_57 rfl rfl (vpK rfl) (j := 3) (by decide) ?_
        refine r_aload 60 hX dX5_firstBroken_58 rfl ?_
        refine r_gets 63 hX dX5_firstBroken_60 sX5_33 ?_
        refine r_iload_n 64 hX dX5_firstBroken_63 rfl ?_
        refine r_taldK 65 hX dX5_firstBroken_64 (j := 7) rfl (vpK rfl) (v := 2) (by decide) ?_
        refine r_ialdK 66 hX dX5_firstBroken_65 rfl rfl (vpK rfl) (j := 2) (by decide) ?_
        refine r_Icmp_lt 69 71 hX dX5_firstBroken_66 (fun c4 => ?_) (fun c4 => ?_)
        · refine r_iincK 74 hX dX5_firstBroken_71 rfl (w := 4) (by decide) rfl ?_
          refine r_goto 2 hX dX5_firstBroken_74 ?_
          refine r_iload_n 3 hX dX5_firstBroken_2 rfl ?_
          refine r_gets 6 hX dX5_firstBroken_3 sX5_30 ?_
          refine r_tlen 7 hX dX5_firstBroken_6 (j := 6) rfl (v := 7) (by decide) ?_
          refine r_icmp_ge 10 77 hX dX5_firstBroken_7 (fun c => absurd c (by decide)) (fun _ => ?_)
          refine r_iload_n 11 hX dX5_firstBroken_10 rfl ?_
          refine r_if_eq 14 22 hX dX5_firstBroken_11 (fun _ => ?_) (fun c => absurd c (by decide))
          refine r_iconst 23 hX dX5_firstBroken_22 (v := 1) (by decide) ?_
          refine r_goto 27 hX dX5_firstBroken_23 ?_
          refine r_istore_n 28 hX dX5_firstBroken_27 rfl ?_
          refine r_iload_n 29 hX dX5_firstBroken_28 rfl ?_
          refine r_iconst 30 hX dX5_firstBroken_29 (v := 3) (by decide) ?_
          refine r_icmp_ge 33 40 hX dX5_firstBroken_30 (fun _ => ?_) (fun c => absurd c (by decide))
          refine r_aload_n 41 hX dX5_firstBroken_40 rfl ?_
          refine r_getR 44 hX dX5_firstBroken_41 fX5_9 rfl rfl rfl ?_
          refine r_astore 46 hX dX5_firstBroken_44 rfl ?_
          refine (show mx_WW G X 46 [_, _, _, _, _] _ _ from ?_)
          refine r_iload_n 47 hX dX5_firstBroken_46 rfl ?_
          refine r_if_eq 50 71 hX dX5_firstBroken_47 (fun c => absurd c (by decide)) (fun _ => ?_)
          refine r_aload 52 hX dX5_firstBroken_50 rfl ?_
          refine r_gets 55 hX dX5_firstBroken_52 sX5_30 ?_
          refine r_iload_n 56 hX dX5_firstBroken_55 rfl ?_
          refine r_taldK 57 hX dX5_firstBroken_56 (j := 6) rfl (vpK rfl) (v := 2) (by decide) ?_
          refine r_ialdK 58 hX dX5_firstBroken_57 rfl rfl (vpK rfl) (j := 2) (by decide) ?_
          refine r_aload 60 hX dX5_firstBroken_58 rfl ?_
          refine r_gets 63 hX dX5_firstBroken_60 sX5_33 ?_
          refine r_iload_n 64 hX dX5_firstBroken_63 rfl ?_
          refine r_taldK 65 hX dX5_firstBroken_64 (j := 7) rfl (vpK rfl) (v := 1) (by decide) ?_
          refine r_ialdK 66 hX dX5_firstBroken_65 rfl rfl (vpK rfl) (j := 1) (by decide) ?_
          refine r_Icmp_lt 69 71 hX dX5_firstBroken_66 (fun c5 => ?_) (fun c5 => ?_)
          · refine r_iincK 74 hX dX5_firstBroken_71 rfl (w := 5) (by decide) rfl ?_
            refine r_goto 2 hX dX5_firstBroken_74 ?_
            refine r_iload_n 3 hX dX5_firstBroken_2 rfl ?_
            refine r_gets 6 hX dX5_firstBroken_3 sX5_30 ?_
            refine r_tlen 7 hX dX5_firstBroken_6 (j := 6) rfl (v := 7) (by decide) ?_
            refine r_icmp_ge 10 77 hX dX5_firstBroken_7 (fun c => absurd c (by decide)) (fun _ => ?_)
            refine r_iload_n 11 hX dX5_firstBroken_10 rfl ?_
            refine r_if_eq 14 22 hX dX5_firstBroken_11 (fun _ => ?_) (fun c => absurd c (by decide))
            refine r_iconst 23 hX dX5_firstBroken_22 (v := 1) (by decide) ?_
            refine r_goto 27 hX dX5_firstBroken_23 ?_
            refine r_istore_n 28 hX dX5_firstBroken_27 rfl ?_
            refine r_iload_n 29 hX dX5_firstBroken_28 rfl ?_
            refine r_iconst 30 hX dX5_firstBroken_29 (v := 3) (by decide) ?_
            refine r_icmp_ge 33 40 hX dX5_firstBroken_30 (fun _ => ?_) (fun c => absurd c (by decide))
            refine r_aload_n 41 hX dX5_firstBroken_40 rfl ?_
            refine r_getR 44 hX dX5_firstBroken_41 fX5_9 rfl rfl rfl ?_
            refine r_astore 46 hX dX5_firstBroken_44 rfl ?_
            refine (show mx_WW G X 46 [_, _, _, _, _] _ _ from ?_)
            refine r_iload_n 47 hX dX5_firstBroken_46 rfl ?_
            refine r_if_eq 50 71 hX dX5_firstBroken_47 (fun c => absurd c (by decide)) (fun _ => ?_)
            refine r_aload 52 hX dX5_firstBroken_50 rfl ?_
            refine r_gets 55 hX dX5_firstBroken_52 sX5_30 ?_
            refine r_iload_n 56 hX dX5_firstBroken_55 rfl ?_
            refine r_taldK 57 hX dX5_firstBroken_56 (j := 6) rfl (vpK rfl) (v := 4) (by decide) ?_
            refine r_ialdK 58 hX dX5_firstBroken_57 rfl rfl (vpK rfl) (j := 4) (by decide) ?_
            refine r_aload 60 hX dX5_firstBroken_58 rfl ?_
            refine r_gets 63 hX dX5_firstBroken_60 sX5_33 ?_
            refine r_iload_n 64 hX dX5_firstBroken_63 rfl ?_
            refine r_taldK 65 hX dX5_firstBroken_64 (j := 7) rfl (vpK rfl) (v := 5) (by decide) ?_
            refine r_ialdK 66 hX dX5_firstBroken_65 rfl rfl (vpK rfl) (j := 5) (by decide) ?_
            refine r_Icmp_lt 69 71 hX dX5_firstBroken_66 (fun c6 => ?_) (fun c6 => ?_)
            · refine r_iincK 74 hX dX5_firstBroken_71 rfl (w := 6) (by decide) rfl ?_
              refine r_goto 2 hX dX5_firstBroken_74 ?_
              refine r_iload_n 3 hX dX5_firstBroken_2 rfl ?_
              refine r_gets 6 hX dX5_firstBroken_3 sX5_30 ?_
              refine r_tlen 7 hX dX5_firstBroken_6 (j := 6) rfl (v := 7) (by decide) ?_
              refine r_icmp_ge 10 77 hX dX5_firstBroken_7 (fun c => absurd c (by decide)) (fun _ => ?_)
              refine r_iload_n 11 hX dX5_firstBroken_10 rfl ?_
              refine r_if_eq 14 22 hX dX5_firstBroken_11 (fun _ => ?_) (fun c => absurd c (by decide))
              refine r_iconst 23 hX dX5_firstBroken_22 (v := 1) (by decide) ?_
              refine r_goto 27 hX dX5_firstBroken_23 ?_
              refine r_istore_n 28 hX dX5_firstBroken_27 rfl ?_
              refine r_iload_n 29 hX dX5_firstBroken_28 rfl ?_
              refine r_iconst 30 hX dX5_firstBroken_29 (v := 3) (by decide) ?_
              refine r_icmp_ge 33 40 hX dX5_firstBroken_30 (fun _ => ?_) (fun c => absurd c (by decide))
              refine r_aload_n 41 hX dX5_firstBroken_40 rfl ?_
              refine r_getR 44 hX dX5_firstBroken_41 fX5_9 rfl rfl rfl ?_
              refine r_astore 46 hX dX5_firstBroken_44 rfl ?_
              refine (show mx_WW G X 46 [_, _, _, _, _] _ _ from ?_)
              refine r_iload_n 47 hX dX5_firstBroken_46 rfl ?_
              refine r_if_eq 50 71 hX dX5_firstBroken_47 (fun c => absurd c (by decide)) (fun _ => ?_)
              refine r_aload 52 hX dX5_firstBroken_50 rfl ?_
              refine r_gets 55 hX dX5_firstBroken_52 sX5_30 ?_
              refine r_iload_n 56 hX dX5_firstBroken_55 rfl ?_
              refine r_taldK 57 hX dX5_firstBroken_56 (j := 6) rfl (vpK rfl) (v := 5) (by decide) ?_
              refine r_ialdK 58 hX dX5_firstBroken_57 rfl rfl (vpK rfl) (j := 5) (by decide) ?_
              refine r_aload 60 hX dX5_firstBroken_58 rfl ?_
              refine r_gets 63 hX dX5_firstBroken_60 sX5_33 ?_
              refine r_iload_n 64 hX dX5_firstBroken_63 rfl ?_
              refine r_taldK 65 hX dX5_firstBroken_64 (j := 7) rfl (vpK rfl) (v := 0) (by decide) ?_
              refine r_ialdK 66 hX dX5_firstBroken_65 rfl rfl (vpK rfl) (j := 0) (by decide) ?_
              refine r_Icmp_lt 69 71 hX dX5_firstBroken_66 (fun c7 => ?_) (fun c7 => ?_)
              · refine r_iincK 74 hX dX5_firstBroken_71 rfl (w := 7) (by decide) rfl ?_
                refine r_goto 2 hX dX5_firstBroken_74 ?_
                refine r_iload_n 3 hX dX5_firstBroken_2 rfl ?_
                refine r_gets 6 hX dX5_firstBroken_3 sX5_30 ?_
                refine r_tlen 7 hX dX5_firstBroken_6 (j := 6) rfl (v := 7) (by decide) ?_
                refine r_icmp_ge 10 77 hX dX5_firstBroken_7 (fun _ => ?_) (fun c => absurd c (by decide))
                refine r_bipush 79 hX dX5_firstBroken_77 (v := -2) (by decide) ?_
                refine r_iret hX hT dX5_firstBroken_79 ?_
                exact ⟨by simp [*, ovl, ovG], rfl⟩
              · refine r_iload_n 70 hX dX5_firstBroken_69 rfl ?_
                refine r_iret hX hT dX5_firstBroken_70 ?_
                exact ⟨by simp [*, ovl, ovG], rfl⟩
            · refine r_iload_n 70 hX dX5_firstBroken_69 rfl ?_
              refine r_iret hX hT dX5_firstBroken_70 ?_
              exact ⟨by simp [*, ovl, ovG], rfl⟩
          · refine r_iload_n 70 hX dX5_firstBroken_69 rfl ?_
            refine r_iret hX hT dX5_firstBroken_70 ?_
            exact ⟨by simp [*, ovl, ovG], rfl⟩
        · refine r_iload_n 70 hX dX5_firstBroken_69 rfl ?_
          refine r_iret hX hT dX5_firstBroken_70 ?_
          exact ⟨by simp [*, ovl, ovG], rfl⟩
      · refine r_iload_n 70 hX dX5_firstBroken_69 rfl ?_
        refine r_iret hX hT dX5_firstBroken_70 ?_
        exact ⟨by simp [*, ovl, ovG], rfl⟩
    · refine r_iload_n 70 hX dX5_firstBroken_69 rfl ?_
      refine r_iret hX hT dX5_firstBroken_70 ?_
      exact ⟨by simp [*, ovl, ovG], rfl⟩
  · refine r_iload_n 70 hX dX5_firstBroken_69 rfl ?_
    refine r_iret hX hT dX5_firstBroken_70 ?_
    exact ⟨by simp [*, ovl, ovG], rfl⟩
set_option maxRecDepth 100000 in
set_option maxHeartbeats 4000000 in
theorem tX5_firstBroken_31_1 {l : Launch} {G : mx_G} {M : mx_Mem} : mx_Met l G yX5_firstBroken cX5_firstBroken 5 ((some FieldType.int)) 0 0 [.ref 31, .int 1] M (mx_F (some (.int (ovl true (M.1 32) (M.1 33)))) M) := by
  refine mx_enter (own := RX5) (L := [.ref 31, .int 1, .null, .null, .null]) (by decide +kernel) rfl rfl rfl ?_
  intro X hlX hX hR hT
  refine r_iconst 1 hX dX5_firstBroken_0 (v := 0) (by decide) ?_
  refine r_istore_n 2 hX dX5_firstBroken_1 rfl ?_
  refine r_iload_n 3 hX dX5_firstBroken_2 rfl ?_
  refine r_gets 6 hX dX5_firstBroken_3 sX5_30 ?_
  refine r_tlen 7 hX dX5_firstBroken_6 (j := 6) rfl (v := 7) (by decide) ?_
  refine r_icmp_ge 10 77 hX dX5_firstBroken_7 (fun c => absurd c (by decide)) (fun _ => ?_)
  refine r_iload_n 11 hX dX5_firstBroken_10 rfl ?_
  refine r_if_eq 14 22 hX dX5_firstBroken_11 (fun c => absurd c (by decide)) (fun _ => ?_)
  refine r_gets 17 hX dX5_firstBroken_14 sX5_33 ?_
  refine r_iload_n 18 hX dX5_firstBroken_17 rfl ?_
  refine r_taldK 19 hX dX5_firstBroken_18 (j := 7) rfl (vpK rfl) (v := 0) (by decide) ?_
  refine r_if_eq 22 26 hX dX5_firstBroken_19 (fun _ => ?_) (fun c => absurd c (by decide))
  refine r_iconst 27 hX dX5_firstBroken_26 (v := 0) (by decide) ?_
  refine r_istore_n 28 hX dX5_firstBroken_27 rfl ?_
  refine r_iload_n 29 hX dX5_firstBroken_28 rfl ?_
  refine r_iconst 30 hX dX5_firstBroken_29 (v := 3) (by decide) ?_
  refine r_icmp_ge 33 40 hX dX5_firstBroken_30 (fun c => absurd c (by decide)) (fun _ => ?_)
  refine r_aload_n 34 hX dX5_firstBroken_33 rfl ?_
  refine r_getR 37 hX dX5_firstBroken_34 fX5_15 rfl rfl rfl ?_
  refine r_goto 44 hX dX5_firstBroken_37 ?_
  refine r_astore 46 hX dX5_firstBroken_44 rfl ?_
  refine (show mx_WW G X 46 [_, _, _, _, _] _ _ from ?_)
  refine r_iload_n 47 hX dX5_firstBroken_46 rfl ?_
  refine r_if_eq 50 71 hX dX5_firstBroken_47 (fun _ => ?_) (fun c => absurd c (by decide))
  refine r_iincK 74 hX dX5_firstBroken_71 rfl (w := 1) (by decide) rfl ?_
  refine r_goto 2 hX dX5_firstBroken_74 ?_
  refine r_iload_n 3 hX dX5_firstBroken_2 rfl ?_
  refine r_gets 6 hX dX5_firstBroken_3 sX5_30 ?_
  refine r_tlen 7 hX dX5_firstBroken_6 (j := 6) rfl (v := 7) (by decide) ?_
  refine r_icmp_ge 10 77 hX dX5_firstBroken_7 (fun c => absurd c (by decide)) (fun _ => ?_)
  refine r_iload_n 11 hX dX5_firstBroken_10 rfl ?_
  refine r_if_eq 14 22 hX dX5_firstBroken_11 (fun c => absurd c (by decide)) (fun _ => ?_)
  refine r_gets 17 hX dX5_firstBroken_14 sX5_33 ?_
  refine r_iload_n 18 hX dX5_firstBroken_17 rfl ?_
  refine r_taldK 19 hX dX5_firstBroken_18 (j := 7) rfl (vpK rfl) (v := 5) (by decide) ?_
  refine r_if_eq 22 26 hX dX5_firstBroken_19 (fun c => absurd c (by decide)) (fun _ => ?_)
  refine r_iconst 23 hX dX5_firstBroken_22 (v := 1) (by decide) ?_
  refine r_goto 27 hX dX5_firstBroken_23 ?_
  refine r_istore_n 28 hX dX5_firstBroken_27 rfl ?_
  refine r_iload_n 29 hX dX5_firstBroken_28 rfl ?_
  refine r_iconst 30 hX dX5_firstBroken_29 (v := 3) (by decide) ?_
  refine r_icmp_ge 33 40 hX dX5_firstBroken_30 (fun c => absurd c (by decide)) (fun _ => ?_)
  refine r_aload_n 34 hX dX5_firstBroken_33 rfl ?_
  refine r_getR 37 hX dX5_firstBroken_34 fX5_15 rfl rfl rfl ?_
  refine r_goto 44 hX dX5_firstBroken_37 ?_
  refine r_astore 46 hX dX5_firstBroken_44 rfl ?_
  refine (show mx_WW G X 46 [_, _, _, _, _] _ _ from ?_)
  refine r_iload_n 47 hX dX5_firstBroken_46 rfl ?_
  refine r_if_eq 50 71 hX dX5_firstBroken_47 (fun c => absurd c (by decide)) (fun _ => ?_)
  refine r_aload 52 hX dX5_firstBroken_50 rfl ?_
  refine r_gets 55 hX dX5_firstBroken_52 sX5_30 ?_
  refine r_iload_n 56 hX dX5_firstBroken_55 rfl ?_
  refine r_taldK 57 hX dX5_firstBroken_56 (j := 6) rfl (vpK rfl) (v := 2) (by decide) ?_
  refine r_ialdK 58 hX dX5_firstBroken_57 rfl rfl (vpK rfl) (j := 2) (by decide) ?_
  refine r_aload 60 hX dX5_firstBroken_58 rfl ?_
  refine r_gets 63 hX dX5_firstBroken_60 sX5_33 ?_
  refine r_iload_n 64 hX dX5_firstBroken_63 rfl ?_
  refine r_taldK 65 hX dX5_firstBroken_64 (j := 7) rfl (vpK rfl) (v := 5) (by decide) ?_
  refine r_ialdK 66 hX dX5_firstBroken_65 rfl rfl (vpK rfl) (j := 5) (by decide) ?_
  refine r_Icmp_lt 69 71 hX dX5_firstBroken_66 (fun c1 => ?_) (fun c1 => ?_)
  · refine r_iincK 74 hX dX5_firstBroken_71 rfl (w := 2) (by decide) rfl ?_
    refine r_goto 2 hX dX5_firstBroken_74 ?_
    refine r_iload_n 3 hX dX5_firstBroken_2 rfl ?_
    refine r_gets 6 hX dX5_firstBroken_3 sX5_30 ?_
    refine r_tlen 7 hX dX5_firstBroken_6 (j := 6) rfl (v := 7) (by decide) ?_
    refine r_icmp_ge 10 77 hX dX5_firstBroken_7 (fun c => absurd c (by decide)) (fun _ => ?_)
    refine r_iload_n 11 hX dX5_firstBroken_10 rfl ?_
    refine r_if_eq 14 22 hX dX5_firstBroken_11 (fun c => absurd c (by decide)) (fun _ => ?_)
    refine r_gets 17 hX dX5_firstBroken_14 sX5_33 ?_
    refine r_iload_n 18 hX dX5_firstBroken_17 rfl ?_
    refine r_taldK 19 hX dX5_firstBroken_18 (j := 7) rfl (vpK rfl) (v := 4) (by decide) ?_
    refine r_if_eq 22 26 hX dX5_firstBroken_19 (fun c => absurd c (by decide)) (fun _ => ?_)
    refine r_iconst 23 hX dX5_firstBroken_22 (v := 1) (by decide) ?_
    refine r_goto 27 hX dX5_firstBroken_23 ?_
    refine r_istore_n 28 hX dX5_firstBroken_27 rfl ?_
    refine r_iload_n 29 hX dX5_firstBroken_28 rfl ?_
    refine r_iconst 30 hX dX5_firstBroken_29 (v := 3) (by decide) ?_
    refine r_icmp_ge 33 40 hX dX5_firstBroken_30 (fun c => absurd c (by decide)) (fun _ => ?_)
    refine r_aload_n 34 hX dX5_firstBroken_33 rfl ?_
    refine r_getR 37 hX dX5_firstBroken_34 fX5_15 rfl rfl rfl ?_
    refine r_goto 44 hX dX5_firstBroken_37 ?_
    refine r_astore 46 hX dX5_firstBroken_44 rfl ?_
    refine (show mx_WW G X 46 [_, _, _, _, _] _ _ from ?_)
    refine r_iload_n 47 hX dX5_firstBroken_46 rfl ?_
    refine r_if_eq 50 71 hX dX5_firstBroken_47 (fun c => absurd c (by decide)) (fun _ => ?_)
    refine r_aload 52 hX dX5_firstBroken_50 rfl ?_
    refine r_gets 55 hX dX5_firstBroken_52 sX5_30 ?_
    refine r_iload_n 56 hX dX5_firstBroken_55 rfl ?_
    refine r_taldK 57 hX dX5_firstBroken_56 (j := 6) rfl (vpK rfl) (v := 3) (by decide) ?_
    refine r_ialdK 58 hX dX5_firstBroken_57 rfl rfl (vpK rfl) (j := 3) (by decide) ?_
    refine r_aload 60 hX dX5_firstBroken_58 rfl ?_
    refine r_gets 63 hX dX5_firstBroken_60 sX5_33 ?_
    refine r_iload_n 64 hX dX5_firstBroken_63 rfl ?_
    refine r_taldK 65 hX dX5_firstBroken_64 (j := 7) rfl (vpK rfl) (v := 4) (by decide) ?_
    refine r_ialdK 66 hX dX5_firstBroken_65 rfl rfl (vpK rfl) (j := 4) (by decide) ?_
    refine r_Icmp_lt 69 71 hX dX5_firstBroken_66 (fun c2 => ?_) (fun c2 => ?_)
    · refine r_iincK 74 hX dX5_firstBroken_71 rfl (w := 3) (by decide) rfl ?_
      refine r_goto 2 hX dX5_firstBroken_74 ?_
      refine r_iload_n 3 hX dX5_firstBroken_2 rfl ?_
      refine r_gets 6 hX dX5_firstBroken_3 sX5_30 ?_
      refine r_tlen 7 hX dX5_firstBroken_6 (j := 6) rfl (v := 7) (by decide) ?_
      refine r_icmp_ge 10 77 hX dX5_firstBroken_7 (fun c => absurd c (by decide)) (fun _ => ?_)
      refine r_iload_n 11 hX dX5_firstBroken_10 rfl ?_
      refine r_if_eq 14 22 hX dX5_firstBroken_11 (fun c => absurd c (by decide)) (fun _ => ?_)
      refine r_gets 17 hX dX5_firstBroken_14 sX5_33 ?_
      refine r_iload_n 18 hX dX5_firstBroken_17 rfl ?_
      refine r_taldK 19 hX dX5_firstBroken_18 (j := 7) rfl (vpK rfl) (v := 2) (by decide) ?_
      refine r_if_eq 22 26 hX dX5_firstBroken_19 (fun c => absurd c (by decide)) (fun _ => ?_)
      refine r_iconst 23 hX dX5_firstBroken_22 (v := 1) (by decide) ?_
      refine r_goto 27 hX dX5_firstBroken_23 ?_
      refine r_istore_n 28 hX dX5_firstBroken_27 rfl ?_
      refine r_iload_n 29 hX dX5_firstBroken_28 rfl ?_
      refine r_iconst 30 hX dX5_firstBroken_29 (v := 3) (by decide) ?_
      refine r_icmp_ge 33 40 hX dX5_firstBroken_30 (fun _ => ?_) (fun c => absurd c (by decide))
      refine r_aload_n 41 hX dX5_firstBroken_40 rfl ?_
      refine r_getR 44 hX dX5_firstBroken_41 fX5_9 rfl rfl rfl ?_
      refine r_astore 46 hX dX5_firstBroken_44 rfl ?_
      refine (show mx_WW G X 46 [_, _, _, _, _] _ _ from ?_)
      refine r_iload_n 47 hX dX5_firstBroken_46 rfl ?_
      refine r_if_eq 50 71 hX dX5_firstBroken_47 (fun c => absurd c (by decide)) (fun _ => ?_)
      refine r_aload 52 hX dX5_firstBroken_50 rfl ?_
      refine r_gets 55 hX dX5_firstBroken_52 sX5_30 ?_
      refine r_iload_n 56 hX dX5_firstBroken_55 rfl ?_
      refine r_taldK 57 hX dX5_firstBroken_56 (j := 6) rfl (vpK rfl) (v := 3) (by decide) ?_
      refine r_ialdK 58 hX dX5_firstBroken_57 rfl rfl (vpK rfl) (j := 3) (by decide) ?_
      refine r_aload 60 hX dX5_firstBroken_58 rfl ?_
      refine r_gets 63 hX dX5_firstBroken_60 sX5_33 ?_
      refine r_iload_n 64 hX dX5_firstBroken_63 rfl ?_
      refine r_taldK 65 hX dX5_firstBroken_64 (j := 7) rfl (vpK rfl) (v := 2) (by decide) ?_
      refine r_ialdK 66 hX dX5_firstBroken_65 rfl rfl (vpK rfl) (j := 2) (by decide) ?_
      refine r_Icmp_lt 69 71 hX dX5_firstBroken_66 (fun c3 => ?_) (fun c3 => ?_)
      · refine r_iincK 74 hX dX5_firstBroken_71 rfl (w := 4) (by decide) rfl ?_
        refine r_goto 2 hX dX5_firstBroken_74 ?_
        refine r_iload_n 3 hX dX5_firstBroken_2 rfl ?_
        refine r_gets 6 hX dX5_firstBroken_3 sX5_30 ?_
        refine r_tlen 7 hX dX5_firstBroken_6 (j := 6) rfl (v := 7) (by decide) ?_
        refine r_icmp_ge 10 77 hX dX5_firstBroken_7 (fun c => absurd c (by decide)) (fun _ => ?_)
        refine r_iload_n 11 hX dX5_firstBroken_10 rfl ?_
        refine r_if_eq 14 22 hX dX5_firstBroken_11 (fun c => absurd c (by decide)) (fun _ => ?_)
        refine r_gets 17 hX dX5_firstBroken_14 sX5_33 ?_
        refine r_iload_n 18 hX dX5_firstBroken_17 rfl ?_
        refine r_taldK 19 hX dX5_firstBroken_18 (j := 7) rfl (vpK rfl) (v := 1) (by decide) ?_
        refine r_if_eq 22 26 hX dX5_firstBroken_19 (fun c => absurd c (by decide)) (fun _ => ?_)
        refine r_iconst 23 hX dX5_firstBroken_22 (v := 1) (by decide) ?_
        refine r_goto 27 hX dX5_firstBroken_23 ?_
        refine r_istore_n 28 hX dX5_firstBroken_27 rfl ?_
        refine r_iload_n 29 hX dX5_firstBroken_28 rfl ?_
        refine r_iconst 30 hX dX5_firstBroken_29 (v := 3) (by decide) ?_
        refine r_icmp_ge 33 40 hX dX5_firstBroken_30 (fun _ => ?_) (fun c => absurd c (by decide))
        refine r_aload_n 41 hX dX5_firstBroken_40 rfl ?_
        refine r_getR 44 hX dX5_firstBroken_41 fX5_9 rfl rfl rfl ?_
        refine r_astore 46 hX dX5_firstBroken_44 rfl ?_
        refine (show mx_WW G X 46 [_, _, _, _, _] _ _ from ?_)
        refine r_iload_n 47 hX dX5_firstBroken_46 rfl ?_
        refine r_if_eq 50 71 hX dX5_firstBroken_47 (fun c => absurd c (by decide)) (fun _ => ?_)
        refine r_aload 52 hX dX5_firstBroken_50 rfl ?_
        refine r_gets 55 hX dX5_firstBroken_52 sX5_30 ?_
        refine r_iload_n 56 hX dX5_firstBroken_55 rfl ?_
        refine r_taldK 57 hX dX5_firstBroken_56 (j := 6) rfl (vpK rfl) (v := 2) (by decide) ?_
        refine r_ialdK 58 hX dX5_firstBroken_57 rfl rfl (vpK rfl) (j := 2) (by decide) ?_
        refine r_aload 60 hX dX5_firstBroken_58 rfl ?_
        refine r_gets 63 hX dX5_firstBroken_60 sX5_33 ?_
        refine r_iload_n 64 hX dX5_firstBroken_63 rfl ?_
        refine r_taldK 65 hX dX5_firstBroken_64 (j := 7) rfl (vpK rfl) (v := 1) (by decide) ?_
        refine r_ialdK 66 hX dX5_firstBroken_65 rfl rfl (vpK rfl) (j := 1) (by decide) ?_
        refine r_Icmp_lt 69 71 hX dX5_firstBroken_66 (fun c4 => ?_) (fun c4 => ?_)
        · refine r_iincK 74 hX dX5_firstBroken_71 rfl (w := 5) (by decide) rfl ?_
          refine r_goto 2 hX dX5_firstBroken_74 ?_
          refine r_iload_n 3 hX dX5_firstBroken_2 rfl ?_
          refine r_gets 6 hX dX5_firstBroken_3 sX5_30 ?_
          refine r_tlen 7 hX dX5_firstBroken_6 (j := 6) rfl (v := 7) (by decide) ?_
          refine r_icmp_ge 10 77 hX dX5_firstBroken_7 (fun c => absurd c (by decide)) (fun _ => ?_)
          refine r_iload_n 11 hX dX5_firstBroken_10 rfl ?_
          refine r_if_eq 14 22 hX dX5_firstBroken_11 (fun c => absurd c (by decide)) (fun _ => ?_)
          refine r_gets 17 hX dX5_firstBroken_14 sX5_33 ?_
          refine r_iload_n 18 hX dX5_firstBroken_17 rfl ?_
          refine r_taldK 19 hX dX5_firstBroken_18 (j := 7) rfl (vpK rfl) (v := 5) (by decide) ?_
          refine r_if_eq 22 26 hX dX5_firstBroken_19 (fun c => absurd c (by decide)) (fun _ => ?_)
          refine r_iconst 23 hX dX5_firstBroken_22 (v := 1) (by decide) ?_
          refine r_goto 27 hX dX5_firstBroken_23 ?_
          refine r_istore_n 28 hX dX5_firstBroken_27 rfl ?_
          refine r_iload_n 29 hX dX5_firstBroken_28 rfl ?_
          refine r_iconst 30 hX dX5_firstBroken_29 (v := 3) (by decide) ?_
          refine r_icmp_ge 33 40 hX dX5_firstBroken_30 (fun _ => ?_) (fun c => absurd c (by decide))
          refine r_aload_n 41 hX dX5_firstBroken_40 rfl ?_
          refine r_getR 44 hX dX5_firstBroken_41 fX5_9 rfl rfl rfl ?_
          refine r_astore 46 hX dX5_firstBroken_44 rfl ?_
          refine (show mx_WW G X 46 [_, _, _, _, _] _ _ from ?_)
          refine r_iload_n 47 hX dX5_firstBroken_46 rfl ?_
          refine r_if_eq 50 71 hX dX5_firstBroken_47 (fun c => absurd c (by decide)) (fun _ => ?_)
          refine r_aload 52 hX dX5_firstBroken_50 rfl ?_
          refine r_gets 55 hX dX5_firstBroken_52 sX5_30 ?_
          refine r_iload_n 56 hX dX5_firstBroken_55 rfl ?_
          refine r_taldK 57 hX dX5_firstBroken_56 (j := 6) rfl (vpK rfl) (v := 4) (by decide) ?_
          refine r_ialdK 58 hX dX5_firstBroken_57 rfl rfl (vpK rfl) (j := 4) (by decide) ?_
          refine r_aload 60 hX dX5_firstBroken_58 rfl ?_
          refine r_gets 63 hX dX5_firstBroken_60 sX5_33 ?_
          refine r_iload_n 64 hX dX5_firstBroken_63 rfl ?_
          refine r_taldK 65 hX dX5_firstBroken_64 (j := 7) rfl (vpK rfl) (v := 5) (by decide) ?_
          refine r_ialdK 66 hX dX5_firstBroken_65 rfl rfl (vpK rfl) (j := 5) (by decide) ?_
          refine r_Icmp_lt 69 71 hX dX5_firstBroken_66 (fun c5 => ?_) (fun c5 => ?_)
          · refine r_iincK 74 hX dX5_firstBroken_71 rfl (w := 6) (by decide) rfl ?_
            refine r_goto 2 hX dX5_firstBroken_74 ?_
            refine r_iload_n 3 hX dX5_firstBroken_2 rfl ?_
            refine r_gets 6 hX dX5_firstBroken_3 sX5_30 ?_
            refine r_tlen 7 hX dX5_firstBroken_6 (j := 6) rfl (v := 7) (by decide) ?_
            refine r_icmp_ge 10 77 hX dX5_firstBroken_7 (fun c => absurd c (by decide)) (fun _ => ?_)
            refine r_iload_n 11 hX dX5_firstBroken_10 rfl ?_
            refine r_if_eq 14 22 hX dX5_firstBroken_11 (fun c => absurd c (by decide)) (fun _ => ?_)
            refine r_gets 17 hX dX5_firstBroken_14 sX5_33 ?_
            refine r_iload_n 18 hX dX5_firstBroken_17 rfl ?_
            refine r_taldK 19 hX dX5_firstBroken_18 (j := 7) rfl (vpK rfl) (v := 0) (by decide) ?_
            refine r_if_eq 22 26 hX dX5_firstBroken_19 (fun _ => ?_) (fun c => absurd c (by decide))
            refine r_iconst 27 hX dX5_firstBroken_26 (v := 0) (by decide) ?_
            refine r_istore_n 28 hX dX5_firstBroken_27 rfl ?_
            refine r_iload_n 29 hX dX5_firstBroken_28 rfl ?_
            refine r_iconst 30 hX dX5_firstBroken_29 (v := 3) (by decide) ?_
            refine r_icmp_ge 33 40 hX dX5_firstBroken_30 (fun _ => ?_) (fun c => absurd c (by decide))
            refine r_aload_n 41 hX dX5_firstBroken_40 rfl ?_
            refine r_getR 44 hX dX5_firstBroken_41 fX5_9 rfl rfl rfl ?_
            refine r_astore 46 hX dX5_firstBroken_44 rfl ?_
            refine (show mx_WW G X 46 [_, _, _, _, _] _ _ from ?_)
            refine r_iload_n 47 hX dX5_firstBroken_46 rfl ?_
            refine r_if_eq 50 71 hX dX5_firstBroken_47 (fun _ => ?_) (fun c => absurd c (by decide))
            refine r_iincK 74 hX dX5_firstBroken_71 rfl (w := 7) (by decide) rfl ?_
            refine r_goto 2 hX dX5_firstBroken_74 ?_
            refine r_iload_n 3 hX dX5_firstBroken_2 rfl ?_
            refine r_gets 6 hX dX5_firstBroken_3 sX5_30 ?_
            refine r_tlen 7 hX dX5_firstBroken_6 (j := 6) rfl (v := 7) (by decide) ?_
            refine r_icmp_ge 10 77 hX dX5_firstBroken_7 (fun _ => ?_) (fun c => absurd c (by decide))
            refine r_bipush 79 hX dX5_firstBroken_77 (v := -2) (by decide) ?_
            refine r_iret hX hT dX5_firstBroken_79 ?_
            exact ⟨by simp [*, ovl, ovG], rfl⟩
          · refine r_iload_n 70 hX dX5_firstBroken_69 rfl ?_
            refine r_iret hX hT dX5_firstBroken_70 ?_
            exact ⟨by simp [*, ovl, ovG], rfl⟩
        · refine r_iload_n 70 hX dX5_firstBroken_69 rfl ?_
          refine r_iret hX hT dX5_firstBroken_70 ?_
          exact ⟨by simp [*, ovl, ovG], rfl⟩
      · refine r_iload_n 70 hX dX5_firstBroken_69 rfl ?_
        refine r_iret hX hT dX5_firstBroken_70 ?_
        exact ⟨by simp [*, ovl, ovG], rfl⟩
    · refine r_iload_n 70 hX dX5_firstBroken_69 rfl ?_
      refine r_iret hX hT dX5_firstBroken_70 ?_
      exact ⟨by simp [*, ovl, ovG], rfl⟩
  · refine r_iload_n 70 hX dX5_firstBroken_69 rfl ?_
    refine r_iret hX hT dX5_firstBroken_70 ?_
    exact ⟨by simp [*, ovl, ovG], rfl⟩
set_option maxRecDepth 100000 in
set_option maxHeartbeats 4000000 in
theorem tX5_stand_34 {l : Launch} {G : mx_G} {M : mx_Mem} : mx_Met l G yX5_stand cX5_stand 1 (none) 1 60 [.ref 34] M (mx_F none (stF M 34)) := by
  refine mx_enter (own := RX5) (L := [.ref 34]) (by decide +kernel) rfl rfl rfl ?_
  intro X hlX hX hR hT
  refine r_gets 3 hX dX5_stand_0 sX5_18 ?_
  refine r_iconst 4 hX dX5_stand_3 (v := 0) (by decide) ?_
  refine r_aload_n 5 hX dX5_stand_4 rfl ?_
  refine r_getR 8 hX dX5_stand_5 fX5_9 rfl rfl rfl ?_
  refine r_iconst 9 hX dX5_stand_8 (v := 0) (by decide) ?_
  refine r_bipush 11 hX dX5_stand_9 (v := 6) (by decide) ?_
  refine r_copyT 14 hX 4 hR dX5_stand_11 lX5_21 rfl rfl rfl (by decide) rfl rfl rfl ?_
  refine r_gets 17 hX dX5_stand_14 sX5_27 ?_
  refine r_iconst 18 hX dX5_stand_17 (v := 0) (by decide) ?_
  refine r_aload_n 19 hX dX5_stand_18 rfl ?_
  refine r_getR 22 hX dX5_stand_19 fX5_15 rfl rfl rfl ?_
  refine r_iconst 23 hX dX5_stand_22 (v := 0) (by decide) ?_
  refine r_bipush 25 hX dX5_stand_23 (v := 6) (by decide) ?_
  refine r_copyT 28 hX 5 hR dX5_stand_25 lX5_21 rfl rfl rfl (by decide) rfl rfl rfl ?_
  refine r_vret hX hT dX5_stand_28 ?_
  exact ⟨rfl, rfl⟩
set_option maxRecDepth 100000 in
set_option maxHeartbeats 4000000 in
theorem tX5_put_34 {l : Launch} {G : mx_G} {p a b : Int32} {M : mx_Mem} (h1 : 0 ≤ p) (h2 : ¬ 6 ≤ p) : mx_Met l G yX5_put cX5_put 4 (none) 0 0 [.ref 34, .int p, .int a, .int b] M (mx_F none (mI (mI M 35 p.toNatClampNeg a) 36 p.toNatClampNeg b)) := by
  refine mx_enter (own := RX5) (L := [.ref 34, .int p, .int a, .int b]) (by decide +kernel) rfl rfl rfl ?_
  intro X hlX hX hR hT
  refine r_iload_n 1 hX dX5_put_0 rfl ?_
  refine r_If_lt 4 24 hX dX5_put_1 (fun c1 => absurd h1 c1) (fun c1 => ?_)
  refine r_iload_n 5 hX dX5_put_4 rfl ?_
  refine r_bipush 7 hX dX5_put_5 (v := 6) (by decide) ?_
  refine r_icmp_ge 10 24 hX dX5_put_7 (fun c2 => absurd c2 h2) (fun c2 => ?_)
  refine r_aload_n 11 hX dX5_put_10 rfl ?_
  refine r_getR 14 hX dX5_put_11 fX5_9 rfl rfl rfl ?_
  refine r_iload_n 15 hX dX5_put_14 rfl ?_
  refine r_iload_n 16 hX dX5_put_15 rfl ?_
  refine r_iast 17 hX dX5_put_16 rfl rfl (by first | assumption | exact vpK rfl | exact vpP (by assumption) | exact vp6 (by assumption) (by assumption) | exact vp12 (by assumption) (by assumption) | exact vp48 (by assumption) (by assumption) | exact vp100 (by assumption) (by assumption)) ?_
  refine r_aload_n 18 hX dX5_put_17 rfl ?_
  refine r_getR 21 hX dX5_put_18 fX5_15 rfl rfl rfl ?_
  refine r_iload_n 22 hX dX5_put_21 rfl ?_
  refine r_iload_n 23 hX dX5_put_22 rfl ?_
  refine r_iast 24 hX dX5_put_23 rfl rfl (by first | assumption | exact vpK rfl | exact vpP (by assumption) | exact vp6 (by assumption) (by assumption) | exact vp12 (by assumption) (by assumption) | exact vp48 (by assumption) (by assumption) | exact vp100 (by assumption) (by assumption)) ?_
  refine r_vret hX hT dX5_put_24 ?_
  exact ⟨rfl, rfl⟩
set_option maxRecDepth 100000 in
set_option maxHeartbeats 4000000 in
theorem tX5_firstBroken_34_0 {l : Launch} {G : mx_G} {M : mx_Mem} : mx_Met l G yX5_firstBroken cX5_firstBroken 5 ((some FieldType.int)) 0 0 [.ref 34, .int 0] M (mx_F (some (.int (ovl false (M.1 35) (M.1 36)))) M) := by
  refine mx_enter (own := RX5) (L := [.ref 34, .int 0, .null, .null, .null]) (by decide +kernel) rfl rfl rfl ?_
  intro X hlX hX hR hT
  refine r_iconst 1 hX dX5_firstBroken_0 (v := 0) (by decide) ?_
  refine r_istore_n 2 hX dX5_firstBroken_1 rfl ?_
  refine r_iload_n 3 hX dX5_firstBroken_2 rfl ?_
  refine r_gets 6 hX dX5_firstBroken_3 sX5_30 ?_
  refine r_tlen 7 hX dX5_firstBroken_6 (j := 6) rfl (v := 7) (by decide) ?_
  refine r_icmp_ge 10 77 hX dX5_firstBroken_7 (fun c => absurd c (by decide)) (fun _ => ?_)
  refine r_iload_n 11 hX dX5_firstBroken_10 rfl ?_
  refine r_if_eq 14 22 hX dX5_firstBroken_11 (fun _ => ?_) (fun c => absurd c (by decide))
  refine r_iconst 23 hX dX5_firstBroken_22 (v := 1) (by decide) ?_
  refine r_goto 27 hX dX5_firstBroken_23 ?_
  refine r_istore_n 28 hX dX5_firstBroken_27 rfl ?_
  refine r_iload_n 29 hX dX5_firstBroken_28 rfl ?_
  refine r_iconst 30 hX dX5_firstBroken_29 (v := 3) (by decide) ?_
  refine r_icmp_ge 33 40 hX dX5_firstBroken_30 (fun c => absurd c (by decide)) (fun _ => ?_)
  refine r_aload_n 34 hX dX5_firstBroken_33 rfl ?_
  refine r_getR 37 hX dX5_firstBroken_34 fX5_15 rfl rfl rfl ?_
  refine r_goto 44 hX dX5_firstBroken_37 ?_
  refine r_astore 46 hX dX5_firstBroken_44 rfl ?_
  refine (show mx_WW G X 46 [_, _, _, _, _] _ _ from ?_)
  refine r_iload_n 47 hX dX5_firstBroken_46 rfl ?_
  refine r_if_eq 50 71 hX dX5_firstBroken_47 (fun c => absurd c (by decide)) (fun _ => ?_)
  refine r_aload 52 hX dX5_firstBroken_50 rfl ?_
  refine r_gets 55 hX dX5_firstBroken_52 sX5_30 ?_
  refine r_iload_n 56 hX dX5_firstBroken_55 rfl ?_
  refine r_taldK 57 hX dX5_firstBroken_56 (j := 6) rfl (vpK rfl) (v := 1) (by decide) ?_
  refine r_ialdK 58 hX dX5_firstBroken_57 rfl rfl (vpK rfl) (j := 1) (by decide) ?_
  refine r_aload 60 hX dX5_firstBroken_58 rfl ?_
  refine r_gets 63 hX dX5_firstBroken_60 sX5_33 ?_
  refine r_iload_n 64 hX dX5_firstBroken_63 rfl ?_
  refine r_taldK 65 hX dX5_firstBroken_64 (j := 7) rfl (vpK rfl) (v := 0) (by decide) ?_
  refine r_ialdK 66 hX dX5_firstBroken_65 rfl rfl (vpK rfl) (j := 0) (by decide) ?_
  refine r_Icmp_lt 69 71 hX dX5_firstBroken_66 (fun c1 => ?_) (fun c1 => ?_)
  · refine r_iincK 74 hX dX5_firstBroken_71 rfl (w := 1) (by decide) rfl ?_
    refine r_goto 2 hX dX5_firstBroken_74 ?_
    refine r_iload_n 3 hX dX5_firstBroken_2 rfl ?_
    refine r_gets 6 hX dX5_firstBroken_3 sX5_30 ?_
    refine r_tlen 7 hX dX5_firstBroken_6 (j := 6) rfl (v := 7) (by decide) ?_
    refine r_icmp_ge 10 77 hX dX5_firstBroken_7 (fun c => absurd c (by decide)) (fun _ => ?_)
    refine r_iload_n 11 hX dX5_firstBroken_10 rfl ?_
    refine r_if_eq 14 22 hX dX5_firstBroken_11 (fun _ => ?_) (fun c => absurd c (by decide))
    refine r_iconst 23 hX dX5_firstBroken_22 (v := 1) (by decide) ?_
    refine r_goto 27 hX dX5_firstBroken_23 ?_
    refine r_istore_n 28 hX dX5_firstBroken_27 rfl ?_
    refine r_iload_n 29 hX dX5_firstBroken_28 rfl ?_
    refine r_iconst 30 hX dX5_firstBroken_29 (v := 3) (by decide) ?_
    refine r_icmp_ge 33 40 hX dX5_firstBroken_30 (fun c => absurd c (by decide)) (fun _ => ?_)
    refine r_aload_n 34 hX dX5_firstBroken_33 rfl ?_
    refine r_getR 37 hX dX5_firstBroken_34 fX5_15 rfl rfl rfl ?_
    refine r_goto 44 hX dX5_firstBroken_37 ?_
    refine r_astore 46 hX dX5_firstBroken_44 rfl ?_
    refine (show mx_WW G X 46 [_, _, _, _, _] _ _ from ?_)
    refine r_iload_n 47 hX dX5_firstBroken_46 rfl ?_
    refine r_if_eq 50 71 hX dX5_firstBroken_47 (fun c => absurd c (by decide)) (fun _ => ?_)
    refine r_aload 52 hX dX5_firstBroken_50 rfl ?_
    refine r_gets 55 hX dX5_firstBroken_52 sX5_30 ?_
    refine r_iload_n 56 hX dX5_firstBroken_55 rfl ?_
    refine r_taldK 57 hX dX5_firstBroken_56 (j := 6) rfl (vpK rfl) (v := 2) (by decide) ?_
    refine r_ialdK 58 hX dX5_firstBroken_57 rfl rfl (vpK rfl) (j := 2) (by decide) ?_
    refine r_aload 60 hX dX5_firstBroken_58 rfl ?_
    refine r_gets 63 hX dX5_firstBroken_60 sX5_33 ?_
    refine r_iload_n 64 hX dX5_firstBroken_63 rfl ?_
    refine r_taldK 65 hX dX5_firstBroken_64 (j := 7) rfl (vpK rfl) (v := 5) (by decide) ?_
    refine r_ialdK 66 hX dX5_firstBroken_65 rfl rfl (vpK rfl) (j := 5) (by decide) ?_
    refine r_Icmp_lt 69 71 hX dX5_firstBroken_66 (fun c2 => ?_) (fun c2 => ?_)
    · refine r_iincK 74 hX dX5_firstBroken_71 rfl (w := 2) (by decide) rfl ?_
      refine r_goto 2 hX dX5_firstBroken_74 ?_
      refine r_iload_n 3 hX dX5_firstBroken_2 rfl ?_
      refine r_gets 6 hX dX5_firstBroken_3 sX5_30 ?_
      refine r_tlen 7 hX dX5_firstBroken_6 (j := 6) rfl (v := 7) (by decide) ?_
      refine r_icmp_ge 10 77 hX dX5_firstBroken_7 (fun c => absurd c (by decide)) (fun _ => ?_)
      refine r_iload_n 11 hX dX5_firstBroken_10 rfl ?_
      refine r_if_eq 14 22 hX dX5_firstBroken_11 (fun _ => ?_) (fun c => absurd c (by decide))
      refine r_iconst 23 hX dX5_firstBroken_22 (v := 1) (by decide) ?_
      refine r_goto 27 hX dX5_firstBroken_23 ?_
      refine r_istore_n 28 hX dX5_firstBroken_27 rfl ?_
      refine r_iload_n 29 hX dX5_firstBroken_28 rfl ?_
      refine r_iconst 30 hX dX5_firstBroken_29 (v := 3) (by decide) ?_
      refine r_icmp_ge 33 40 hX dX5_firstBroken_30 (fun c => absurd c (by decide)) (fun _ => ?_)
      refine r_aload_n 34 hX dX5_firstBroken_33 rfl ?_
      refine r_getR 37 hX dX5_firstBroken_34 fX5_15 rfl rfl rfl ?_
      refine r_goto 44 hX dX5_firstBroken_37 ?_
      refine r_astore 46 hX dX5_firstBroken_44 rfl ?_
      refine (show mx_WW G X 46 [_, _, _, _, _] _ _ from ?_)
      refine r_iload_n 47 hX dX5_firstBroken_46 rfl ?_
      refine r_if_eq 50 71 hX dX5_firstBroken_47 (fun c => absurd c (by decide)) (fun _ => ?_)
      refine r_aload 52 hX dX5_firstBroken_50 rfl ?_
      refine r_gets 55 hX dX5_firstBroken_52 sX5_30 ?_
      refine r_iload_n 56 hX dX5_firstBroken_55 rfl ?_
      refine r_taldK 57 hX dX5_firstBroken_56 (j := 6) rfl (vpK rfl) (v := 3) (by decide) ?_
      refine r_ialdK 58 hX dX5_firstBroken_57 rfl rfl (vpK rfl) (j := 3) (by decide) ?_
      refine r_aload 60 hX dX5_firstBroken_58 rfl ?_
      refine r_gets 63 hX dX5_firstBroken_60 sX5_33 ?_
      refine r_iload_n 64 hX dX5_firstBroken_63 rfl ?_
      refine r_taldK 65 hX dX5_firstBroken_64 (j := 7) rfl (vpK rfl) (v := 4) (by decide) ?_
      refine r_ialdK 66 hX dX5_firstBroken_65 rfl rfl (vpK rfl) (j := 4) (by decide) ?_
      refine r_Icmp_lt 69 71 hX dX5_firstBroken_66 (fun c3 => ?_) (fun c3 => ?_)
      · refine r_iincK 74 hX dX5_firstBroken_71 rfl (w := 3) (by decide) rfl ?_
        refine r_goto 2 hX dX5_firstBroken_74 ?_
        refine r_iload_n 3 hX dX5_firstBroken_2 rfl ?_
        refine r_gets 6 hX dX5_firstBroken_3 sX5_30 ?_
        refine r_tlen 7 hX dX5_firstBroken_6 (j := 6) rfl (v := 7) (by decide) ?_
        refine r_icmp_ge 10 77 hX dX5_firstBroken_7 (fun c => absurd c (by decide)) (fun _ => ?_)
        refine r_iload_n 11 hX dX5_firstBroken_10 rfl ?_
        refine r_if_eq 14 22 hX dX5_firstBroken_11 (fun _ => ?_) (fun c => absurd c (by decide))
        refine r_iconst 23 hX dX5_firstBroken_22 (v := 1) (by decide) ?_
        refine r_goto 27 hX dX5_firstBroken_23 ?_
        refine r_istore_n 28 hX dX5_firstBroken_27 rfl ?_
        refine r_iload_n 29 hX dX5_firstBroken_28 rfl ?_
        refine r_iconst 30 hX dX5_firstBroken_29 (v := 3) (by decide) ?_
        refine r_icmp_ge 33 40 hX dX5_firstBroken_30 (fun _ => ?_) (fun c => absurd c (by decide))
        refine r_aload_n 41 hX dX5_firstBroken_40 rfl ?_
        refine r_getR 44 hX dX5_firstBroken_41 fX5_9 rfl rfl rfl ?_
        refine r_astore 46 hX dX5_firstBroken_44 rfl ?_
        refine (show mx_WW G X 46 [_, _, _, _, _] _ _ from ?_)
        refine r_iload_n 47 hX dX5_firstBroken_46 rfl ?_
        refine r_if_eq 50 71 hX dX5_firstBroken_47 (fun c => absurd c (by decide)) (fun _ => ?_)
        refine r_aload 52 hX dX5_firstBroken_50 rfl ?_
        refine r_gets 55 hX dX5_firstBroken_52 sX5_30 ?_
        refine r_iload_n 56 hX dX5_firstBroken_55 rfl ?_
        refine r_taldK 57 hX dX5_firstBroken_56 (j := 6) rfl (vpK rfl) (v := 3) (by decide) ?_
        refine r_ialdK 58 hX dX5_firstBroken_57 rfl rfl (vpK rfl) (j := 3) (by decide) ?_
        refine r_aload 60 hX dX5_firstBroken_58 rfl ?_
        refine r_gets 63 hX dX5_firstBroken_60 sX5_33 ?_
        refine r_iload_n 64 hX dX5_firstBroken_63 rfl ?_
        refine r_taldK 65 hX dX5_firstBroken_64 (j := 7) rfl (vpK rfl) (v := 2) (by decide) ?_
        refine r_ialdK 66 hX dX5_firstBroken_65 rfl rfl (vpK rfl) (j := 2) (by decide) ?_
        refine r_Icmp_lt 69 71 hX dX5_firstBroken_66 (fun c4 => ?_) (fun c4 => ?_)
        · refine r_iincK 74 hX dX5_firstBroken_71 rfl (w := 4) (by decide) rfl ?_
          refine r_goto 2 hX dX5_firstBroken_74 ?_
          refine r_iload_n 3 hX dX5_firstBroken_2 rfl ?_
          refine r_gets 6 hX dX5_firstBroken_3 sX5_30 ?_
          refine r_tlen 7 hX dX5_firstBroken_6 (j := 6) rfl (v := 7) (by decide) ?_
          refine r_icmp_ge 10 77 hX dX5_firstBroken_7 (fun c => absurd c (by decide)) (fun _ => ?_)
          refine r_iload_n 11 hX dX5_firstBroken_10 rfl ?_
          refine r_if_eq 14 22 hX dX5_firstBroken_11 (fun _ => ?_) (fun c => absurd c (by decide))
          refine r_iconst 23 hX dX5_firstBroken_22 (v := 1) (by decide) ?_
          refine r_goto 27 hX dX5_firstBroken_23 ?_
          refine r_istore_n 28 hX dX5_firstBroken_27 rfl ?_
          refine r_iload_n 29 hX dX5_firstBroken_28 rfl ?_
          refine r_iconst 30 hX dX5_firstBroken_29 (v := 3) (by decide) ?_
          refine r_icmp_ge 33 40 hX dX5_firstBroken_30 (fun _ => ?_) (fun c => absurd c (by decide))
          refine r_aload_n 41 hX dX5_firstBroken_40 rfl ?_
          refine r_getR 44 hX dX5_firstBroken_41 fX5_9 rfl rfl rfl ?_
          refine r_astore 46 hX dX5_firstBroken_44 rfl ?_
          refine (show mx_WW G X 46 [_, _, _, _, _] _ _ from ?_)
          refine r_iload_n 47 hX dX5_firstBroken_46 rfl ?_
          refine r_if_eq 50 71 hX dX5_firstBroken_47 (fun c => absurd c (by decide)) (fun _ => ?_)
          refine r_aload 52 hX dX5_firstBroken_50 rfl ?_
          refine r_gets 55 hX dX5_firstBroken_52 sX5_30 ?_
          refine r_iload_n 56 hX dX5_firstBroken_55 rfl ?_
          refine r_taldK 57 hX dX5_firstBroken_56 (j := 6) rfl (vpK rfl) (v := 2) (by decide) ?_
          refine r_ialdK 58 hX dX5_firstBroken_57 rfl rfl (vpK rfl) (j := 2) (by decide) ?_
          refine r_aload 60 hX dX5_firstBroken_58 rfl ?_
          refine r_gets 63 hX dX5_firstBroken_60 sX5_33 ?_
          refine r_iload_n 64 hX dX5_firstBroken_63 rfl ?_
          refine r_taldK 65 hX dX5_firstBroken_64 (j := 7) rfl (vpK rfl) (v := 1) (by decide) ?_
          refine r_ialdK 66 hX dX5_firstBroken_65 rfl rfl (vpK rfl) (j := 1) (by decide) ?_
          refine r_Icmp_lt 69 71 hX dX5_firstBroken_66 (fun c5 => ?_) (fun c5 => ?_)
          · refine r_iincK 74 hX dX5_firstBroken_71 rfl (w := 5) (by decide) rfl ?_
            refine r_goto 2 hX dX5_firstBroken_74 ?_
            refine r_iload_n 3 hX dX5_firstBroken_2 rfl ?_
            refine r_gets 6 hX dX5_firstBroken_3 sX5_30 ?_
            refine r_tlen 7 hX dX5_firstBroken_6 (j := 6) rfl (v := 7) (by decide) ?_
            refine r_icmp_ge 10 77 hX dX5_firstBroken_7 (fun c => absurd c (by decide)) (fun _ => ?_)
            refine r_iload_n 11 hX dX5_firstBroken_10 rfl ?_
            refine r_if_eq 14 22 hX dX5_firstBroken_11 (fun _ => ?_) (fun c => absurd c (by decide))
            refine r_iconst 23 hX dX5_firstBroken_22 (v := 1) (by decide) ?_
            refine r_goto 27 hX dX5_firstBroken_23 ?_
            refine r_istore_n 28 hX dX5_firstBroken_27 rfl ?_
            refine r_iload_n 29 hX dX5_firstBroken_28 rfl ?_
            refine r_iconst 30 hX dX5_firstBroken_29 (v := 3) (by decide) ?_
            refine r_icmp_ge 33 40 hX dX5_firstBroken_30 (fun _ => ?_) (fun c => absurd c (by decide))
            refine r_aload_n 41 hX dX5_firstBroken_40 rfl ?_
            refine r_getR 44 hX dX5_firstBroken_41 fX5_9 rfl rfl rfl ?_
            refine r_astore 46 hX dX5_firstBroken_44 rfl ?_
            refine (show mx_WW G X 46 [_, _, _, _, _] _ _ from ?_)
            refine r_iload_n 47 hX dX5_firstBroken_46 rfl ?_
            refine r_if_eq 50 71 hX dX5_firstBroken_47 (fun c => absurd c (by decide)) (fun _ => ?_)
            refine r_aload 52 hX dX5_firstBroken_50 rfl ?_
            refine r_gets 55 hX dX5_firstBroken_52 sX5_30 ?_
            refine r_iload_n 56 hX dX5_firstBroken_55 rfl ?_
            refine r_taldK 57 hX dX5_firstBroken_56 (j := 6) rfl (vpK rfl) (v := 4) (by decide) ?_
            refine r_ialdK 58 hX dX5_firstBroken_57 rfl rfl (vpK rfl) (j := 4) (by decide) ?_
            refine r_aload 60 hX dX5_firstBroken_58 rfl ?_
            refine r_gets 63 hX dX5_firstBroken_60 sX5_33 ?_
            refine r_iload_n 64 hX dX5_firstBroken_63 rfl ?_
            refine r_taldK 65 hX dX5_firstBroken_64 (j := 7) rfl (vpK rfl) (v := 5) (by decide) ?_
            refine r_ialdK 66 hX dX5_firstBroken_65 rfl rfl (vpK rfl) (j := 5) (by decide) ?_
            refine r_Icmp_lt 69 71 hX dX5_firstBroken_66 (fun c6 => ?_) (fun c6 => ?_)
            · refine r_iincK 74 hX dX5_firstBroken_71 rfl (w := 6) (by decide) rfl ?_
              refine r_goto 2 hX dX5_firstBroken_74 ?_
              refine r_iload_n 3 hX dX5_firstBroken_2 rfl ?_
              refine r_gets 6 hX dX5_firstBroken_3 sX5_30 ?_
              refine r_tlen 7 hX dX5_firstBroken_6 (j := 6) rfl (v := 7) (by decide) ?_
              refine r_icmp_ge 10 77 hX dX5_firstBroken_7 (fun c => absurd c (by decide)) (fun _ => ?_)
              refine r_iload_n 11 hX dX5_firstBroken_10 rfl ?_
              refine r_if_eq 14 22 hX dX5_firstBroken_11 (fun _ => ?_) (fun c => absurd c (by decide))
              refine r_iconst 23 hX dX5_firstBroken_22 (v := 1) (by decide) ?_
              refine r_goto 27 hX dX5_firstBroken_23 ?_
              refine r_istore_n 28 hX dX5_firstBroken_27 rfl ?_
              refine r_iload_n 29 hX dX5_firstBroken_28 rfl ?_
              refine r_iconst 30 hX dX5_firstBroken_29 (v := 3) (by decide) ?_
              refine r_icmp_ge 33 40 hX dX5_firstBroken_30 (fun _ => ?_) (fun c => absurd c (by decide))
              refine r_aload_n 41 hX dX5_firstBroken_40 rfl ?_
              refine r_getR 44 hX dX5_firstBroken_41 fX5_9 rfl rfl rfl ?_
              refine r_astore 46 hX dX5_firstBroken_44 rfl ?_
              refine (show mx_WW G X 46 [_, _, _, _, _] _ _ from ?_)
              refine r_iload_n 47 hX dX5_firstBroken_46 rfl ?_
              refine r_if_eq 50 71 hX dX5_firstBroken_47 (fun c => absurd c (by decide)) (fun _ => ?_)
              refine r_aload 52 hX dX5_firstBroken_50 rfl ?_
              refine r_gets 55 hX dX5_firstBroken_52 sX5_30 ?_
              refine r_iload_n 56 hX dX5_firstBroken_55 rfl ?_
              refine r_taldK 57 hX dX5_firstBroken_56 (j := 6) rfl (vpK rfl) (v := 5) (by decide) ?_
              refine r_ialdK 58 hX dX5_firstBroken_57 rfl rfl (vpK rfl) (j := 5) (by decide) ?_
              refine r_aload 60 hX dX5_firstBroken_58 rfl ?_
              refine r_gets 63 hX dX5_firstBroken_60 sX5_33 ?_
              refine r_iload_n 64 hX dX5_firstBroken_63 rfl ?_
              refine r_taldK 65 hX dX5_firstBroken_64 (j := 7) rfl (vpK rfl) (v := 0) (by decide) ?_
              refine r_ialdK 66 hX dX5_firstBroken_65 rfl rfl (vpK rfl) (j := 0) (by decide) ?_
              refine r_Icmp_lt 69 71 hX dX5_firstBroken_66 (fun c7 => ?_) (fun c7 => ?_)
              · refine r_iincK 74 hX dX5_firstBroken_71 rfl (w := 7) (by decide) rfl ?_
                refine r_goto 2 hX dX5_firstBroken_74 ?_
                refine r_iload_n 3 hX dX5_firstBroken_2 rfl ?_
                refine r_gets 6 hX dX5_firstBroken_3 sX5_30 ?_
                refine r_tlen 7 hX dX5_firstBroken_6 (j := 6) rfl (v := 7) (by decide) ?_
                refine r_icmp_ge 10 77 hX dX5_firstBroken_7 (fun _ => ?_) (fun c => absurd c (by decide))
                refine r_bipush 79 hX dX5_firstBroken_77 (v := -2) (by decide) ?_
                refine r_iret hX hT dX5_firstBroken_79 ?_
                exact ⟨by simp [*, ovl, ovG], rfl⟩
              · refine r_iload_n 70 hX dX5_firstBroken_69 rfl ?_
                refine r_iret hX hT dX5_firstBroken_70 ?_
                exact ⟨by simp [*, ovl, ovG], rfl⟩
            · refine r_iload_n 70 hX dX5_firstBroken_69 rfl ?_
              refine r_iret hX hT dX5_firstBroken_70 ?_
              exact ⟨by simp [*, ovl, ovG], rfl⟩
          · refine r_iload_n 70 hX dX5_firstBroken_69 rfl ?_
            refine r_iret hX hT dX5_firstBroken_70 ?_
            exact ⟨by simp [*, ovl, ovG], rfl⟩
        · refine r_iload_n 70 hX dX5_firstBroken_69 rfl ?_
          refine r_iret hX hT dX5_firstBroken_70 ?_
          exact ⟨by simp [*, ovl, ovG], rfl⟩
      · refine r_iload_n 70 hX dX5_firstBroken_69 rfl ?_
        refine r_iret hX hT dX5_firstBroken_70 ?_
        exact ⟨by simp [*, ovl, ovG], rfl⟩
    · refine r_iload_n 70 hX dX5_firstBroken_69 rfl ?_
      refine r_iret hX hT dX5_firstBroken_70 ?_
      exact ⟨by simp [*, ovl, ovG], rfl⟩
  · refine r_iload_n 70 hX dX5_firstBroken_69 rfl ?_
    refine r_iret hX hT dX5_firstBroken_70 ?_
    exact ⟨by simp [*, ovl, ovG], rfl⟩
set_option maxRecDepth 100000 in
set_option maxHeartbeats 4000000 in
theorem tX5_firstBroken_34_1 {l : Launch} {G : mx_G} {M : mx_Mem} : mx_Met l G yX5_firstBroken cX5_firstBroken 5 ((some FieldType.int)) 0 0 [.ref 34, .int 1] M (mx_F (some (.int (ovl true (M.1 35) (M.1 36)))) M) := by
  refine mx_enter (own := RX5) (L := [.ref 34, .int 1, .null, .null, .null]) (by decide +kernel) rfl rfl rfl ?_
  intro X hlX hX hR hT
  refine r_iconst 1 hX dX5_firstBroken_0 (v := 0) (by decide) ?_
  refine r_istore_n 2 hX dX5_firstBroken_1 rfl ?_
  refine r_iload_n 3 hX dX5_firstBroken_2 rfl ?_
  refine r_gets 6 hX dX5_firstBroken_3 sX5_30 ?_
  refine r_tlen 7 hX dX5_firstBroken_6 (j := 6) rfl (v := 7) (by decide) ?_
  refine r_icmp_ge 10 77 hX dX5_firstBroken_7 (fun c => absurd c (by decide)) (fun _ => ?_)
  refine r_iload_n 11 hX dX5_firstBroken_10 rfl ?_
  refine r_if_eq 14 22 hX dX5_firstBroken_11 (fun c => absurd c (by decide)) (fun _ => ?_)
  refine r_gets 17 hX dX5_firstBroken_14 sX5_33 ?_
  refine r_iload_n 18 hX dX5_firstBroken_17 rfl ?_
  refine r_taldK 19 hX dX5_firstBroken_18 (j := 7) rfl (vpK rfl) (v := 0) (by decide) ?_
  refine r_if_eq 22 26 hX dX5_firstBroken_19 (fun _ => ?_) (fun c => absurd c (by decide))
  refine r_iconst 27 hX dX5_firstBroken_26 (v := 0) (by decide) ?_
  refine r_istore_n 28 hX dX5_firstBroken_27 rfl ?_
  refine r_iload_n 29 hX dX5_firstBroken_28 rfl ?_
  refine r_iconst 30 hX dX5_firstBroken_29 (v := 3) (by decide) ?_
  refine r_icmp_ge 33 40 hX dX5_firstBroken_30 (fun c => absurd c (by decide)) (fun _ => ?_)
  refine r_aload_n 34 hX dX5_firstBroken_33 rfl ?_
  refine r_getR 37 hX dX5_firstBroken_34 fX5_15 rfl rfl rfl ?_
  refine r_goto 44 hX dX5_firstBroken_37 ?_
  refine r_astore 46 hX dX5_firstBroken_44 rfl ?_
  refine (show mx_WW G X 46 [_, _, _, _, _] _ _ from ?_)
  refine r_iload_n 47 hX dX5_firstBroken_46 rfl ?_
  refine r_if_eq 50 71 hX dX5_firstBroken_47 (fun _ => ?_) (fun c => absurd c (by decide))
  refine r_iincK 74 hX dX5_firstBroken_71 rfl (w := 1) (by decide) rfl ?_
  refine r_goto 2 hX dX5_firstBroken_74 ?_
  refine r_iload_n 3 hX dX5_firstBroken_2 rfl ?_
  refine r_gets 6 hX dX5_firstBroken_3 sX5_30 ?_
  refine r_tlen 7 hX dX5_firstBroken_6 (j := 6) rfl (v := 7) (by decide) ?_
  refine r_icmp_ge 10 77 hX dX5_firstBroken_7 (fun c => absurd c (by decide)) (fun _ => ?_)
  refine r_iload_n 11 hX dX5_firstBroken_10 rfl ?_
  refine r_if_eq 14 22 hX dX5_firstBroken_11 (fun c => absurd c (by decide)) (fun _ => ?_)
  refine r_gets 17 hX dX5_firstBroken_14 sX5_33 ?_
  refine r_iload_n 18 hX dX5_firstBroken_17 rfl ?_
  refine r_taldK 19 hX dX5_firstBroken_18 (j := 7) rfl (vpK rfl) (v := 5) (by decide) ?_
  refine r_if_eq 22 26 hX dX5_firstBroken_19 (fun c => absurd c (by decide)) (fun _ => ?_)
  refine r_iconst 23 hX dX5_firstBroken_22 (v := 1) (by decide) ?_
  refine r_goto 27 hX dX5_firstBroken_23 ?_
  refine r_istore_n 28 hX dX5_firstBroken_27 rfl ?_
  refine r_iload_n 29 hX dX5_firstBroken_28 rfl ?_
  refine r_iconst 30 hX dX5_firstBroken_29 (v := 3) (by decide) ?_
  refine r_icmp_ge 33 40 hX dX5_firstBroken_30 (fun c => absurd c (by decide)) (fun _ => ?_)
  refine r_aload_n 34 hX dX5_firstBroken_33 rfl ?_
  refine r_getR 37 hX dX5_firstBroken_34 fX5_15 rfl rfl rfl ?_
  refine r_goto 44 hX dX5_firstBroken_37 ?_
  refine r_astore 46 hX dX5_firstBroken_44 rfl ?_
  refine (show mx_WW G X 46 [_, _, _, _, _] _ _ from ?_)
  refine r_iload_n 47 hX dX5_firstBroken_46 rfl ?_
  refine r_if_eq 50 71 hX dX5_firstBroken_47 (fun c => absurd c (by decide)) (fun _ => ?_)
  refine r_aload 52 hX dX5_firstBroken_50 rfl ?_
  refine r_gets 55 hX dX5_firstBroken_52 sX5_30 ?_
  refine r_iload_n 56 hX dX5_firstBroken_55 rfl ?_
  refine r_taldK 57 hX dX5_firstBroken_56 (j := 6) rfl (vpK rfl) (v := 2) (by decide) ?_
  refine r_ialdK 58 hX dX5_firstBroken_57 rfl rfl (vpK rfl) (j := 2) (by decide) ?_
  refine r_aload 60 hX dX5_firstBroken_58 rfl ?_
  refine r_gets 63 hX dX5_firstBroken_60 sX5_33 ?_
  refine r_iload_n 64 hX dX5_firstBroken_63 rfl ?_
  refine r_taldK 65 hX dX5_firstBroken_64 (j := 7) rfl (vpK rfl) (v := 5) (by decide) ?_
  refine r_ialdK 66 hX dX5_firstBroken_65 rfl rfl (vpK rfl) (j := 5) (by decide) ?_
  refine r_Icmp_lt 69 71 hX dX5_firstBroken_66 (fun c1 => ?_) (fun c1 => ?_)
  · refine r_iincK 74 hX dX5_firstBroken_71 rfl (w := 2) (by decide) rfl ?_
    refine r_goto 2 hX dX5_firstBroken_74 ?_
    refine r_iload_n 3 hX dX5_firstBroken_2 rfl ?_
    refine r_gets 6 hX dX5_firstBroken_3 sX5_30 ?_
    refine r_tlen 7 hX dX5_firstBroken_6 (j := 6) rfl (v := 7) (by decide) ?_
    refine r_icmp_ge 10 77 hX dX5_firstBroken_7 (fun c => absurd c (by decide)) (fun _ => ?_)
    refine r_iload_n 11 hX dX5_firstBroken_10 rfl ?_
    refine r_if_eq 14 22 hX dX5_firstBroken_11 (fun c => absurd c (by decide)) (fun _ => ?_)
    refine r_gets 17 hX dX5_firstBroken_14 sX5_33 ?_
    refine r_iload_n 18 hX dX5_firstBroken_17 rfl ?_
    refine r_taldK 19 hX dX5_firstBroken_18 (j := 7) rfl (vpK rfl) (v := 4) (by decide) ?_
    refine r_if_eq 22 26 hX dX5_firstBroken_19 (fun c => absurd c (by decide)) (fun _ => ?_)
    refine r_iconst 23 hX dX5_firstBroken_22 (v := 1) (by decide) ?_
    refine r_goto 27 hX dX5_firstBroken_23 ?_
    refine r_istore_n 28 hX dX5_firstBroken_27 rfl ?_
    refine r_iload_n 29 hX dX5_firstBroken_28 rfl ?_
    refine r_iconst 30 hX dX5_firstBroken_29 (v := 3) (by decide) ?_
    refine r_icmp_ge 33 40 hX dX5_firstBroken_30 (fun c => absurd c (by decide)) (fun _ => ?_)
    refine r_aload_n 34 hX dX5_firstBroken_33 rfl ?_
    refine r_getR 37 hX dX5_firstBroken_34 fX5_15 rfl rfl rfl ?_
    refine r_goto 44 hX dX5_firstBroken_37 ?_
    refine r_astore 46 hX dX5_firstBroken_44 rfl ?_
    refine (show mx_WW G X 46 [_, _, _, _, _] _ _ from ?_)
    refine r_iload_n 47 hX dX5_firstBroken_46 rfl ?_
    refine r_if_eq 50 71 hX dX5_firstBroken_47 (fun c => absurd c (by decide)) (fun _ => ?_)
    refine r_aload 52 hX dX5_firstBroken_50 rfl ?_
    refine r_gets 55 hX dX5_firstBroken_52 sX5_30 ?_
    refine r_iload_n 56 hX dX5_firstBroken_55 rfl ?_
    refine r_taldK 57 hX dX5_firstBroken_56 (j := 6) rfl (vpK rfl) (v := 3) (by decide) ?_
    refine r_ialdK 58 hX dX5_firstBroken_57 rfl rfl (vpK rfl) (j := 3) (by decide) ?_
    refine r_aload 60 hX dX5_firstBroken_58 rfl ?_
    refine r_gets 63 hX dX5_firstBroken_60 sX5_33 ?_
    refine r_iload_n 64 hX dX5_firstBroken_63 rfl ?_
    refine r_taldK 65 hX dX5_firstBroken_64 (j := 7) rfl (vpK rfl) (v := 4) (by decide) ?_
    refine r_ialdK 66 hX dX5_firstBroken_65 rfl rfl (vpK rfl) (j := 4) (by decide) ?_
    refine r_Icmp_lt 69 71 hX dX5_firstBroken_66 (fun c2 => ?_) (fun c2 => ?_)
    · refine r_iincK 74 hX dX5_firstBroken_71 rfl (w := 3) (by decide) rfl ?_
      refine r_goto 2 hX dX5_firstBroken_74 ?_
      refine r_iload_n 3 hX dX5_firstBroken_2 rfl ?_
      refine r_gets 6 hX dX5_firstBroken_3 sX5_30 ?_
      refine r_tlen 7 hX dX5_firstBroken_6 (j := 6) rfl (v := 7) (by decide) ?_
      refine r_icmp_ge 10 77 hX dX5_firstBroken_7 (fun c => absurd c (by decide)) (fun _ => ?_)
      refine r_iload_n 11 hX dX5_firstBroken_10 rfl ?_
      refine r_if_eq 14 22 hX dX5_firstBroken_11 (fun c => absurd c (by decide)) (fun _ => ?_)
      refine r_gets 17 hX dX5_firstBroken_14 sX5_33 ?_
      refine r_iload_n 18 hX dX5_firstBroken_17 rfl ?_
      refine r_taldK 19 hX dX5_firstBroken_18 (j := 7) rfl (vpK rfl) (v := 2) (by decide) ?_
      refine r_if_eq 22 26 hX dX5_firstBroken_19 (fun c => absurd c (by decide)) (fun _ => ?_)
      refine r_iconst 23 hX dX5_firstBroken_22 (v := 1) (by decide) ?_
      refine r_goto 27 hX dX5_firstBroken_23 ?_
      refine r_istore_n 28 hX dX5_firstBroken_27 rfl ?_
      refine r_iload_n 29 hX dX5_firstBroken_28 rfl ?_
      refine r_iconst 30 hX dX5_firstBroken_29 (v := 3) (by decide) ?_
      refine r_icmp_ge 33 40 hX dX5_firstBroken_30 (fun _ => ?_) (fun c => absurd c (by decide))
      refine r_aload_n 41 hX dX5_firstBroken_40 rfl ?_
      refine r_getR 44 hX dX5_firstBroken_41 fX5_9 rfl rfl rfl ?_
      refine r_astore 46 hX dX5_firstBroken_44 rfl ?_
      refine (show mx_WW G X 46 [_, _, _, _, _] _ _ from ?_)
      refine r_iload_n 47 hX dX5_firstBroken_46 rfl ?_
      refine r_if_eq 50 71 hX dX5_firstBroken_47 (fun c => absurd c (by decide)) (fun _ => ?_)
      refine r_aload 52 hX dX5_firstBroken_50 rfl ?_
      refine r_gets 55 hX dX5_firstBroken_52 sX5_30 ?_
      refine r_iload_n 56 hX dX5_firstBroken_55 rfl ?_
      refine r_taldK 57 hX dX5_firstBroken_56 (j := 6) rfl (vpK rfl) (v := 3) (by decide) ?_
      refine r_ialdK 58 hX dX5_firstBroken_57 rfl rfl (vpK rfl) (j := 3) (by decide) ?_
      refine r_aload 60 hX dX5_firstBroken_58 rfl ?_
      refine r_gets 63 hX dX5_firstBroken_60 sX5_33 ?_
      refine r_iload_n 64 hX dX5_firstBroken_63 rfl ?_
      refine r_taldK 65 hX dX5_firstBroken_64 (j := 7) rfl (vpK rfl) (v := 2) (by decide) ?_
      refine r_ialdK 66 hX dX5_firstBroken_65 rfl rfl (vpK rfl) (j := 2) (by decide) ?_
      refine r_Icmp_lt 69 71 hX dX5_firstBroken_66 (fun c3 => ?_) (fun c3 => ?_)
      · refine r_iincK 74 hX dX5_firstBroken_71 rfl (w := 4) (by decide) rfl ?_
        refine r_goto 2 hX dX5_firstBroken_74 ?_
        refine r_iload_n 3 hX dX5_firstBroken_2 rfl ?_
        refine r_gets 6 hX dX5_firstBroken_3 sX5_30 ?_
        refine r_tlen 7 hX dX5_firstBroken_6 (j := 6) rfl (v := 7) (by decide) ?_
        refine r_icmp_ge 10 77 hX dX5_firstBroken_7 (fun c => absurd c (by decide)) (fun _ => ?_)
        refine r_iload_n 11 hX dX5_firstBroken_10 rfl ?_
        refine r_if_eq 14 22 hX dX5_firstBroken_11 (fun c => absurd c (by decide)) (fun _ => ?_)
        refine r_gets 17 hX dX5_firstBroken_14 sX5_33 ?_
        refine r_iload_n 18 hX dX5_firstBroken_17 rfl ?_
        refine r_taldK 19 hX dX5_firstBroken_18 (j := 7) rfl (vpK rfl) (v := 1) (by decide) ?_
        refine r_if_eq 22 26 hX dX5_firstBroken_19 (fun c => absurd c (by decide)) (fun _ => ?_)
        refine r_iconst 23 hX dX5_firstBroken_22 (v := 1) (by decide) ?_
        refine r_goto 27 hX dX5_firstBroken_23 ?_
        refine r_istore_n 28 hX dX5_firstBroken_27 rfl ?_
        refine r_iload_n 29 hX dX5_firstBroken_28 rfl ?_
        refine r_iconst 30 hX dX5_firstBroken_29 (v := 3) (by decide) ?_
        refine r_icmp_ge 33 40 hX dX5_firstBroken_30 (fun _ => ?_) (fun c => absurd c (by decide))
        refine r_aload_n 41 hX dX5_firstBroken_40 rfl ?_
        refine r_getR 44 hX dX5_firstBroken_41 fX5_9 rfl rfl rfl ?_
        refine r_astore 46 hX dX5_firstBroken_44 rfl ?_
        refine (show mx_WW G X 46 [_, _, _, _, _] _ _ from ?_)
        refine r_iload_n 47 hX dX5_firstBroken_46 rfl ?_
        refine r_if_eq 50 71 hX dX5_firstBroken_47 (fun c => absurd c (by decide)) (fun _ => ?_)
        refine r_aload 52 hX dX5_firstBroken_50 rfl ?_
        refine r_gets 55 hX dX5_firstBroken_52 sX5_30 ?_
        refine r_iload_n 56 hX dX5_firstBroken_55 rfl ?_
        refine r_taldK 57 hX dX5_firstBroken_56 (j := 6) rfl (vpK rfl) (v := 2) (by decide) ?_
        refine r_ialdK 58 hX dX5_firstBroken_57 rfl rfl (vpK rfl) (j := 2) (by decide) ?_
        refine r_aload 60 hX dX5_firstBroken_58 rfl ?_
        refine r_gets 63 hX dX5_firstBroken_60 sX5_33 ?_
        refine r_iload_n 64 hX dX5_firstBroken_63 rfl ?_
        refine r_taldK 65 hX dX5_firstBroken_64 (j := 7) rfl (vpK rfl) (v := 1) (by decide) ?_
        refine r_ialdK 66 hX dX5_firstBroken_65 rfl rfl (vpK rfl) (j := 1) (by decide) ?_
        refine r_Icmp_lt 69 71 hX dX5_firstBroken_66 (fun c4 => ?_) (fun c4 => ?_)
        · refine r_iincK 74 hX dX5_firstBroken_71 rfl (w := 5) (by decide) rfl ?_
          refine r_goto 2 hX dX5_firstBroken_74 ?_
          refine r_iload_n 3 hX dX5_firstBroken_2 rfl ?_
          refine r_gets 6 hX dX5_firstBroken_3 sX5_30 ?_
          refine r_tlen 7 hX dX5_firstBroken_6 (j := 6) rfl (v := 7) (by decide) ?_
          refine r_icmp_ge 10 77 hX dX5_firstBroken_7 (fun c => absurd c (by decide)) (fun _ => ?_)
          refine r_iload_n 11 hX dX5_firstBroken_10 rfl ?_
          refine r_if_eq 14 22 hX dX5_firstBroken_11 (fun c => absurd c (by decide)) (fun _ => ?_)
          refine r_gets 17 hX dX5_firstBroken_14 sX5_33 ?_
          refine r_iload_n 18 hX dX5_firstBroken_17 rfl ?_
          refine r_taldK 19 hX dX5_firstBroken_18 (j := 7) rfl (vpK rfl) (v := 5) (by decide) ?_
          refine r_if_eq 22 26 hX dX5_firstBroken_19 (fun c => absurd c (by decide)) (fun _ => ?_)
          refine r_iconst 23 hX dX5_firstBroken_22 (v := 1) (by decide) ?_
          refine r_goto 27 hX dX5_firstBroken_23 ?_
          refine r_istore_n 28 hX dX5_firstBroken_27 rfl ?_
          refine r_iload_n 29 hX dX5_firstBroken_28 rfl ?_
          refine r_iconst 30 hX dX5_firstBroken_29 (v := 3) (by decide) ?_
          refine r_icmp_ge 33 40 hX dX5_firstBroken_30 (fun _ => ?_) (fun c => absurd c (by decide))
          refine r_aload_n 41 hX dX5_firstBroken_40 rfl ?_
          refine r_getR 44 hX dX5_firstBroken_41 fX5_9 rfl rfl rfl ?_
          refine r_astore 46 hX dX5_firstBroken_44 rfl ?_
          refine (show mx_WW G X 46 [_, _, _, _, _] _ _ from ?_)
          refine r_iload_n 47 hX dX5_firstBroken_46 rfl ?_
          refine r_if_eq 50 71 hX dX5_firstBroken_47 (fun c => absurd c (by decide)) (fun _ => ?_)
          refine r_aload 52 hX dX5_firstBroken_50 rfl ?_
          refine r_gets 55 hX dX5_firstBroken_52 sX5_30 ?_
          refine r_iload_n 56 hX dX5_firstBroken_55 rfl ?_
          refine r_taldK 57 hX dX5_firstBroken_56 (j := 6) rfl (vpK rfl) (v := 4) (by decide) ?_
          refine r_ialdK 58 hX dX5_firstBroken_57 rfl rfl (vpK rfl) (j := 4) (by decide) ?_
          refine r_aload 60 hX dX5_firstBroken_58 rfl ?_
          refine r_gets 63 hX dX5_firstBroken_60 sX5_33 ?_
          refine r_iload_n 64 hX dX5_firstBroken_63 rfl ?_
          refine r_taldK 65 hX dX5_firstBroken_64 (j := 7) rfl (vpK rfl) (v := 5) (by decide) ?_
          refine r_ialdK 66 hX dX5_firstBroken_65 rfl rfl (vpK rfl) (j := 5) (by decide) ?_
          refine r_Icmp_lt 69 71 hX dX5_firstBroken_66 (fun c5 => ?_) (fun c5 => ?_)
          · refine r_iincK 74 hX dX5_firstBroken_71 rfl (w := 6) (by decide) rfl ?_
            refine r_goto 2 hX dX5_firstBroken_74 ?_
            refine r_iload_n 3 hX dX5_firstBroken_2 rfl ?_
            refine r_gets 6 hX dX5_firstBroken_3 sX5_30 ?_
            refine r_tlen 7 hX dX5_firstBroken_6 (j := 6) rfl (v := 7) (by decide) ?_
            refine r_icmp_ge 10 77 hX dX5_firstBroken_7 (fun c => absurd c (by decide)) (fun _ => ?_)
            refine r_iload_n 11 hX dX5_firstBroken_10 rfl ?_
            refine r_if_eq 14 22 hX dX5_firstBroken_11 (fun c => absurd c (by decide)) (fun _ => ?_)
            refine r_gets 17 hX dX5_firstBroken_14 sX5_33 ?_
            refine r_iload_n 18 hX dX5_firstBroken_17 rfl ?_
            refine r_taldK 19 hX dX5_firstBroken_18 (j := 7) rfl (vpK rfl) (v := 0) (by decide) ?_
            refine r_if_eq 22 26 hX dX5_firstBroken_19 (fun _ => ?_) (fun c => absurd c (by decide))
            refine r_iconst 27 hX dX5_firstBroken_26 (v := 0) (by decide) ?_
            refine r_istore_n 28 hX dX5_firstBroken_27 rfl ?_
            refine r_iload_n 29 hX dX5_firstBroken_28 rfl ?_
            refine r_iconst 30 hX dX5_firstBroken_29 (v := 3) (by decide) ?_
            refine r_icmp_ge 33 40 hX dX5_firstBroken_30 (fun _ => ?_) (fun c => absurd c (by decide))
            refine r_aload_n 41 hX dX5_firstBroken_40 rfl ?_
            refine r_getR 44 hX dX5_firstBroken_41 fX5_9 rfl rfl rfl ?_
            refine r_astore 46 hX dX5_firstBroken_44 rfl ?_
            refine (show mx_WW G X 46 [_, _, _, _, _] _ _ from ?_)
            refine r_iload_n 47 hX dX5_firstBroken_46 rfl ?_
            refine r_if_eq 50 71 hX dX5_firstBroken_47 (fun _ => ?_) (fun c => absurd c (by decide))
            refine r_iincK 74 hX dX5_firstBroken_71 rfl (w := 7) (by decide) rfl ?_
            refine r_goto 2 hX dX5_firstBroken_74 ?_
            refine r_iload_n 3 hX dX5_firstBroken_2 rfl ?_
            refine r_gets 6 hX dX5_firstBroken_3 sX5_30 ?_
            refine r_tlen 7 hX dX5_firstBroken_6 (j := 6) rfl (v := 7) (by decide) ?_
            refine r_icmp_ge 10 77 hX dX5_firstBroken_7 (fun _ => ?_) (fun c => absurd c (by decide))
            refine r_bipush 79 hX dX5_firstBroken_77 (v := -2) (by decide) ?_
            refine r_iret hX hT dX5_firstBroken_79 ?_
            exact ⟨by simp [*, ovl, ovG], rfl⟩
          · refine r_iload_n 70 hX dX5_firstBroken_69 rfl ?_
            refine r_iret hX hT dX5_firstBroken_70 ?_
            exact ⟨by simp [*, ovl, ovG], rfl⟩
        · refine r_iload_n 70 hX dX5_firstBroken_69 rfl ?_
          refine r_iret hX hT dX5_firstBroken_70 ?_
          exact ⟨by simp [*, ovl, ovG], rfl⟩
      · refine r_iload_n 70 hX dX5_firstBroken_69 rfl ?_
        refine r_iret hX hT dX5_firstBroken_70 ?_
        exact ⟨by simp [*, ovl, ovG], rfl⟩
    · refine r_iload_n 70 hX dX5_firstBroken_69 rfl ?_
      refine r_iret hX hT dX5_firstBroken_70 ?_
      exact ⟨by simp [*, ovl, ovG], rfl⟩
  · refine r_iload_n 70 hX dX5_firstBroken_69 rfl ?_
    refine r_iret hX hT dX5_firstBroken_70 ?_
    exact ⟨by simp [*, ovl, ovG], rfl⟩
/-- the sign at p; a player's sign -/
def sgn (f : Nat → Int32) (p : Int32) : Int32 := if 0 ≤ p ∧ ¬ 100 ≤ p then f p.toNatClampNeg else 0
def plo (c : Int32) : Int32 := if 48 ≤ c ∧ c ≤ 57 then c - 48 else if c = 120 then 10 else if c = 121 then 11 else -1
def isCh (v : Int32) : Prop := narrow .char (.int v) = .int v
set_option maxRecDepth 100000 in
set_option maxHeartbeats 4000000 in
theorem tX6_append {l : Launch} {G : mx_G} {c : Int32} {M : mx_Mem} (h1 : 0 ≤ M.1 37 1) (h2 : ¬ 100 ≤ M.1 37 1) : mx_Met l G yX6_append cX6_append 2 (none) 0 0 [.ref 37, .int c] M (mx_F none (mI (mI M 38 (M.1 37 1).toNatClampNeg (vp_nar .char c)) 37 1 (M.1 37 1 + 1))) := by
  refine mx_enter (own := RX6) (L := [.ref 37, .int c]) (by decide +kernel) rfl rfl rfl ?_
  intro X hlX hX hR hT
  refine r_aload_n 1 hX dX6_append_0 rfl ?_
  refine r_getI 4 hX dX6_append_1 fX6_15 rfl rfl rfl ?_
  refine r_If_lt 7 36 hX dX6_append_4 (fun c1 => absurd h1 c1) (fun c1 => ?_)
  refine r_aload_n 8 hX dX6_append_7 rfl ?_
  refine r_getI 11 hX dX6_append_8 fX6_15 rfl rfl rfl ?_
  refine r_bipush 13 hX dX6_append_11 (v := 100) (by decide) ?_
  refine r_icmp_ge 16 36 hX dX6_append_13 (fun c2 => absurd c2 h2) (fun c2 => ?_)
  refine r_aload_n 17 hX dX6_append_16 rfl ?_
  refine r_getR 20 hX dX6_append_17 fX6_11 rfl rfl rfl ?_
  refine r_aload_n 21 hX dX6_append_20 rfl ?_
  refine r_getI 24 hX dX6_append_21 fX6_15 rfl rfl rfl ?_
  refine r_iload_n 25 hX dX6_append_24 rfl ?_
  refine r_cast 26 hX dX6_append_25 rfl rfl (by first | assumption | exact vpK rfl | exact vpP (by assumption) | exact vp6 (by assumption) (by assumption) | exact vp12 (by assumption) (by assumption) | exact vp48 (by assumption) (by assumption) | exact vp100 (by assumption) (by assumption)) ?_
  refine r_aload_n 27 hX dX6_append_26 rfl ?_
  refine r_dup 28 hX dX6_append_27 rfl ?_
  refine r_getI 31 hX dX6_append_28 fX6_15 rfl rfl rfl ?_
  refine r_iconst 32 hX dX6_append_31 (v := 1) (by decide) ?_
  refine r_iadd 33 hX dX6_append_32 ?_
  refine r_putI 36 hX dX6_append_33 fX6_15 fp6_1 rfl rfl rfl ?_
  refine r_vret hX hT dX6_append_36 ?_
  exact ⟨rfl, rfl⟩
theorem isCh0 : isCh 0 := show narrow .char (.int 0) = .int 0 from rfl
set_option maxRecDepth 100000 in
set_option maxHeartbeats 4000000 in
theorem tX6_signAt {l : Launch} {G : mx_G} {p : Int32} {M : mx_Mem} (hc : ∀ j : Nat, j < 100 → isCh (M.1 38 j)) : mx_Met l G yX6_signAt cX6_signAt 2 ((some FieldType.char)) 0 0 [.ref 37, .int p] M (mx_F (some (.int (sgn (M.1 38) p))) M) := by
  refine mx_enter (own := RX6) (L := [.ref 37, .int p]) (by decide +kernel) rfl rfl rfl ?_
  intro X hlX hX hR hT
  have key : ∀ {i : Int32}, 0 ≤ i → ¬ 100 ≤ i → narrow .char (.int (M.1 38 i.toNatClampNeg)) = .int (M.1 38 i.toNatClampNeg) := fun a b => by
    obtain ⟨j, h1, rfl⟩ := vp_in_of (vp100 a b) (by decide)
    rw [nI_clamp (by omega)]
    exact hc j h1
  refine r_iload_n 1 hX dX6_signAt_0 rfl ?_
  refine r_If_lt 4 19 hX dX6_signAt_1 (fun c1 => ?_) (fun c1 => ?_)
  · refine r_iconst 20 hX dX6_signAt_19 (v := 0) (by decide) ?_
    refine r_cret hX hT dX6_signAt_20 (by first | exact key c1 c2 | exact isCh0) ?_
    exact ⟨by simp [*, sgn], rfl⟩
  · refine r_iload_n 5 hX dX6_signAt_4 rfl ?_
    refine r_bipush 7 hX dX6_signAt_5 (v := 100) (by decide) ?_
    refine r_icmp_ge 10 19 hX dX6_signAt_7 (fun c2 => ?_) (fun c2 => ?_)
    · refine r_iconst 20 hX dX6_signAt_19 (v := 0) (by decide) ?_
      refine r_cret hX hT dX6_signAt_20 (by first | exact key c1 c2 | exact isCh0) ?_
      exact ⟨by simp [*, sgn], rfl⟩
    · refine r_aload_n 11 hX dX6_signAt_10 rfl ?_
      refine r_getR 14 hX dX6_signAt_11 fX6_11 rfl rfl rfl ?_
      refine r_iload_n 15 hX dX6_signAt_14 rfl ?_
      refine r_cald 16 hX dX6_signAt_15 rfl rfl (by first | assumption | exact vpK rfl | exact vpP (by assumption) | exact vp6 (by assumption) (by assumption) | exact vp12 (by assumption) (by assumption) | exact vp48 (by assumption) (by assumption) | exact vp100 (by assumption) (by assumption)) ?_
      refine r_goto 20 hX dX6_signAt_16 ?_
      refine r_cret hX hT dX6_signAt_20 (by first | exact key c1 c2 | exact isCh0) ?_
      exact ⟨by simp [*, sgn], rfl⟩
set_option maxRecDepth 100000 in
set_option maxHeartbeats 4000000 in
theorem tX6_playerOf {l : Launch} {G : mx_G} {c : Int32} {M : mx_Mem} : mx_Met l G yX6_playerOf cX6_playerOf 1 ((some FieldType.int)) 0 0 [.int c] M (mx_F (some (.int (plo c))) M) := by
  refine mx_enter (own := RX6) (L := [.int c]) (by decide +kernel) rfl rfl rfl ?_
  intro X hlX hX hR hT
  refine r_iload_n 1 hX dX6_playerOf_0 rfl ?_
  refine r_bipush 3 hX dX6_playerOf_1 (v := 48) (by decide) ?_
  refine r_Icmp_lt 6 17 hX dX6_playerOf_3 (fun c1 => ?_) (fun c1 => ?_)
  · refine r_iload_n 18 hX dX6_playerOf_17 rfl ?_
    refine r_bipush 20 hX dX6_playerOf_18 (v := 120) (by decide) ?_
    refine r_icmp_ne 23 26 hX dX6_playerOf_20 (fun c2 => ?_) (fun c2 => ?_)
    · refine r_iload_n 27 hX dX6_playerOf_26 rfl ?_
      refine r_bipush 29 hX dX6_playerOf_27 (v := 121) (by decide) ?_
      refine r_icmp_ne 32 37 hX dX6_playerOf_29 (fun c3 => ?_) (fun c3 => ?_)
      · refine r_iconst 38 hX dX6_playerOf_37 (v := -1) (by decide) ?_
        refine r_iret hX hT dX6_playerOf_38 ?_
        exact ⟨by simp [*, plo], rfl⟩
      · refine r_bipush 34 hX dX6_playerOf_32 (v := 11) (by decide) ?_
        refine r_goto 38 hX dX6_playerOf_34 ?_
        refine r_iret hX hT dX6_playerOf_38 ?_
        exact ⟨by simp [*, plo], rfl⟩
    · refine r_bipush 25 hX dX6_playerOf_23 (v := 10) (by decide) ?_
      refine r_iret hX hT dX6_playerOf_25 ?_
      exact ⟨by simp [*, plo], rfl⟩
  · refine r_iload_n 7 hX dX6_playerOf_6 rfl ?_
    refine r_bipush 9 hX dX6_playerOf_7 (v := 57) (by decide) ?_
    refine r_Icmp_gt 12 17 hX dX6_playerOf_9 (fun c4 => ?_) (fun c4 => ?_)
    · refine r_iload_n 18 hX dX6_playerOf_17 rfl ?_
      refine r_bipush 20 hX dX6_playerOf_18 (v := 120) (by decide) ?_
      refine r_icmp_ne 23 26 hX dX6_playerOf_20 (fun c5 => ?_) (fun c5 => ?_)
      · refine r_iload_n 27 hX dX6_playerOf_26 rfl ?_
        refine r_bipush 29 hX dX6_playerOf_27 (v := 121) (by decide) ?_
        refine r_icmp_ne 32 37 hX dX6_playerOf_29 (fun c6 => ?_) (fun c6 => ?_)
        · refine r_iconst 38 hX dX6_playerOf_37 (v := -1) (by decide) ?_
          refine r_iret hX hT dX6_playerOf_38 ?_
          exact ⟨by simp [*, plo], rfl⟩
        · refine r_bipush 34 hX dX6_playerOf_32 (v := 11) (by decide) ?_
          refine r_goto 38 hX dX6_playerOf_34 ?_
          refine r_iret hX hT dX6_playerOf_38 ?_
          exact ⟨by simp [*, plo], rfl⟩
      · refine r_bipush 25 hX dX6_playerOf_23 (v := 10) (by decide) ?_
        refine r_iret hX hT dX6_playerOf_25 ?_
        exact ⟨by simp [*, plo], rfl⟩
    · refine r_iload_n 13 hX dX6_playerOf_12 rfl ?_
      refine r_bipush 15 hX dX6_playerOf_13 (v := 48) (by decide) ?_
      refine r_isub 16 hX dX6_playerOf_15 ?_
      refine r_iret hX hT dX6_playerOf_16 ?_
      exact ⟨by simp [*, plo], rfl⟩
def flt (f : Nat → Int32) (p : Int32) : Int32 :=
  if sgn f p = 65 ∨ sgn f p = 66 then -1 else if ¬ sgn f p = 97 ∧ ¬ sgn f p = 98 then p else
  if sgn f (p + 1) = 33 ∨ sgn f (p + 1) = 45 then -1 else if ¬ sgn f (p + 1) = 42 ∧ plo (sgn f (p + 1)) = -1 then p + 1 else if plo (sgn f (p + 2)) = -1 then p + 2 else -1
def itl (f : Nat → Int32) (p : Int32) : Int32 := if ¬ sgn f p = 97 ∧ ¬ sgn f p = 98 then 1 else if sgn f (p + 1) = 33 ∨ sgn f (p + 1) = 45 then 2 else 3
set_option maxRecDepth 100000 in
set_option maxHeartbeats 4000000 in
theorem tX6_faultInItem {l : Launch} {G : mx_G} {p : Int32} {M : mx_Mem} (hc : ∀ j : Nat, j < 100 → isCh (M.1 38 j)) : mx_Met l G yX6_faultInItem cX6_faultInItem 4 ((some FieldType.int)) 1 21 [.ref 37, .int p] M (mx_F (some (.int (flt (M.1 38) p))) M) := by
  refine mx_enter (own := RX6) (L := [.ref 37, .int p, .null, .null]) (by decide +kernel) rfl rfl rfl ?_
  intro X hlX hX hR hT
  refine r_aload_n 1 hX dX6_faultInItem_0 rfl ?_
  refine r_iload_n 2 hX dX6_faultInItem_1 rfl ?_
  refine r_cV1F 5 hX hR (tX6_signAt hc) dX6_faultInItem_2 kX6_signAt lX6_35 rfl rfl rfl rfl rfl rfl ?_
  refine r_istore_n 6 hX dX6_faultInItem_5 rfl ?_
  refine r_iload_n 7 hX dX6_faultInItem_6 rfl ?_
  refine r_bipush 9 hX dX6_faultInItem_7 (v := 65) (by decide) ?_
  refine r_icmp_eq 12 18 hX dX6_faultInItem_9 (fun c1 => ?_) (fun c1 => ?_)
  · refine r_iconst 19 hX dX6_faultInItem_18 (v := -1) (by decide) ?_
    refine r_iret hX hT dX6_faultInItem_19 ?_
    exact ⟨by simp [*, flt], rfl⟩
  · refine r_iload_n 13 hX dX6_faultInItem_12 rfl ?_
    refine r_bipush 15 hX dX6_faultInItem_13 (v := 66) (by decide) ?_
    refine r_icmp_ne 18 20 hX dX6_faultInItem_15 (fun c2 => ?_) (fun c2 => ?_)
    · refine r_iload_n 21 hX dX6_faultInItem_20 rfl ?_
      refine r_bipush 23 hX dX6_faultInItem_21 (v := 97) (by decide) ?_
      refine r_icmp_eq 26 34 hX dX6_faultInItem_23 (fun c3 => ?_) (fun c3 => ?_)
      · refine r_aload_n 35 hX dX6_faultInItem_34 rfl ?_
        refine r_iload_n 36 hX dX6_faultInItem_35 rfl ?_
        refine r_iconst 37 hX dX6_faultInItem_36 (v := 1) (by decide) ?_
        refine r_iadd 38 hX dX6_faultInItem_37 ?_
        refine r_cV1F 41 hX hR (tX6_signAt hc) dX6_faultInItem_38 kX6_signAt lX6_35 rfl rfl rfl rfl rfl rfl ?_
        refine r_istore_n 42 hX dX6_faultInItem_41 rfl ?_
        refine r_iload_n 43 hX dX6_faultInItem_42 rfl ?_
        refine r_bipush 45 hX dX6_faultInItem_43 (v := 33) (by decide) ?_
        refine r_icmp_eq 48 54 hX dX6_faultInItem_45 (fun c4 => ?_) (fun c4 => ?_)
        · refine r_iconst 55 hX dX6_faultInItem_54 (v := -1) (by decide) ?_
          refine r_iret hX hT dX6_faultInItem_55 ?_
          exact ⟨by simp [*, flt], rfl⟩
        · refine r_iload_n 49 hX dX6_faultInItem_48 rfl ?_
          refine r_bipush 51 hX dX6_faultInItem_49 (v := 45) (by decide) ?_
          refine r_icmp_ne 54 56 hX dX6_faultInItem_51 (fun c5 => ?_) (fun c5 => ?_)
          · refine r_iload_n 57 hX dX6_faultInItem_56 rfl ?_
            refine r_bipush 59 hX dX6_faultInItem_57 (v := 42) (by decide) ?_
            refine r_icmp_eq 62 74 hX dX6_faultInItem_59 (fun c6 => ?_) (fun c6 => ?_)
            · refine r_aload_n 75 hX dX6_faultInItem_74 rfl ?_
              refine r_iload_n 76 hX dX6_faultInItem_75 rfl ?_
              refine r_iconst 77 hX dX6_faultInItem_76 (v := 2) (by decide) ?_
              refine r_iadd 78 hX dX6_faultInItem_77 ?_
              refine r_cV1F 81 hX hR (tX6_signAt hc) dX6_faultInItem_78 kX6_signAt lX6_35 rfl rfl rfl rfl rfl rfl ?_
              refine r_cS1F 84 hX hR tX6_playerOf dX6_faultInItem_81 kX6_playerOf lX6_39 rfl rfl rfl ?_
              refine r_iconst 85 hX dX6_faultInItem_84 (v := -1) (by decide) ?_
              refine r_icmp_ne 88 94 hX dX6_faultInItem_85 (fun c7 => ?_) (fun c7 => ?_)
              · refine r_iconst 95 hX dX6_faultInItem_94 (v := -1) (by decide) ?_
                refine r_iret hX hT dX6_faultInItem_95 ?_
                exact ⟨by simp [*, flt], rfl⟩
              · refine r_iload_n 89 hX dX6_faultInItem_88 rfl ?_
                refine r_iconst 90 hX dX6_faultInItem_89 (v := 2) (by decide) ?_
                refine r_iadd 91 hX dX6_faultInItem_90 ?_
                refine r_goto 95 hX dX6_faultInItem_91 ?_
                refine r_iret hX hT dX6_faultInItem_95 ?_
                exact ⟨by simp [*, flt], rfl⟩
            · refine r_iload_n 63 hX dX6_faultInItem_62 rfl ?_
              refine r_cS1F 66 hX hR tX6_playerOf dX6_faultInItem_63 kX6_playerOf lX6_39 rfl rfl rfl ?_
              refine r_iconst 67 hX dX6_faultInItem_66 (v := -1) (by decide) ?_
              refine r_icmp_ne 70 74 hX dX6_faultInItem_67 (fun c8 => ?_) (fun c8 => ?_)
              · refine r_aload_n 75 hX dX6_faultInItem_74 rfl ?_
                refine r_iload_n 76 hX dX6_faultInItem_75 rfl ?_
                refine r_iconst 77 hX dX6_faultInItem_76 (v := 2) (by decide) ?_
                refine r_iadd 78 hX dX6_faultInItem_77 ?_
                refine r_cV1F 81 hX hR (tX6_signAt hc) dX6_faultInItem_78 kX6_signAt lX6_35 rfl rfl rfl rfl rfl rfl ?_
                refine r_cS1F 84 hX hR tX6_playerOf dX6_faultInItem_81 kX6_playerOf lX6_39 rfl rfl rfl ?_
                refine r_iconst 85 hX dX6_faultInItem_84 (v := -1) (by decide) ?_
                refine r_icmp_ne 88 94 hX dX6_faultInItem_85 (fun c9 => ?_) (fun c9 => ?_)
                · refine r_iconst 95 hX dX6_faultInItem_94 (v := -1) (by decide) ?_
                  refine r_iret hX hT dX6_faultInItem_95 ?_
                  exact ⟨by simp [*, flt], rfl⟩
                · refine r_iload_n 89 hX dX6_faultInItem_88 rfl ?_
                  refine r_iconst 90 hX dX6_faultInItem_89 (v := 2) (by decide) ?_
                  refine r_iadd 91 hX dX6_faultInItem_90 ?_
                  refine r_goto 95 hX dX6_faultInItem_91 ?_
                  refine r_iret hX hT dX6_faultInItem_95 ?_
                  exact ⟨by simp [*, flt], rfl⟩
              · refine r_iload_n 71 hX dX6_faultInItem_70 rfl ?_
                refine r_iconst 72 hX dX6_faultInItem_71 (v := 1) (by decide) ?_
                refine r_iadd 73 hX dX6_faultInItem_72 ?_
                refine r_iret hX hT dX6_faultInItem_73 ?_
                exact ⟨by simp [*, flt], rfl⟩
          · refine r_iconst 55 hX dX6_faultInItem_54 (v := -1) (by decide) ?_
            refine r_iret hX hT dX6_faultInItem_55 ?_
            exact ⟨by simp [*, flt], rfl⟩
      · refine r_iload_n 27 hX dX6_faultInItem_26 rfl ?_
        refine r_bipush 29 hX dX6_faultInItem_27 (v := 98) (by decide) ?_
        refine r_icmp_eq 32 34 hX dX6_faultInItem_29 (fun c10 => ?_) (fun c10 => ?_)
        · refine r_aload_n 35 hX dX6_faultInItem_34 rfl ?_
          refine r_iload_n 36 hX dX6_faultInItem_35 rfl ?_
          refine r_iconst 37 hX dX6_faultInItem_36 (v := 1) (by decide) ?_
          refine r_iadd 38 hX dX6_faultInItem_37 ?_
          refine r_cV1F 41 hX hR (tX6_signAt hc) dX6_faultInItem_38 kX6_signAt lX6_35 rfl rfl rfl rfl rfl rfl ?_
          refine r_istore_n 42 hX dX6_faultInItem_41 rfl ?_
          refine r_iload_n 43 hX dX6_faultInItem_42 rfl ?_
          refine r_bipush 45 hX dX6_faultInItem_43 (v := 33) (by decide) ?_
          refine r_icmp_eq 48 54 hX dX6_faultInItem_45 (fun c11 => ?_) (fun c11 => ?_)
          · refine r_iconst 55 hX dX6_faultInItem_54 (v := -1) (by decide) ?_
            refine r_iret hX hT dX6_faultInItem_55 ?_
            exact ⟨by simp [*, flt], rfl⟩
          · refine r_iload_n 49 hX dX6_faultInItem_48 rfl ?_
            refine r_bipush 51 hX dX6_faultInItem_49 (v := 45) (by decide) ?_
            refine r_icmp_ne 54 56 hX dX6_faultInItem_51 (fun c12 => ?_) (fun c12 => ?_)
            · refine r_iload_n 57 hX dX6_faultInItem_56 rfl ?_
              refine r_bipush 59 hX dX6_faultInItem_57 (v := 42) (by decide) ?_
              refine r_icmp_eq 62 74 hX dX6_faultInItem_59 (fun c13 => ?_) (fun c13 => ?_)
              · refine r_aload_n 75 hX dX6_faultInItem_74 rfl ?_
                refine r_iload_n 76 hX dX6_faultInItem_75 rfl ?_
                refine r_iconst 77 hX dX6_faultInItem_76 (v := 2) (by decide) ?_
                refine r_iadd 78 hX dX6_faultInItem_77 ?_
                refine r_cV1F 81 hX hR (tX6_signAt hc) dX6_faultInItem_78 kX6_signAt lX6_35 rfl rfl rfl rfl rfl rfl ?_
                refine r_cS1F 84 hX hR tX6_playerOf dX6_faultInItem_81 kX6_playerOf lX6_39 rfl rfl rfl ?_
                refine r_iconst 85 hX dX6_faultInItem_84 (v := -1) (by decide) ?_
                refine r_icmp_ne 88 94 hX dX6_faultInItem_85 (fun c14 => ?_) (fun c14 => ?_)
                · refine r_iconst 95 hX dX6_faultInItem_94 (v := -1) (by decide) ?_
                  refine r_iret hX hT dX6_faultInItem_95 ?_
                  exact ⟨by simp [*, flt], rfl⟩
                · refine r_iload_n 89 hX dX6_faultInItem_88 rfl ?_
                  refine r_iconst 90 hX dX6_faultInItem_89 (v := 2) (by decide) ?_
                  refine r_iadd 91 hX dX6_faultInItem_90 ?_
                  refine r_goto 95 hX dX6_faultInItem_91 ?_
                  refine r_iret hX hT dX6_faultInItem_95 ?_
                  exact ⟨by simp [*, flt], rfl⟩
              · refine r_iload_n 63 hX dX6_faultInItem_62 rfl ?_
                refine r_cS1F 66 hX hR tX6_playerOf dX6_faultInItem_63 kX6_playerOf lX6_39 rfl rfl rfl ?_
                refine r_iconst 67 hX dX6_faultInItem_66 (v := -1) (by decide) ?_
                refine r_icmp_ne 70 74 hX dX6_faultInItem_67 (fun c15 => ?_) (fun c15 => ?_)
                · refine r_aload_n 75 hX dX6_faultInItem_74 rfl ?_
                  refine r_iload_n 76 hX dX6_faultInItem_75 rfl ?_
                  refine r_iconst 77 hX dX6_faultInItem_76 (v := 2) (by decide) ?_
                  refine r_iadd 78 hX dX6_faultInItem_77 ?_
                  refine r_cV1F 81 hX hR (tX6_signAt hc) dX6_faultInItem_78 kX6_signAt lX6_35 rfl rfl rfl rfl rfl rfl ?_
                  refine r_cS1F 84 hX hR tX6_playerOf dX6_faultInItem_81 kX6_playerOf lX6_39 rfl rfl rfl ?_
                  refine r_iconst 85 hX dX6_faultInItem_84 (v := -1) (by decide) ?_
                  refine r_icmp_ne 88 94 hX dX6_faultInItem_85 (fun c16 => ?_) (fun c16 => ?_)
                  · refine r_iconst 95 hX dX6_faultInItem_94 (v := -1) (by decide) ?_
                    refine r_iret hX hT dX6_faultInItem_95 ?_
                    exact ⟨by simp [*, flt], rfl⟩
                  · refine r_iload_n 89 hX dX6_faultInItem_88 rfl ?_
                    refine r_iconst 90 hX dX6_faultInItem_89 (v := 2) (by decide) ?_
                    refine r_iadd 91 hX dX6_faultInItem_90 ?_
                    refine r_goto 95 hX dX6_faultInItem_91 ?_
                    refine r_iret hX hT dX6_faultInItem_95 ?_
                    exact ⟨by simp [*, flt], rfl⟩
                · refine r_iload_n 71 hX dX6_faultInItem_70 rfl ?_
                  refine r_iconst 72 hX dX6_faultInItem_71 (v := 1) (by decide) ?_
                  refine r_iadd 73 hX dX6_faultInItem_72 ?_
                  refine r_iret hX hT dX6_faultInItem_73 ?_
                  exact ⟨by simp [*, flt], rfl⟩
            · refine r_iconst 55 hX dX6_faultInItem_54 (v := -1) (by decide) ?_
              refine r_iret hX hT dX6_faultInItem_55 ?_
              exact ⟨by simp [*, flt], rfl⟩
        · refine r_iload_n 33 hX dX6_faultInItem_32 rfl ?_
          refine r_iret hX hT dX6_faultInItem_33 ?_
          exact ⟨by simp [*, flt], rfl⟩
    · refine r_iconst 19 hX dX6_faultInItem_18 (v := -1) (by decide) ?_
      refine r_iret hX hT dX6_faultInItem_19 ?_
      exact ⟨by simp [*, flt], rfl⟩
set_option maxRecDepth 100000 in
set_option maxHeartbeats 4000000 in
theorem tX6_itemLength {l : Launch} {G : mx_G} {p : Int32} {M : mx_Mem} (hc : ∀ j : Nat, j < 100 → isCh (M.1 38 j)) : mx_Met l G yX6_itemLength cX6_itemLength 4 ((some FieldType.int)) 1 21 [.ref 37, .int p] M (mx_F (some (.int (itl (M.1 38) p))) M) := by
  refine mx_enter (own := RX6) (L := [.ref 37, .int p, .null, .null]) (by decide +kernel) rfl rfl rfl ?_
  intro X hlX hX hR hT
  refine r_aload_n 1 hX dX6_itemLength_0 rfl ?_
  refine r_iload_n 2 hX dX6_itemLength_1 rfl ?_
  refine r_cV1F 5 hX hR (tX6_signAt hc) dX6_itemLength_2 kX6_signAt lX6_35 rfl rfl rfl rfl rfl rfl ?_
  refine r_istore_n 6 hX dX6_itemLength_5 rfl ?_
  refine r_iload_n 7 hX dX6_itemLength_6 rfl ?_
  refine r_bipush 9 hX dX6_itemLength_7 (v := 97) (by decide) ?_
  refine r_icmp_eq 12 20 hX dX6_itemLength_9 (fun c1 => ?_) (fun c1 => ?_)
  · refine r_aload_n 21 hX dX6_itemLength_20 rfl ?_
    refine r_iload_n 22 hX dX6_itemLength_21 rfl ?_
    refine r_iconst 23 hX dX6_itemLength_22 (v := 1) (by decide) ?_
    refine r_iadd 24 hX dX6_itemLength_23 ?_
    refine r_cV1F 27 hX hR (tX6_signAt hc) dX6_itemLength_24 kX6_signAt lX6_35 rfl rfl rfl rfl rfl rfl ?_
    refine r_istore_n 28 hX dX6_itemLength_27 rfl ?_
    refine r_iload_n 29 hX dX6_itemLength_28 rfl ?_
    refine r_bipush 31 hX dX6_itemLength_29 (v := 33) (by decide) ?_
    refine r_icmp_eq 34 40 hX dX6_itemLength_31 (fun c2 => ?_) (fun c2 => ?_)
    · refine r_iconst 41 hX dX6_itemLength_40 (v := 2) (by decide) ?_
      refine r_goto 45 hX dX6_itemLength_41 ?_
      refine r_iret hX hT dX6_itemLength_45 ?_
      exact ⟨by simp [*, itl], rfl⟩
    · refine r_iload_n 35 hX dX6_itemLength_34 rfl ?_
      refine r_bipush 37 hX dX6_itemLength_35 (v := 45) (by decide) ?_
      refine r_icmp_ne 40 44 hX dX6_itemLength_37 (fun c3 => ?_) (fun c3 => ?_)
      · refine r_iconst 45 hX dX6_itemLength_44 (v := 3) (by decide) ?_
        refine r_iret hX hT dX6_itemLength_45 ?_
        exact ⟨by simp [*, itl], rfl⟩
      · refine r_iconst 41 hX dX6_itemLength_40 (v := 2) (by decide) ?_
        refine r_goto 45 hX dX6_itemLength_41 ?_
        refine r_iret hX hT dX6_itemLength_45 ?_
        exact ⟨by simp [*, itl], rfl⟩
  · refine r_iload_n 13 hX dX6_itemLength_12 rfl ?_
    refine r_bipush 15 hX dX6_itemLength_13 (v := 98) (by decide) ?_
    refine r_icmp_eq 18 20 hX dX6_itemLength_15 (fun c4 => ?_) (fun c4 => ?_)
    · refine r_aload_n 21 hX dX6_itemLength_20 rfl ?_
      refine r_iload_n 22 hX dX6_itemLength_21 rfl ?_
      refine r_iconst 23 hX dX6_itemLength_22 (v := 1) (by decide) ?_
      refine r_iadd 24 hX dX6_itemLength_23 ?_
      refine r_cV1F 27 hX hR (tX6_signAt hc) dX6_itemLength_24 kX6_signAt lX6_35 rfl rfl rfl rfl rfl rfl ?_
      refine r_istore_n 28 hX dX6_itemLength_27 rfl ?_
      refine r_iload_n 29 hX dX6_itemLength_28 rfl ?_
      refine r_bipush 31 hX dX6_itemLength_29 (v := 33) (by decide) ?_
      refine r_icmp_eq 34 40 hX dX6_itemLength_31 (fun c5 => ?_) (fun c5 => ?_)
      · refine r_iconst 41 hX dX6_itemLength_40 (v := 2) (by decide) ?_
        refine r_goto 45 hX dX6_itemLength_41 ?_
        refine r_iret hX hT dX6_itemLength_45 ?_
        exact ⟨by simp [*, itl], rfl⟩
      · refine r_iload_n 35 hX dX6_itemLength_34 rfl ?_
        refine r_bipush 37 hX dX6_itemLength_35 (v := 45) (by decide) ?_
        refine r_icmp_ne 40 44 hX dX6_itemLength_37 (fun c6 => ?_) (fun c6 => ?_)
        · refine r_iconst 45 hX dX6_itemLength_44 (v := 3) (by decide) ?_
          refine r_iret hX hT dX6_itemLength_45 ?_
          exact ⟨by simp [*, itl], rfl⟩
        · refine r_iconst 41 hX dX6_itemLength_40 (v := 2) (by decide) ?_
          refine r_goto 45 hX dX6_itemLength_41 ?_
          refine r_iret hX hT dX6_itemLength_45 ?_
          exact ⟨by simp [*, itl], rfl⟩
    · refine r_iconst 19 hX dX6_itemLength_18 (v := 1) (by decide) ?_
      refine r_iret hX hT dX6_itemLength_19 ?_
      exact ⟨by simp [*, itl], rfl⟩

/-! SixWhoTurn: the match -/
abbrev clW (M : mx_Mem) (c o : Nat) : Prop := M.1 2 1 ≤ M.1 c 7 ∨ (tgt (M.1 2) (M.1 c 8) (M.1 o 8) ≤ M.1 c 7 ∧ 2 ≤ M.1 c 7 - M.1 o 7)
def clN (M : mx_Mem) (c : Nat) (t : Int32) : mx_Mem := mI (mI (mI M c 8 (M.1 c 8 + 1)) 19 1 0) 19 5 t
def clR (M : mx_Mem) (c o : Nat) : Int32 := if clW M c o then (if M.1 2 3 ≤ M.1 c 8 + 1 then 2 else 1) else 0
def clM (M : mx_Mem) (c o : Nat) (t : Int32) : mx_Mem := if clW M c o then (if M.1 2 3 ≤ M.1 c 8 + 1 then mI (clN M c t) 19 6 t else clN M c t) else M
def csM (M : mx_Mem) (c : Nat) : mx_Mem := mI M (c + 4) (M.1 (c + 1) 0).toNatClampNeg (M.1 (c + 4) (M.1 (c + 1) 0).toNatClampNeg + 1)
def wrA (M : mx_Mem) (c : Nat) (t : Int32) : mx_Mem :=
  let N := mI M c 7 (M.1 c 7 + 1)
  if M.1 19 2 = t then mI (csM N c) 19 3 (M.1 19 3 + 1) else mI (mI (tnM N c) 19 2 t) 19 3 0
def wrB (N : mx_Mem) : mx_Mem := mI (mI (mI N 19 4 (N.1 19 4 + 1)) 9 6 0) 14 6 0
def wrM (M : mx_Mem) (c : Nat) (t : Int32) : mx_Mem := wrB (wrA M c t)
def mayC (M : mx_Mem) (c : Nat) (a b : Int32) : Int32 :=
  if M.1 19 1 = 0 then 1 else if ¬ isP a ∨ ¬ isP b ∨ a = b then 2 else if ¬ (¬ plc (M.1 (c + 1)) a = -1 ∧ ¬ plc (M.1 (c + 1)) a = M.1 c 5) then 3
  else if ¬ (plc (M.1 (c + 1)) b = -1 ∧ ¬ b = M.1 c 4) then 4 else if M.1 2 4 ≤ M.1 c 9 then 5 else if arP M c a b = 1 then 0 else 6
set_option maxRecDepth 100000 in
set_option maxHeartbeats 4000000 in
theorem tX7_closeIfWon_0 {l : Launch} {G : mx_G} {M : mx_Mem} : mx_Met l G yX7_closeIfWon cX7_closeIfWon 5 ((some FieldType.int)) 1 24 [.ref 0, .int 0] M (mx_F (some (.int (clR M 9 14))) (clM M 9 14 0)) := by
  refine mx_enter (own := RX7) (L := [.ref 0, .int 0, .null, .null, .null]) (by decide +kernel) rfl rfl rfl ?_
  intro X hlX hX hR hT
  refine r_aload_n 1 hX dX7_closeIfWon_0 rfl ?_
  refine r_iload_n 2 hX dX7_closeIfWon_1 rfl ?_
  refine r_cV1F 5 hX hR tX7_courtOf_0 dX7_closeIfWon_2 kX7_courtOf lX7_159 rfl rfl rfl rfl rfl rfl ?_
  refine r_astore_n 6 hX dX7_closeIfWon_5 rfl ?_
  refine r_aload_n 7 hX dX7_closeIfWon_6 rfl ?_
  refine r_iconst 8 hX dX7_closeIfWon_7 (v := 1) (by decide) ?_
  refine r_iload_n 9 hX dX7_closeIfWon_8 rfl ?_
  refine r_isubK 10 hX dX7_closeIfWon_9 (w := 1) (by decide) ?_
  refine r_cV1F 13 hX hR tX7_courtOf_1 dX7_closeIfWon_10 kX7_courtOf lX7_159 rfl rfl rfl rfl rfl rfl ?_
  refine r_astore_n 14 hX dX7_closeIfWon_13 rfl ?_
  refine r_aload_n 15 hX dX7_closeIfWon_14 rfl ?_
  refine r_getR 18 hX dX7_closeIfWon_15 fX7_10 rfl rfl rfl ?_
  refine r_aload_n 19 hX dX7_closeIfWon_18 rfl ?_
  refine r_getI 22 hX dX7_closeIfWon_19 fX7_208 rfl rfl rfl ?_
  refine r_aload_n 23 hX dX7_closeIfWon_22 rfl ?_
  refine r_getI 26 hX dX7_closeIfWon_23 fX7_208 rfl rfl rfl ?_
  refine r_cV2F 29 hX hR tX3_target dX7_closeIfWon_26 kX3_target lX7_296 rfl rfl rfl rfl rfl rfl ?_
  refine r_istore 31 hX dX7_closeIfWon_29 rfl ?_
  refine (show mx_WW G X 31 [_, _, _, _, _] _ _ from ?_)
  refine r_aload_n 32 hX dX7_closeIfWon_31 rfl ?_
  refine r_getI 35 hX dX7_closeIfWon_32 fX7_202 rfl rfl rfl ?_
  refine r_aload_n 36 hX dX7_closeIfWon_35 rfl ?_
  refine r_getI 39 hX dX7_closeIfWon_36 fX7_202 rfl rfl rfl ?_
  refine r_iload 41 hX dX7_closeIfWon_39 rfl ?_
  refine r_aload_n 42 hX dX7_closeIfWon_41 rfl ?_
  refine r_getR 45 hX dX7_closeIfWon_42 fX7_10 rfl rfl rfl ?_
  refine r_iconst 46 hX dX7_closeIfWon_45 (v := 1) (by decide) ?_
  refine r_cV1F 49 hX hR tX3_valueOf_1 dX7_closeIfWon_46 kX3_valueOf lX7_116 rfl rfl rfl rfl rfl rfl ?_
  refine r_cS4F 52 hX hR tX3_wins dX7_closeIfWon_49 kX3_wins lX7_299 rfl rfl rfl ?_
  refine r_Bne 55 57 hX dX7_closeIfWon_52 (fun c1 => ?_) (fun c1 => ?_)
  · refine r_aload_n 58 hX dX7_closeIfWon_57 rfl ?_
    refine r_dup 59 hX dX7_closeIfWon_58 rfl ?_
    refine r_getI 62 hX dX7_closeIfWon_59 fX7_208 rfl rfl rfl ?_
    refine r_iconst 63 hX dX7_closeIfWon_62 (v := 1) (by decide) ?_
    refine r_iadd 64 hX dX7_closeIfWon_63 ?_
    refine r_putI 67 hX dX7_closeIfWon_64 fX7_208 fp2_8 rfl rfl rfl ?_
    refine r_aload_n 68 hX dX7_closeIfWon_67 rfl ?_
    refine r_getR 71 hX dX7_closeIfWon_68 fX7_39 rfl rfl rfl ?_
    refine r_iconst 72 hX dX7_closeIfWon_71 (v := 0) (by decide) ?_
    refine r_putZ 75 hX dX7_closeIfWon_72 fX7_102 fp1_1 rfl rfl rfl (by first | assumption | decide) ?_
    refine r_aload_n 76 hX dX7_closeIfWon_75 rfl ?_
    refine r_getR 79 hX dX7_closeIfWon_76 fX7_39 rfl rfl rfl ?_
    refine r_iload_n 80 hX dX7_closeIfWon_79 rfl ?_
    refine r_putI 83 hX dX7_closeIfWon_80 fX7_223 fp1_5 rfl rfl rfl ?_
    refine r_aload_n 84 hX dX7_closeIfWon_83 rfl ?_
    refine r_getI 87 hX dX7_closeIfWon_84 fX7_208 rfl rfl rfl ?_
    refine r_aload_n 88 hX dX7_closeIfWon_87 rfl ?_
    refine r_getR 91 hX dX7_closeIfWon_88 fX7_10 rfl rfl rfl ?_
    refine r_iconst 92 hX dX7_closeIfWon_91 (v := 3) (by decide) ?_
    refine r_cV1F 95 hX hR tX3_valueOf_3 dX7_closeIfWon_92 kX3_valueOf lX7_116 rfl rfl rfl rfl rfl rfl ?_
    refine r_icmp_ge 98 100 hX dX7_closeIfWon_95 (fun c2 => ?_) (fun c2 => ?_)
    · refine r_aload_n 101 hX dX7_closeIfWon_100 rfl ?_
      refine r_getR 104 hX dX7_closeIfWon_101 fX7_39 rfl rfl rfl ?_
      refine r_iload_n 105 hX dX7_closeIfWon_104 rfl ?_
      refine r_putI 108 hX dX7_closeIfWon_105 fX7_124 fp1_6 rfl rfl rfl ?_
      refine r_iconst 109 hX dX7_closeIfWon_108 (v := 2) (by decide) ?_
      refine r_iret hX hT dX7_closeIfWon_109 ?_
      have c2' : M.1 2 3 ≤ M.1 9 8 + 1 := c2
      exact ⟨by unfold clR; rw [if_pos c1, if_pos c2'], by unfold clM; rw [if_pos c1, if_pos c2']; rfl⟩
    · refine r_iconst 99 hX dX7_closeIfWon_98 (v := 1) (by decide) ?_
      refine r_iret hX hT dX7_closeIfWon_99 ?_
      have c2' : ¬ M.1 2 3 ≤ M.1 9 8 + 1 := c2
      exact ⟨by unfold clR; rw [if_pos c1, if_neg c2'], by unfold clM; rw [if_pos c1, if_neg c2']; rfl⟩
  · refine r_iconst 56 hX dX7_closeIfWon_55 (v := 0) (by decide) ?_
    refine r_iret hX hT dX7_closeIfWon_56 ?_
    exact ⟨by unfold clR; rw [if_neg c1], by unfold clM; rw [if_neg c1]⟩
set_option maxRecDepth 100000 in
set_option maxHeartbeats 4000000 in
theorem tX7_winRally_0 {l : Launch} {G : mx_G} {M : mx_Mem} (hp : isP (M.1 10 0)) : mx_Met l G yX7_winRally cX7_winRally 3 ((some FieldType.int)) 2 48 [.ref 0, .int 0] M (mx_F (some (.int (clR (wrM M 9 0) 9 14))) (clM (wrM M 9 0) 9 14 0)) := by
  refine mx_enter (own := RX7) (L := [.ref 0, .int 0, .null]) (by decide +kernel) rfl rfl rfl ?_
  intro X hlX hX hR hT
  refine r_aload_n 1 hX dX7_winRally_0 rfl ?_
  refine r_iload_n 2 hX dX7_winRally_1 rfl ?_
  refine r_cV1F 5 hX hR tX7_courtOf_0 dX7_winRally_2 kX7_courtOf lX7_159 rfl rfl rfl rfl rfl rfl ?_
  refine r_astore_n 6 hX dX7_winRally_5 rfl ?_
  refine r_aload_n 7 hX dX7_winRally_6 rfl ?_
  refine r_dup 8 hX dX7_winRally_7 rfl ?_
  refine r_getI 11 hX dX7_winRally_8 fX7_202 rfl rfl rfl ?_
  refine r_iconst 12 hX dX7_winRally_11 (v := 1) (by decide) ?_
  refine r_iadd 13 hX dX7_winRally_12 ?_
  refine r_putI 16 hX dX7_winRally_13 fX7_202 fp2_7 rfl rfl rfl ?_
  refine r_aload_n 17 hX dX7_winRally_16 rfl ?_
  refine r_getR 20 hX dX7_winRally_17 fX7_39 rfl rfl rfl ?_
  refine r_getI 23 hX dX7_winRally_20 fX7_199 rfl rfl rfl ?_
  refine r_iload_n 24 hX dX7_winRally_23 rfl ?_
  refine r_icmp_ne 27 47 hX dX7_winRally_24 (fun c1 => ?_) (fun c1 => ?_)
  · refine r_aload_n 48 hX dX7_winRally_47 rfl ?_
    refine r_cV0U 51 hX hR tX2_turnOn_9 dX7_winRally_48 kX2_turnOn lX7_290 rfl rfl rfl rfl rfl rfl ?_
    refine r_aload_n 52 hX dX7_winRally_51 rfl ?_
    refine r_getR 55 hX dX7_winRally_52 fX7_39 rfl rfl rfl ?_
    refine r_iload_n 56 hX dX7_winRally_55 rfl ?_
    refine r_putI 59 hX dX7_winRally_56 fX7_199 fp1_2 rfl rfl rfl ?_
    refine r_aload_n 60 hX dX7_winRally_59 rfl ?_
    refine r_getR 63 hX dX7_winRally_60 fX7_39 rfl rfl rfl ?_
    refine r_iconst 64 hX dX7_winRally_63 (v := 0) (by decide) ?_
    refine r_putI 67 hX dX7_winRally_64 fX7_196 fp1_3 rfl rfl rfl ?_
    refine r_aload_n 68 hX dX7_winRally_67 rfl ?_
    refine r_getR 71 hX dX7_winRally_68 fX7_39 rfl rfl rfl ?_
    refine r_dup 72 hX dX7_winRally_71 rfl ?_
    refine r_getI 75 hX dX7_winRally_72 fX7_217 rfl rfl rfl ?_
    refine r_iconst 76 hX dX7_winRally_75 (v := 1) (by decide) ?_
    refine r_iadd 77 hX dX7_winRally_76 ?_
    refine r_putI 80 hX dX7_winRally_77 fX7_217 fp1_4 rfl rfl rfl ?_
    refine r_aload_n 81 hX dX7_winRally_80 rfl ?_
    refine r_getR 84 hX dX7_winRally_81 fX7_29 rfl rfl rfl ?_
    refine r_iconst 85 hX dX7_winRally_84 (v := 0) (by decide) ?_
    refine r_putZ 88 hX dX7_winRally_85 fX7_182 fp2_6 rfl rfl rfl (by first | assumption | decide) ?_
    refine r_aload_n 89 hX dX7_winRally_88 rfl ?_
    refine r_getR 92 hX dX7_winRally_89 fX7_33 rfl rfl rfl ?_
    refine r_iconst 93 hX dX7_winRally_92 (v := 0) (by decide) ?_
    refine r_putZ 96 hX dX7_winRally_93 fX7_182 fp2_6 rfl rfl rfl (by first | assumption | decide) ?_
    refine r_aload_n 97 hX dX7_winRally_96 rfl ?_
    refine r_iload_n 98 hX dX7_winRally_97 rfl ?_
    refine r_cV1F 101 hX hR tX7_closeIfWon_0 dX7_winRally_98 kX7_closeIfWon lX7_293 rfl rfl rfl rfl rfl rfl ?_
    refine r_iret hX hT dX7_winRally_101 ?_
    unfold wrM wrA
    first | (rw [if_neg (show ¬ M.1 19 2 = 0 from c1)]; exact ⟨rfl, rfl⟩) | (rw [if_pos (show M.1 19 2 = 0 from c1)]; exact ⟨rfl, rfl⟩)
  · refine r_aload_n 28 hX dX7_winRally_27 rfl ?_
    refine r_cV0U 31 hX hR (tX2_countServe_9 hp) dX7_winRally_28 kX2_countServe lX7_287 rfl rfl rfl rfl rfl rfl ?_
    refine r_aload_n 32 hX dX7_winRally_31 rfl ?_
    refine r_getR 35 hX dX7_winRally_32 fX7_39 rfl rfl rfl ?_
    refine r_dup 36 hX dX7_winRally_35 rfl ?_
    refine r_getI 39 hX dX7_winRally_36 fX7_196 rfl rfl rfl ?_
    refine r_iconst 40 hX dX7_winRally_39 (v := 1) (by decide) ?_
    refine r_iadd 41 hX dX7_winRally_40 ?_
    refine r_putI 44 hX dX7_winRally_41 fX7_196 fp1_3 rfl rfl rfl ?_
    refine r_goto 67 hX dX7_winRally_44 ?_
    refine r_aload_n 68 hX dX7_winRally_67 rfl ?_
    refine r_getR 71 hX dX7_winRally_68 fX7_39 rfl rfl rfl ?_
    refine r_dup 72 hX dX7_winRally_71 rfl ?_
    refine r_getI 75 hX dX7_winRally_72 fX7_217 rfl rfl rfl ?_
    refine r_iconst 76 hX dX7_winRally_75 (v := 1) (by decide) ?_
    refine r_iadd 77 hX dX7_winRally_76 ?_
    refine r_putI 80 hX dX7_winRally_77 fX7_217 fp1_4 rfl rfl rfl ?_
    refine r_aload_n 81 hX dX7_winRally_80 rfl ?_
    refine r_getR 84 hX dX7_winRally_81 fX7_29 rfl rfl rfl ?_
    refine r_iconst 85 hX dX7_winRally_84 (v := 0) (by decide) ?_
    refine r_putZ 88 hX dX7_winRally_85 fX7_182 fp2_6 rfl rfl rfl (by first | assumption | decide) ?_
    refine r_aload_n 89 hX dX7_winRally_88 rfl ?_
    refine r_getR 92 hX dX7_winRally_89 fX7_33 rfl rfl rfl ?_
    refine r_iconst 93 hX dX7_winRally_92 (v := 0) (by decide) ?_
    refine r_putZ 96 hX dX7_winRally_93 fX7_182 fp2_6 rfl rfl rfl (by first | assumption | decide) ?_
    refine r_aload_n 97 hX dX7_winRally_96 rfl ?_
    refine r_iload_n 98 hX dX7_winRally_97 rfl ?_
    refine r_cV1F 101 hX hR tX7_closeIfWon_0 dX7_winRally_98 kX7_closeIfWon lX7_293 rfl rfl rfl rfl rfl rfl ?_
    refine r_iret hX hT dX7_winRally_101 ?_
    unfold wrM wrA
    first | (rw [if_neg (show ¬ M.1 19 2 = 0 from c1)]; exact ⟨rfl, rfl⟩) | (rw [if_pos (show M.1 19 2 = 0 from c1)]; exact ⟨rfl, rfl⟩)
set_option maxRecDepth 100000 in
set_option maxHeartbeats 4000000 in
theorem tX7_rally_0 {l : Launch} {G : mx_G} {M : mx_Mem} (hp : ¬ M.1 19 1 = 0 → isP (M.1 10 0)) : mx_Met l G yX7_rally cX7_rally 2 ((some FieldType.int)) 3 70 [.ref 0, .int 0] M (mx_F (some (.int (if M.1 19 1 = 0 then -1 else clR (wrM M 9 0) 9 14))) (if M.1 19 1 = 0 then M else clM (wrM M 9 0) 9 14 0)) := by
  refine mx_enter (own := RX7) (L := [.ref 0, .int 0]) (by decide +kernel) rfl rfl rfl ?_
  intro X hlX hX hR hT
  refine r_iload_n 1 hX dX7_rally_0 rfl ?_
  refine r_cS1F 4 hX hR tX7_isTeam_0 dX7_rally_1 kX7_isTeam lX7_83 rfl rfl rfl ?_
  refine r_if_eq 7 17 hX dX7_rally_4 (fun c => absurd c (by decide)) (fun _ => ?_)
  refine r_aload_n 8 hX dX7_rally_7 rfl ?_
  refine r_getR 11 hX dX7_rally_8 fX7_39 rfl rfl rfl ?_
  refine r_getI 14 hX dX7_rally_11 fX7_102 rfl rfl rfl ?_
  refine r_if_ne 17 19 hX dX7_rally_14 (fun c1 => ?_) (fun c1 => ?_)
  · refine r_aload_n 20 hX dX7_rally_19 rfl ?_
    refine r_iload_n 21 hX dX7_rally_20 rfl ?_
    refine r_cV1F 24 hX hR (tX7_winRally_0 (hp c1)) dX7_rally_21 kX7_winRally lX7_156 rfl rfl rfl rfl rfl rfl ?_
    refine r_iret hX hT dX7_rally_24 ?_
    first | (rw [if_neg c1, if_neg c1]; exact ⟨rfl, rfl⟩) | (rw [if_pos c1, if_pos c1]; exact ⟨rfl, rfl⟩)
  · refine r_iconst 18 hX dX7_rally_17 (v := -1) (by decide) ?_
    refine r_iret hX hT dX7_rally_18 ?_
    first | (rw [if_neg c1, if_neg c1]; exact ⟨rfl, rfl⟩) | (rw [if_pos c1, if_pos c1]; exact ⟨rfl, rfl⟩)
set_option maxRecDepth 100000 in
set_option maxHeartbeats 4000000 in
theorem tX7_may_0 {l : Launch} {G : mx_G} {a b : Int32} {M : mx_Mem} : mx_Met l G yX7_may cX7_may 5 ((some FieldType.int)) 2 44 [.ref 0, .int 0, .int a, .int b] M (mx_F (some (.int (mayC M 9 a b))) M) := by
  refine mx_enter (own := RX7) (L := [.ref 0, .int 0, .int a, .int b, .null]) (by decide +kernel) rfl rfl rfl ?_
  intro X hlX hX hR hT
  refine r_iload_n 1 hX dX7_may_0 rfl ?_
  refine r_cS1F 4 hX hR tX7_isTeam_0 dX7_may_1 kX7_isTeam lX7_83 rfl rfl rfl ?_
  refine r_if_ne 7 9 hX dX7_may_4 (fun _ => ?_) (fun c => absurd c (by decide))
  refine r_aload_n 10 hX dX7_may_9 rfl ?_
  refine r_getR 13 hX dX7_may_10 fX7_39 rfl rfl rfl ?_
  refine r_getI 16 hX dX7_may_13 fX7_102 rfl rfl rfl ?_
  refine r_if_ne 19 21 hX dX7_may_16 (fun c1 => ?_) (fun c1 => ?_)
  · refine r_iload_n 22 hX dX7_may_21 rfl ?_
    refine r_cS1F 25 hX hR tX7_isPlayer dX7_may_22 kX7_isPlayer lX7_87 rfl rfl rfl ?_
    refine r_Beq 28 40 hX dX7_may_25 (fun c2 => ?_) (fun c2 => ?_)
    · refine r_iconst 41 hX dX7_may_40 (v := 2) (by decide) ?_
      refine r_iret hX hT dX7_may_41 ?_
      clear hT hX hR hlX
      exact ⟨by grind [mayC], rfl⟩
    · refine r_iload_n 29 hX dX7_may_28 rfl ?_
      refine r_cS1F 32 hX hR tX7_isPlayer dX7_may_29 kX7_isPlayer lX7_87 rfl rfl rfl ?_
      refine r_Beq 35 40 hX dX7_may_32 (fun c3 => ?_) (fun c3 => ?_)
      · refine r_iconst 41 hX dX7_may_40 (v := 2) (by decide) ?_
        refine r_iret hX hT dX7_may_41 ?_
        clear hT hX hR hlX
        exact ⟨by grind [mayC], rfl⟩
      · refine r_iload_n 36 hX dX7_may_35 rfl ?_
        refine r_iload_n 37 hX dX7_may_36 rfl ?_
        refine r_icmp_ne 40 42 hX dX7_may_37 (fun c4 => ?_) (fun c4 => ?_)
        · refine r_aload_n 43 hX dX7_may_42 rfl ?_
          refine r_iload_n 44 hX dX7_may_43 rfl ?_
          refine r_cV1F 47 hX hR tX7_courtOf_0 dX7_may_44 kX7_courtOf lX7_159 rfl rfl rfl rfl rfl rfl ?_
          refine r_astore 49 hX dX7_may_47 rfl ?_
          refine r_aload 51 hX dX7_may_49 rfl ?_
          refine r_iload_n 52 hX dX7_may_51 rfl ?_
          refine r_cV1F 55 hX hR tX2_mayLeave_9 dX7_may_52 kX2_mayLeave lX7_163 rfl rfl rfl rfl rfl rfl ?_
          refine r_Bne 58 60 hX dX7_may_55 (fun c5 => ?_) (fun c5 => ?_)
          · refine r_aload 62 hX dX7_may_60 rfl ?_
            refine r_iload_n 63 hX dX7_may_62 rfl ?_
            refine r_cV1F 66 hX hR tX2_mayEnter_9 dX7_may_63 kX2_mayEnter lX7_166 rfl rfl rfl rfl rfl rfl ?_
            refine r_Bne 69 71 hX dX7_may_66 (fun c6 => ?_) (fun c6 => ?_)
            · refine r_aload 73 hX dX7_may_71 rfl ?_
              refine r_getI 76 hX dX7_may_73 fX7_169 rfl rfl rfl ?_
              refine r_aload_n 77 hX dX7_may_76 rfl ?_
              refine r_getR 80 hX dX7_may_77 fX7_10 rfl rfl rfl ?_
              refine r_iconst 81 hX dX7_may_80 (v := 4) (by decide) ?_
              refine r_cV1F 84 hX hR tX3_valueOf_4 dX7_may_81 kX3_valueOf lX7_116 rfl rfl rfl rfl rfl rfl ?_
              refine r_Icmp_lt 87 89 hX dX7_may_84 (fun c7 => ?_) (fun c7 => ?_)
              · refine r_aload 91 hX dX7_may_89 rfl ?_
                refine r_iload_n 92 hX dX7_may_91 rfl ?_
                refine r_iload_n 93 hX dX7_may_92 rfl ?_
                refine r_cV2F 96 hX hR tX2_arePair_9 dX7_may_93 kX2_arePair lX7_172 rfl rfl rfl rfl rfl rfl ?_
                refine r_Beq 99 103 hX dX7_may_96 (fun c8 => ?_) (fun c8 => ?_)
                · refine r_bipush 105 hX dX7_may_103 (v := 6) (by decide) ?_
                  refine r_iret hX hT dX7_may_105 ?_
                  clear hT hX hR hlX
                  exact ⟨by grind [mayC], rfl⟩
                · refine r_iconst 100 hX dX7_may_99 (v := 0) (by decide) ?_
                  refine r_goto 105 hX dX7_may_100 ?_
                  refine r_iret hX hT dX7_may_105 ?_
                  clear hT hX hR hlX
                  exact ⟨by grind [mayC], rfl⟩
              · refine r_iconst 88 hX dX7_may_87 (v := 5) (by decide) ?_
                refine r_iret hX hT dX7_may_88 ?_
                clear hT hX hR hlX
                exact ⟨by grind [mayC], rfl⟩
            · refine r_iconst 70 hX dX7_may_69 (v := 4) (by decide) ?_
              refine r_iret hX hT dX7_may_70 ?_
              clear hT hX hR hlX
              exact ⟨by grind [mayC], rfl⟩
          · refine r_iconst 59 hX dX7_may_58 (v := 3) (by decide) ?_
            refine r_iret hX hT dX7_may_59 ?_
            clear hT hX hR hlX
            exact ⟨by grind [mayC], rfl⟩
        · refine r_iconst 41 hX dX7_may_40 (v := 2) (by decide) ?_
          refine r_iret hX hT dX7_may_41 ?_
          clear hT hX hR hlX
          exact ⟨by grind [mayC], rfl⟩
  · refine r_iconst 20 hX dX7_may_19 (v := 1) (by decide) ?_
    refine r_iret hX hT dX7_may_20 ?_
    clear hT hX hR hlX
    exact ⟨by grind [mayC], rfl⟩
theorem mayC_0_9 {M : mx_Mem} {a b : Int32} (h : mayC M 9 a b = 0) : isP a ∧ isP b ∧ ¬ plc (M.1 10) a = -1 ∧ arP M 9 a b = 1 := by
  grind (splits := 30) [mayC]
set_option maxRecDepth 100000 in
set_option maxHeartbeats 4000000 in
theorem tX7_change_0 {l : Launch} {G : mx_G} {a b : Int32} {M : mx_Mem} : mx_Met l G yX7_change cX7_change 4 ((some FieldType.int)) 3 68 [.ref 0, .int 0, .int a, .int b] M (mx_F (some (.int (if mayC M 9 a b = 0 then plc (M.1 10) a else -1))) (if mayC M 9 a b = 0 then exM M 9 a b else M)) := by
  refine mx_enter (own := RX7) (L := [.ref 0, .int 0, .int a, .int b]) (by decide +kernel) rfl rfl rfl ?_
  intro X hlX hX hR hT
  refine r_aload_n 1 hX dX7_change_0 rfl ?_
  refine r_iload_n 2 hX dX7_change_1 rfl ?_
  refine r_iload_n 3 hX dX7_change_2 rfl ?_
  refine r_iload_n 4 hX dX7_change_3 rfl ?_
  refine r_cV3F 7 hX hR tX7_may_0 dX7_change_4 kX7_may lX7_175 rfl rfl rfl rfl rfl rfl ?_
  refine r_if_eq 10 12 hX dX7_change_7 (fun c1 => ?_) (fun c1 => ?_)
  · refine r_aload_n 13 hX dX7_change_12 rfl ?_
    refine r_iload_n 14 hX dX7_change_13 rfl ?_
    refine r_cV1F 17 hX hR tX7_courtOf_0 dX7_change_14 kX7_courtOf lX7_159 rfl rfl rfl rfl rfl rfl ?_
    refine r_iload_n 18 hX dX7_change_17 rfl ?_
    refine r_iload_n 19 hX dX7_change_18 rfl ?_
    refine r_cV2F 22 hX hR (tX2_exchange_9 (mayC_0_9 c1).2.2.1 (mayC_0_9 c1).2.2.2 (mayC_0_9 c1).1 (mayC_0_9 c1).2.1) dX7_change_19 kX2_exchange lX7_179 rfl rfl rfl rfl rfl rfl ?_
    refine r_iret hX hT dX7_change_22 ?_
    first | (rw [if_neg c1, if_neg c1]; exact ⟨rfl, rfl⟩) | (rw [if_pos c1, if_pos c1]; exact ⟨rfl, rfl⟩)
  · refine r_iconst 11 hX dX7_change_10 (v := -1) (by decide) ?_
    refine r_iret hX hT dX7_change_11 ?_
    first | (rw [if_neg c1, if_neg c1]; exact ⟨rfl, rfl⟩) | (rw [if_pos c1, if_pos c1]; exact ⟨rfl, rfl⟩)
set_option maxRecDepth 100000 in
set_option maxHeartbeats 4000000 in
theorem tX7_closeIfWon_1 {l : Launch} {G : mx_G} {M : mx_Mem} : mx_Met l G yX7_closeIfWon cX7_closeIfWon 5 ((some FieldType.int)) 1 24 [.ref 0, .int 1] M (mx_F (some (.int (clR M 14 9))) (clM M 14 9 1)) := by
  refine mx_enter (own := RX7) (L := [.ref 0, .int 1, .null, .null, .null]) (by decide +kernel) rfl rfl rfl ?_
  intro X hlX hX hR hT
  refine r_aload_n 1 hX dX7_closeIfWon_0 rfl ?_
  refine r_iload_n 2 hX dX7_closeIfWon_1 rfl ?_
  refine r_cV1F 5 hX hR tX7_courtOf_1 dX7_closeIfWon_2 kX7_courtOf lX7_159 rfl rfl rfl rfl rfl rfl ?_
  refine r_astore_n 6 hX dX7_closeIfWon_5 rfl ?_
  refine r_aload_n 7 hX dX7_closeIfWon_6 rfl ?_
  refine r_iconst 8 hX dX7_closeIfWon_7 (v := 1) (by decide) ?_
  refine r_iload_n 9 hX dX7_closeIfWon_8 rfl ?_
  refine r_isubK 10 hX dX7_closeIfWon_9 (w := 0) (by decide) ?_
  refine r_cV1F 13 hX hR tX7_courtOf_0 dX7_closeIfWon_10 kX7_courtOf lX7_159 rfl rfl rfl rfl rfl rfl ?_
  refine r_astore_n 14 hX dX7_closeIfWon_13 rfl ?_
  refine r_aload_n 15 hX dX7_closeIfWon_14 rfl ?_
  refine r_getR 18 hX dX7_closeIfWon_15 fX7_10 rfl rfl rfl ?_
  refine r_aload_n 19 hX dX7_closeIfWon_18 rfl ?_
  refine r_getI 22 hX dX7_closeIfWon_19 fX7_208 rfl rfl rfl ?_
  refine r_aload_n 23 hX dX7_closeIfWon_22 rfl ?_
  refine r_getI 26 hX dX7_closeIfWon_23 fX7_208 rfl rfl rfl ?_
  refine r_cV2F 29 hX hR tX3_target dX7_closeIfWon_26 kX3_target lX7_296 rfl rfl rfl rfl rfl rfl ?_
  refine r_istore 31 hX dX7_closeIfWon_29 rfl ?_
  refine (show mx_WW G X 31 [_, _, _, _, _] _ _ from ?_)
  refine r_aload_n 32 hX dX7_closeIfWon_31 rfl ?_
  refine r_getI 35 hX dX7_closeIfWon_32 fX7_202 rfl rfl rfl ?_
  refine r_aload_n 36 hX dX7_closeIfWon_35 rfl ?_
  refine r_getI 39 hX dX7_closeIfWon_36 fX7_202 rfl rfl rfl ?_
  refine r_iload 41 hX dX7_closeIfWon_39 rfl ?_
  refine r_aload_n 42 hX dX7_closeIfWon_41 rfl ?_
  refine r_getR 45 hX dX7_closeIfWon_42 fX7_10 rfl rfl rfl ?_
  refine r_iconst 46 hX dX7_closeIfWon_45 (v := 1) (by decide) ?_
  refine r_cV1F 49 hX hR tX3_valueOf_1 dX7_closeIfWon_46 kX3_valueOf lX7_116 rfl rfl rfl rfl rfl rfl ?_
  refine r_cS4F 52 hX hR tX3_wins dX7_closeIfWon_49 kX3_wins lX7_299 rfl rfl rfl ?_
  refine r_Bne 55 57 hX dX7_closeIfWon_52 (fun c1 => ?_) (fun c1 => ?_)
  · refine r_aload_n 58 hX dX7_closeIfWon_57 rfl ?_
    refine r_dup 59 hX dX7_closeIfWon_58 rfl ?_
    refine r_getI 62 hX dX7_closeIfWon_59 fX7_208 rfl rfl rfl ?_
    refine r_iconst 63 hX dX7_closeIfWon_62 (v := 1) (by decide) ?_
    refine r_iadd 64 hX dX7_closeIfWon_63 ?_
    refine r_putI 67 hX dX7_closeIfWon_64 fX7_208 fp2_8 rfl rfl rfl ?_
    refine r_aload_n 68 hX dX7_closeIfWon_67 rfl ?_
    refine r_getR 71 hX dX7_closeIfWon_68 fX7_39 rfl rfl rfl ?_
    refine r_iconst 72 hX dX7_closeIfWon_71 (v := 0) (by decide) ?_
    refine r_putZ 75 hX dX7_closeIfWon_72 fX7_102 fp1_1 rfl rfl rfl (by first | assumption | decide) ?_
    refine r_aload_n 76 hX dX7_closeIfWon_75 rfl ?_
    refine r_getR 79 hX dX7_closeIfWon_76 fX7_39 rfl rfl rfl ?_
    refine r_iload_n 80 hX dX7_closeIfWon_79 rfl ?_
    refine r_putI 83 hX dX7_closeIfWon_80 fX7_223 fp1_5 rfl rfl rfl ?_
    refine r_aload_n 84 hX dX7_closeIfWon_83 rfl ?_
    refine r_getI 87 hX dX7_closeIfWon_84 fX7_208 rfl rfl rfl ?_
    refine r_aload_n 88 hX dX7_closeIfWon_87 rfl ?_
    refine r_getR 91 hX dX7_closeIfWon_88 fX7_10 rfl rfl rfl ?_
    refine r_iconst 92 hX dX7_closeIfWon_91 (v := 3) (by decide) ?_
    refine r_cV1F 95 hX hR tX3_valueOf_3 dX7_closeIfWon_92 kX3_valueOf lX7_116 rfl rfl rfl rfl rfl rfl ?_
    refine r_icmp_ge 98 100 hX dX7_closeIfWon_95 (fun c2 => ?_) (fun c2 => ?_)
    · refine r_aload_n 101 hX dX7_closeIfWon_100 rfl ?_
      refine r_getR 104 hX dX7_closeIfWon_101 fX7_39 rfl rfl rfl ?_
      refine r_iload_n 105 hX dX7_closeIfWon_104 rfl ?_
      refine r_putI 108 hX dX7_closeIfWon_105 fX7_124 fp1_6 rfl rfl rfl ?_
      refine r_iconst 109 hX dX7_closeIfWon_108 (v := 2) (by decide) ?_
      refine r_iret hX hT dX7_closeIfWon_109 ?_
      have c2' : M.1 2 3 ≤ M.1 14 8 + 1 := c2
      exact ⟨by unfold clR; rw [if_pos c1, if_pos c2'], by unfold clM; rw [if_pos c1, if_pos c2']; rfl⟩
    · refine r_iconst 99 hX dX7_closeIfWon_98 (v := 1) (by decide) ?_
      refine r_iret hX hT dX7_closeIfWon_99 ?_
      have c2' : ¬ M.1 2 3 ≤ M.1 14 8 + 1 := c2
      exact ⟨by unfold clR; rw [if_pos c1, if_neg c2'], by unfold clM; rw [if_pos c1, if_neg c2']; rfl⟩
  · refine r_iconst 56 hX dX7_closeIfWon_55 (v := 0) (by decide) ?_
    refine r_iret hX hT dX7_closeIfWon_56 ?_
    exact ⟨by unfold clR; rw [if_neg c1], by unfold clM; rw [if_neg c1]⟩
set_option maxRecDepth 100000 in
set_option maxHeartbeats 4000000 in
theorem tX7_winRally_1 {l : Launch} {G : mx_G} {M : mx_Mem} (hp : isP (M.1 15 0)) : mx_Met l G yX7_winRally cX7_winRally 3 ((some FieldType.int)) 2 48 [.ref 0, .int 1] M (mx_F (some (.int (clR (wrM M 14 1) 14 9))) (clM (wrM M 14 1) 14 9 1)) := by
  refine mx_enter (own := RX7) (L := [.ref 0, .int 1, .null]) (by decide +kernel) rfl rfl rfl ?_
  intro X hlX hX hR hT
  refine r_aload_n 1 hX dX7_winRally_0 rfl ?_
  refine r_iload_n 2 hX dX7_winRally_1 rfl ?_
  refine r_cV1F 5 hX hR tX7_courtOf_1 dX7_winRally_2 kX7_courtOf lX7_159 rfl rfl rfl rfl rfl rfl ?_
  refine r_astore_n 6 hX dX7_winRally_5 rfl ?_
  refine r_aload_n 7 hX dX7_winRally_6 rfl ?_
  refine r_dup 8 hX dX7_winRally_7 rfl ?_
  refine r_getI 11 hX dX7_winRally_8 fX7_202 rfl rfl rfl ?_
  refine r_iconst 12 hX dX7_winRally_11 (v := 1) (by decide) ?_
  refine r_iadd 13 hX dX7_winRally_12 ?_
  refine r_putI 16 hX dX7_winRally_13 fX7_202 fp2_7 rfl rfl rfl ?_
  refine r_aload_n 17 hX dX7_winRally_16 rfl ?_
  refine r_getR 20 hX dX7_winRally_17 fX7_39 rfl rfl rfl ?_
  refine r_getI 23 hX dX7_winRally_20 fX7_199 rfl rfl rfl ?_
  refine r_iload_n 24 hX dX7_winRally_23 rfl ?_
  refine r_icmp_ne 27 47 hX dX7_winRally_24 (fun c1 => ?_) (fun c1 => ?_)
  · refine r_aload_n 48 hX dX7_winRally_47 rfl ?_
    refine r_cV0U 51 hX hR tX2_turnOn_14 dX7_winRally_48 kX2_turnOn lX7_290 rfl rfl rfl rfl rfl rfl ?_
    refine r_aload_n 52 hX dX7_winRally_51 rfl ?_
    refine r_getR 55 hX dX7_winRally_52 fX7_39 rfl rfl rfl ?_
    refine r_iload_n 56 hX dX7_winRally_55 rfl ?_
    refine r_putI 59 hX dX7_winRally_56 fX7_199 fp1_2 rfl rfl rfl ?_
    refine r_aload_n 60 hX dX7_winRally_59 rfl ?_
    refine r_getR 63 hX dX7_winRally_60 fX7_39 rfl rfl rfl ?_
    refine r_iconst 64 hX dX7_winRally_63 (v := 0) (by decide) ?_
    refine r_putI 67 hX dX7_winRally_64 fX7_196 fp1_3 rfl rfl rfl ?_
    refine r_aload_n 68 hX dX7_winRally_67 rfl ?_
    refine r_getR 71 hX dX7_winRally_68 fX7_39 rfl rfl rfl ?_
    refine r_dup 72 hX dX7_winRally_71 rfl ?_
    refine r_getI 75 hX dX7_winRally_72 fX7_217 rfl rfl rfl ?_
    refine r_iconst 76 hX dX7_winRally_75 (v := 1) (by decide) ?_
    refine r_iadd 77 hX dX7_winRally_76 ?_
    refine r_putI 80 hX dX7_winRally_77 fX7_217 fp1_4 rfl rfl rfl ?_
    refine r_aload_n 81 hX dX7_winRally_80 rfl ?_
    refine r_getR 84 hX dX7_winRally_81 fX7_29 rfl rfl rfl ?_
    refine r_iconst 85 hX dX7_winRally_84 (v := 0) (by decide) ?_
    refine r_putZ 88 hX dX7_winRally_85 fX7_182 fp2_6 rfl rfl rfl (by first | assumption | decide) ?_
    refine r_aload_n 89 hX dX7_winRally_88 rfl ?_
    refine r_getR 92 hX dX7_winRally_89 fX7_33 rfl rfl rfl ?_
    refine r_iconst 93 hX dX7_winRally_92 (v := 0) (by decide) ?_
    refine r_putZ 96 hX dX7_winRally_93 fX7_182 fp2_6 rfl rfl rfl (by first | assumption | decide) ?_
    refine r_aload_n 97 hX dX7_winRally_96 rfl ?_
    refine r_iload_n 98 hX dX7_winRally_97 rfl ?_
    refine r_cV1F 101 hX hR tX7_closeIfWon_1 dX7_winRally_98 kX7_closeIfWon lX7_293 rfl rfl rfl rfl rfl rfl ?_
    refine r_iret hX hT dX7_winRally_101 ?_
    unfold wrM wrA
    first | (rw [if_neg (show ¬ M.1 19 2 = 1 from c1)]; exact ⟨rfl, rfl⟩) | (rw [if_pos (show M.1 19 2 = 1 from c1)]; exact ⟨rfl, rfl⟩)
  · refine r_aload_n 28 hX dX7_winRally_27 rfl ?_
    refine r_cV0U 31 hX hR (tX2_countServe_14 hp) dX7_winRally_28 kX2_countServe lX7_287 rfl rfl rfl rfl rfl rfl ?_
    refine r_aload_n 32 hX dX7_winRally_31 rfl ?_
    refine r_getR 35 hX dX7_winRally_32 fX7_39 rfl rfl rfl ?_
    refine r_dup 36 hX dX7_winRally_35 rfl ?_
    refine r_getI 39 hX dX7_winRally_36 fX7_196 rfl rfl rfl ?_
    refine r_iconst 40 hX dX7_winRally_39 (v := 1) (by decide) ?_
    refine r_iadd 41 hX dX7_winRally_40 ?_
    refine r_putI 44 hX dX7_winRally_41 fX7_196 fp1_3 rfl rfl rfl ?_
    refine r_goto 67 hX dX7_winRally_44 ?_
    refine r_aload_n 68 hX dX7_winRally_67 rfl ?_
    refine r_getR 71 hX dX7_winRally_68 fX7_39 rfl rfl rfl ?_
    refine r_dup 72 hX dX7_winRally_71 rfl ?_
    refine r_getI 75 hX dX7_winRally_72 fX7_217 rfl rfl rfl ?_
    refine r_iconst 76 hX dX7_winRally_75 (v := 1) (by decide) ?_
    refine r_iadd 77 hX dX7_winRally_76 ?_
    refine r_putI 80 hX dX7_winRally_77 fX7_217 fp1_4 rfl rfl rfl ?_
    refine r_aload_n 81 hX dX7_winRally_80 rfl ?_
    refine r_getR 84 hX dX7_winRally_81 fX7_29 rfl rfl rfl ?_
    refine r_iconst 85 hX dX7_winRally_84 (v := 0) (by decide) ?_
    refine r_putZ 88 hX dX7_winRally_85 fX7_182 fp2_6 rfl rfl rfl (by first | assumption | decide) ?_
    refine r_aload_n 89 hX dX7_winRally_88 rfl ?_
    refine r_getR 92 hX dX7_winRally_89 fX7_33 rfl rfl rfl ?_
    refine r_iconst 93 hX dX7_winRally_92 (v := 0) (by decide) ?_
    refine r_putZ 96 hX dX7_winRally_93 fX7_182 fp2_6 rfl rfl rfl (by first | assumption | decide) ?_
    refine r_aload_n 97 hX dX7_winRally_96 rfl ?_
    refine r_iload_n 98 hX dX7_winRally_97 rfl ?_
    refine r_cV1F 101 hX hR tX7_closeIfWon_1 dX7_winRally_98 kX7_closeIfWon lX7_293 rfl rfl rfl rfl rfl rfl ?_
    refine r_iret hX hT dX7_winRally_101 ?_
    unfold wrM wrA
    first | (rw [if_neg (show ¬ M.1 19 2 = 1 from c1)]; exact ⟨rfl, rfl⟩) | (rw [if_pos (show M.1 19 2 = 1 from c1)]; exact ⟨rfl, rfl⟩)
set_option maxRecDepth 100000 in
set_option maxHeartbeats 4000000 in
theorem tX7_rally_1 {l : Launch} {G : mx_G} {M : mx_Mem} (hp : ¬ M.1 19 1 = 0 → isP (M.1 15 0)) : mx_Met l G yX7_rally cX7_rally 2 ((some FieldType.int)) 3 70 [.ref 0, .int 1] M (mx_F (some (.int (if M.1 19 1 = 0 then -1 else clR (wrM M 14 1) 14 9))) (if M.1 19 1 = 0 then M else clM (wrM M 14 1) 14 9 1)) := by
  refine mx_enter (own := RX7) (L := [.ref 0, .int 1]) (by decide +kernel) rfl rfl rfl ?_
  intro X hlX hX hR hT
  refine r_iload_n 1 hX dX7_rally_0 rfl ?_
  refine r_cS1F 4 hX hR tX7_isTeam_1 dX7_rally_1 kX7_isTeam lX7_83 rfl rfl rfl ?_
  refine r_if_eq 7 17 hX dX7_rally_4 (fun c => absurd c (by decide)) (fun _ => ?_)
  refine r_aload_n 8 hX dX7_rally_7 rfl ?_
  refine r_getR 11 hX dX7_rally_8 fX7_39 rfl rfl rfl ?_
  refine r_getI 14 hX dX7_rally_11 fX7_102 rfl rfl rfl ?_
  refine r_if_ne 17 19 hX dX7_rally_14 (fun c1 => ?_) (fun c1 => ?_)
  · refine r_aload_n 20 hX dX7_rally_19 rfl ?_
    refine r_iload_n 21 hX dX7_rally_20 rfl ?_
    refine r_cV1F 24 hX hR (tX7_winRally_1 (hp c1)) dX7_rally_21 kX7_winRally lX7_156 rfl rfl rfl rfl rfl rfl ?_
    refine r_iret hX hT dX7_rally_24 ?_
    first | (rw [if_neg c1, if_neg c1]; exact ⟨rfl, rfl⟩) | (rw [if_pos c1, if_pos c1]; exact ⟨rfl, rfl⟩)
  · refine r_iconst 18 hX dX7_rally_17 (v := -1) (by decide) ?_
    refine r_iret hX hT dX7_rally_18 ?_
    first | (rw [if_neg c1, if_neg c1]; exact ⟨rfl, rfl⟩) | (rw [if_pos c1, if_pos c1]; exact ⟨rfl, rfl⟩)
set_option maxRecDepth 100000 in
set_option maxHeartbeats 4000000 in
theorem tX7_may_1 {l : Launch} {G : mx_G} {a b : Int32} {M : mx_Mem} : mx_Met l G yX7_may cX7_may 5 ((some FieldType.int)) 2 44 [.ref 0, .int 1, .int a, .int b] M (mx_F (some (.int (mayC M 14 a b))) M) := by
  refine mx_enter (own := RX7) (L := [.ref 0, .int 1, .int a, .int b, .null]) (by decide +kernel) rfl rfl rfl ?_
  intro X hlX hX hR hT
  refine r_iload_n 1 hX dX7_may_0 rfl ?_
  refine r_cS1F 4 hX hR tX7_isTeam_1 dX7_may_1 kX7_isTeam lX7_83 rfl rfl rfl ?_
  refine r_if_ne 7 9 hX dX7_may_4 (fun _ => ?_) (fun c => absurd c (by decide))
  refine r_aload_n 10 hX dX7_may_9 rfl ?_
  refine r_getR 13 hX dX7_may_10 fX7_39 rfl rfl rfl ?_
  refine r_getI 16 hX dX7_may_13 fX7_102 rfl rfl rfl ?_
  refine r_if_ne 19 21 hX dX7_may_16 (fun c1 => ?_) (fun c1 => ?_)
  · refine r_iload_n 22 hX dX7_may_21 rfl ?_
    refine r_cS1F 25 hX hR tX7_isPlayer dX7_may_22 kX7_isPlayer lX7_87 rfl rfl rfl ?_
    refine r_Beq 28 40 hX dX7_may_25 (fun c2 => ?_) (fun c2 => ?_)
    · refine r_iconst 41 hX dX7_may_40 (v := 2) (by decide) ?_
      refine r_iret hX hT dX7_may_41 ?_
      clear hT hX hR hlX
      exact ⟨by grind [mayC], rfl⟩
    · refine r_iload_n 29 hX dX7_may_28 rfl ?_
      refine r_cS1F 32 hX hR tX7_isPlayer dX7_may_29 kX7_isPlayer lX7_87 rfl rfl rfl ?_
      refine r_Beq 35 40 hX dX7_may_32 (fun c3 => ?_) (fun c3 => ?_)
      · refine r_iconst 41 hX dX7_may_40 (v := 2) (by decide) ?_
        refine r_iret hX hT dX7_may_41 ?_
        clear hT hX hR hlX
        exact ⟨by grind [mayC], rfl⟩
      · refine r_iload_n 36 hX dX7_may_35 rfl ?_
        refine r_iload_n 37 hX dX7_may_36 rfl ?_
        refine r_icmp_ne 40 42 hX dX7_may_37 (fun c4 => ?_) (fun c4 => ?_)
        · refine r_aload_n 43 hX dX7_may_42 rfl ?_
          refine r_iload_n 44 hX dX7_may_43 rfl ?_
          refine r_cV1F 47 hX hR tX7_courtOf_1 dX7_may_44 kX7_courtOf lX7_159 rfl rfl rfl rfl rfl rfl ?_
          refine r_astore 49 hX dX7_may_47 rfl ?_
          refine r_aload 51 hX dX7_may_49 rfl ?_
          refine r_iload_n 52 hX dX7_may_51 rfl ?_
          refine r_cV1F 55 hX hR tX2_mayLeave_14 dX7_may_52 kX2_mayLeave lX7_163 rfl rfl rfl rfl rfl rfl ?_
          refine r_Bne 58 60 hX dX7_may_55 (fun c5 => ?_) (fun c5 => ?_)
          · refine r_aload 62 hX dX7_may_60 rfl ?_
            refine r_iload_n 63 hX dX7_may_62 rfl ?_
            refine r_cV1F 66 hX hR tX2_mayEnter_14 dX7_may_63 kX2_mayEnter lX7_166 rfl rfl rfl rfl rfl rfl ?_
            refine r_Bne 69 71 hX dX7_may_66 (fun c6 => ?_) (fun c6 => ?_)
            · refine r_aload 73 hX dX7_may_71 rfl ?_
              refine r_getI 76 hX dX7_may_73 fX7_169 rfl rfl rfl ?_
              refine r_aload_n 77 hX dX7_may_76 rfl ?_
              refine r_getR 80 hX dX7_may_77 fX7_10 rfl rfl rfl ?_
              refine r_iconst 81 hX dX7_may_80 (v := 4) (by decide) ?_
              refine r_cV1F 84 hX hR tX3_valueOf_4 dX7_may_81 kX3_valueOf lX7_116 rfl rfl rfl rfl rfl rfl ?_
              refine r_Icmp_lt 87 89 hX dX7_may_84 (fun c7 => ?_) (fun c7 => ?_)
              · refine r_aload 91 hX dX7_may_89 rfl ?_
                refine r_iload_n 92 hX dX7_may_91 rfl ?_
                refine r_iload_n 93 hX dX7_may_92 rfl ?_
                refine r_cV2F 96 hX hR tX2_arePair_14 dX7_may_93 kX2_arePair lX7_172 rfl rfl rfl rfl rfl rfl ?_
                refine r_Beq 99 103 hX dX7_may_96 (fun c8 => ?_) (fun c8 => ?_)
                · refine r_bipush 105 hX dX7_may_103 (v := 6) (by decide) ?_
                  refine r_iret hX hT dX7_may_105 ?_
                  clear hT hX hR hlX
                  exact ⟨by grind [mayC], rfl⟩
                · refine r_iconst 100 hX dX7_may_99 (v := 0) (by decide) ?_
                  refine r_goto 105 hX dX7_may_100 ?_
                  refine r_iret hX hT dX7_may_105 ?_
                  clear hT hX hR hlX
                  exact ⟨by grind [mayC], rfl⟩
              · refine r_iconst 88 hX dX7_may_87 (v := 5) (by decide) ?_
                refine r_iret hX hT dX7_may_88 ?_
                clear hT hX hR hlX
                exact ⟨by grind [mayC], rfl⟩
            · refine r_iconst 70 hX dX7_may_69 (v := 4) (by decide) ?_
              refine r_iret hX hT dX7_may_70 ?_
              clear hT hX hR hlX
              exact ⟨by grind [mayC], rfl⟩
          · refine r_iconst 59 hX dX7_may_58 (v := 3) (by decide) ?_
            refine r_iret hX hT dX7_may_59 ?_
            clear hT hX hR hlX
            exact ⟨by grind [mayC], rfl⟩
        · refine r_iconst 41 hX dX7_may_40 (v := 2) (by decide) ?_
          refine r_iret hX hT dX7_may_41 ?_
          clear hT hX hR hlX
          exact ⟨by grind [mayC], rfl⟩
  · refine r_iconst 20 hX dX7_may_19 (v := 1) (by decide) ?_
    refine r_iret hX hT dX7_may_20 ?_
    clear hT hX hR hlX
    exact ⟨by grind [mayC], rfl⟩
theorem mayC_0_14 {M : mx_Mem} {a b : Int32} (h : mayC M 14 a b = 0) : isP a ∧ isP b ∧ ¬ plc (M.1 15) a = -1 ∧ arP M 14 a b = 1 := by
  grind (splits := 30) [mayC]
set_option maxRecDepth 100000 in
set_option maxHeartbeats 4000000 in
theorem tX7_change_1 {l : Launch} {G : mx_G} {a b : Int32} {M : mx_Mem} : mx_Met l G yX7_change cX7_change 4 ((some FieldType.int)) 3 68 [.ref 0, .int 1, .int a, .int b] M (mx_F (some (.int (if mayC M 14 a b = 0 then plc (M.1 15) a else -1))) (if mayC M 14 a b = 0 then exM M 14 a b else M)) := by
  refine mx_enter (own := RX7) (L := [.ref 0, .int 1, .int a, .int b]) (by decide +kernel) rfl rfl rfl ?_
  intro X hlX hX hR hT
  refine r_aload_n 1 hX dX7_change_0 rfl ?_
  refine r_iload_n 2 hX dX7_change_1 rfl ?_
  refine r_iload_n 3 hX dX7_change_2 rfl ?_
  refine r_iload_n 4 hX dX7_change_3 rfl ?_
  refine r_cV3F 7 hX hR tX7_may_1 dX7_change_4 kX7_may lX7_175 rfl rfl rfl rfl rfl rfl ?_
  refine r_if_eq 10 12 hX dX7_change_7 (fun c1 => ?_) (fun c1 => ?_)
  · refine r_aload_n 13 hX dX7_change_12 rfl ?_
    refine r_iload_n 14 hX dX7_change_13 rfl ?_
    refine r_cV1F 17 hX hR tX7_courtOf_1 dX7_change_14 kX7_courtOf lX7_159 rfl rfl rfl rfl rfl rfl ?_
    refine r_iload_n 18 hX dX7_change_17 rfl ?_
    refine r_iload_n 19 hX dX7_change_18 rfl ?_
    refine r_cV2F 22 hX hR (tX2_exchange_14 (mayC_0_14 c1).2.2.1 (mayC_0_14 c1).2.2.2 (mayC_0_14 c1).1 (mayC_0_14 c1).2.1) dX7_change_19 kX2_exchange lX7_179 rfl rfl rfl rfl rfl rfl ?_
    refine r_iret hX hT dX7_change_22 ?_
    first | (rw [if_neg c1, if_neg c1]; exact ⟨rfl, rfl⟩) | (rw [if_pos c1, if_pos c1]; exact ⟨rfl, rfl⟩)
  · refine r_iconst 11 hX dX7_change_10 (v := -1) (by decide) ?_
    refine r_iret hX hT dX7_change_11 ?_
    first | (rw [if_neg c1, if_neg c1]; exact ⟨rfl, rfl⟩) | (rw [if_pos c1, if_pos c1]; exact ⟨rfl, rfl⟩)
def frR_0 (M : mx_Mem) (p : Int32) : Int32 := if M.1 19 1 = 0 ∨ ¬ M.1 9 6 = 0 ∨ M.1 9 4 = -1 then -1 else if p = -1 then M.1 9 5 else if M.1 9 5 = -1 then (if plc (M.1 10) p = 4 then 4 else if plc (M.1 10) p = 5 then 5 else -1) else -1
def frM_0 (M : mx_Mem) (p : Int32) : mx_Mem := if M.1 19 1 = 0 ∨ ¬ M.1 9 6 = 0 ∨ M.1 9 4 = -1 then M else if p = -1 then (if M.1 9 5 = -1 then M else mI (mI M 9 5 (-1)) 9 6 1) else if M.1 9 5 = -1 then (if plc (M.1 10) p = 4 then mI (mI M 9 5 4) 9 6 1 else if plc (M.1 10) p = 5 then mI (mI M 9 5 5) 9 6 1 else M) else M
set_option maxRecDepth 100000 in
set_option maxHeartbeats 4000000 in
theorem tX7_free_0 {l : Launch} {G : mx_G} {p : Int32} {M : mx_Mem} : mx_Met l G yX7_free cX7_free 4 ((some FieldType.int)) 2 44 [.ref 0, .int 0, .int p] M (mx_F (some (.int (frR_0 M p))) (frM_0 M p)) := by
  refine mx_enter (own := RX7) (L := [.ref 0, .int 0, .int p, .null]) (by decide +kernel) rfl rfl rfl ?_
  intro X hlX hX hR hT
  refine r_iload_n 1 hX dX7_free_0 rfl ?_
  refine r_cS1F 4 hX hR tX7_isTeam_0 dX7_free_1 kX7_isTeam lX7_83 rfl rfl rfl ?_
  refine r_if_eq 7 17 hX dX7_free_4 (fun c => absurd c (by decide)) (fun _ => ?_)
  refine r_aload_n 8 hX dX7_free_7 rfl ?_
  refine r_getR 11 hX dX7_free_8 fX7_39 rfl rfl rfl ?_
  refine r_getI 14 hX dX7_free_11 fX7_102 rfl rfl rfl ?_
  refine r_if_ne 17 19 hX dX7_free_14 (fun c1 => ?_) (fun c1 => ?_)
  · refine r_aload_n 20 hX dX7_free_19 rfl ?_
    refine r_iload_n 21 hX dX7_free_20 rfl ?_
    refine r_cV1F 24 hX hR tX7_courtOf_0 dX7_free_21 kX7_courtOf lX7_159 rfl rfl rfl rfl rfl rfl ?_
    refine r_astore_n 25 hX dX7_free_24 rfl ?_
    refine r_aload_n 26 hX dX7_free_25 rfl ?_
    refine r_getI 29 hX dX7_free_26 fX7_182 rfl rfl rfl ?_
    refine r_if_ne 32 40 hX dX7_free_29 (fun c2 => ?_) (fun c2 => ?_)
    · refine r_iconst 41 hX dX7_free_40 (v := -1) (by decide) ?_
      refine r_iret hX hT dX7_free_41 ?_
      exact ⟨by simp [*, frR_0], by simp [*, frM_0]⟩
    · refine r_aload_n 33 hX dX7_free_32 rfl ?_
      refine r_getI 36 hX dX7_free_33 fX7_185 rfl rfl rfl ?_
      refine r_iconst 37 hX dX7_free_36 (v := -1) (by decide) ?_
      refine r_icmp_ne 40 42 hX dX7_free_37 (fun c3 => ?_) (fun c3 => ?_)
      · refine r_iload_n 43 hX dX7_free_42 rfl ?_
        refine r_iconst 44 hX dX7_free_43 (v := -1) (by decide) ?_
        refine r_icmp_ne 47 54 hX dX7_free_44 (fun c4 => ?_) (fun c4 => ?_)
        · refine r_aload_n 55 hX dX7_free_54 rfl ?_
          refine r_iload_n 56 hX dX7_free_55 rfl ?_
          refine r_cV1F 59 hX hR tX2_freeOn_9 dX7_free_56 kX2_freeOn lX7_190 rfl rfl rfl rfl rfl rfl ?_
          refine r_iret hX hT dX7_free_59 ?_
          exact ⟨by simp [*, frR_0], by simp [*, frM_0]⟩
        · refine r_aload_n 48 hX dX7_free_47 rfl ?_
          refine r_cV0F 51 hX hR tX2_freeOff_9 dX7_free_48 kX2_freeOff lX7_186 rfl rfl rfl rfl rfl rfl ?_
          refine r_goto 59 hX dX7_free_51 ?_
          refine r_iret hX hT dX7_free_59 ?_
          exact ⟨by simp [*, frR_0], by simp [*, frM_0]⟩
      · refine r_iconst 41 hX dX7_free_40 (v := -1) (by decide) ?_
        refine r_iret hX hT dX7_free_41 ?_
        exact ⟨by simp [*, frR_0], by simp [*, frM_0]⟩
  · refine r_iconst 18 hX dX7_free_17 (v := -1) (by decide) ?_
    refine r_iret hX hT dX7_free_18 ?_
    exact ⟨by simp [*, frR_0], by simp [*, frM_0]⟩
set_option maxRecDepth 100000 in
set_option maxHeartbeats 4000000 in
theorem tX7_pause_0 {l : Launch} {G : mx_G} {M : mx_Mem} : mx_Met l G yX7_pause cX7_pause 3 ((some FieldType.int)) 1 21 [.ref 0, .int 0] M (mx_F (some (.int (if M.1 19 1 = 0 ∨ M.1 2 5 ≤ M.1 9 10 then -1 else M.1 9 10 + 1))) (if M.1 19 1 = 0 ∨ M.1 2 5 ≤ M.1 9 10 then M else mI M 9 10 (M.1 9 10 + 1))) := by
  refine mx_enter (own := RX7) (L := [.ref 0, .int 0, .null]) (by decide +kernel) rfl rfl rfl ?_
  intro X hlX hX hR hT
  refine r_iload_n 1 hX dX7_pause_0 rfl ?_
  refine r_cS1F 4 hX hR tX7_isTeam_0 dX7_pause_1 kX7_isTeam lX7_83 rfl rfl rfl ?_
  refine r_if_eq 7 17 hX dX7_pause_4 (fun c => absurd c (by decide)) (fun _ => ?_)
  refine r_aload_n 8 hX dX7_pause_7 rfl ?_
  refine r_getR 11 hX dX7_pause_8 fX7_39 rfl rfl rfl ?_
  refine r_getI 14 hX dX7_pause_11 fX7_102 rfl rfl rfl ?_
  refine r_if_ne 17 19 hX dX7_pause_14 (fun c1 => ?_) (fun c1 => ?_)
  · refine r_aload_n 20 hX dX7_pause_19 rfl ?_
    refine r_iload_n 21 hX dX7_pause_20 rfl ?_
    refine r_cV1F 24 hX hR tX7_courtOf_0 dX7_pause_21 kX7_courtOf lX7_159 rfl rfl rfl rfl rfl rfl ?_
    refine r_astore_n 25 hX dX7_pause_24 rfl ?_
    refine r_aload_n 26 hX dX7_pause_25 rfl ?_
    refine r_getI 29 hX dX7_pause_26 fX7_193 rfl rfl rfl ?_
    refine r_aload_n 30 hX dX7_pause_29 rfl ?_
    refine r_getR 33 hX dX7_pause_30 fX7_10 rfl rfl rfl ?_
    refine r_iconst 34 hX dX7_pause_33 (v := 5) (by decide) ?_
    refine r_cV1F 37 hX hR tX3_valueOf_5 dX7_pause_34 kX3_valueOf lX7_116 rfl rfl rfl rfl rfl rfl ?_
    refine r_Icmp_lt 40 42 hX dX7_pause_37 (fun c2 => ?_) (fun c2 => ?_)
    · refine r_aload_n 43 hX dX7_pause_42 rfl ?_
      refine r_dup 44 hX dX7_pause_43 rfl ?_
      refine r_getI 47 hX dX7_pause_44 fX7_193 rfl rfl rfl ?_
      refine r_iconst 48 hX dX7_pause_47 (v := 1) (by decide) ?_
      refine r_iadd 49 hX dX7_pause_48 ?_
      refine r_putI 52 hX dX7_pause_49 fX7_193 fp2_10 rfl rfl rfl ?_
      refine r_aload_n 53 hX dX7_pause_52 rfl ?_
      refine r_getI 56 hX dX7_pause_53 fX7_193 rfl rfl rfl ?_
      refine r_iret hX hT dX7_pause_56 ?_
      exact ⟨by simp [*, mI_self], by simp [*]⟩
    · refine r_iconst 41 hX dX7_pause_40 (v := -1) (by decide) ?_
      refine r_iret hX hT dX7_pause_41 ?_
      exact ⟨by simp [*, mI_self], by simp [*]⟩
  · refine r_iconst 18 hX dX7_pause_17 (v := -1) (by decide) ?_
    refine r_iret hX hT dX7_pause_18 ?_
    exact ⟨by simp [*, mI_self], by simp [*]⟩
def wgM_0 (M : mx_Mem) (k : Int32) : mx_Mem := wrM (mI M 9 7 (M.1 9 7 - k)) 14 1
set_option maxRecDepth 100000 in
set_option maxHeartbeats 4000000 in
theorem tX7_wrong_0 {l : Launch} {G : mx_G} {k : Int32} {M : mx_Mem} (hs : M.1 19 2 = 0) (hp : isP (M.1 15 0)) : mx_Met l G yX7_wrong cX7_wrong 2 ((some FieldType.int)) 3 70 [.ref 0, .int k] M (mx_F (some (.int (if M.1 19 1 = 0 ∨ ¬ 0 ≤ k ∨ ¬ k ≤ M.1 19 3 then -1 else clR (wgM_0 M k) 14 9))) (if M.1 19 1 = 0 ∨ ¬ 0 ≤ k ∨ ¬ k ≤ M.1 19 3 then M else clM (wgM_0 M k) 14 9 1)) := by
  refine mx_enter (own := RX7) (L := [.ref 0, .int k]) (by decide +kernel) rfl rfl rfl ?_
  intro X hlX hX hR hT
  refine r_aload_n 1 hX dX7_wrong_0 rfl ?_
  refine r_getR 4 hX dX7_wrong_1 fX7_39 rfl rfl rfl ?_
  refine r_getI 7 hX dX7_wrong_4 fX7_102 rfl rfl rfl ?_
  refine r_if_eq 10 25 hX dX7_wrong_7 (fun c1 => ?_) (fun c1 => ?_)
  · refine r_iconst 26 hX dX7_wrong_25 (v := -1) (by decide) ?_
    refine r_iret hX hT dX7_wrong_26 ?_
    exact ⟨by simp [*, wgM_0], by simp [*, wgM_0]⟩
  · refine r_iload_n 11 hX dX7_wrong_10 rfl ?_
    refine r_If_lt 14 25 hX dX7_wrong_11 (fun c2 => ?_) (fun c2 => ?_)
    · refine r_iconst 26 hX dX7_wrong_25 (v := -1) (by decide) ?_
      refine r_iret hX hT dX7_wrong_26 ?_
      exact ⟨by simp [*, wgM_0], by simp [*, wgM_0]⟩
    · refine r_iload_n 15 hX dX7_wrong_14 rfl ?_
      refine r_aload_n 16 hX dX7_wrong_15 rfl ?_
      refine r_getR 19 hX dX7_wrong_16 fX7_39 rfl rfl rfl ?_
      refine r_getI 22 hX dX7_wrong_19 fX7_196 rfl rfl rfl ?_
      refine r_icmp_le 25 27 hX dX7_wrong_22 (fun c3 => ?_) (fun c3 => ?_)
      · refine r_aload_n 28 hX dX7_wrong_27 rfl ?_
        refine r_aload_n 29 hX dX7_wrong_28 rfl ?_
        refine r_getR 32 hX dX7_wrong_29 fX7_39 rfl rfl rfl ?_
        refine r_getI 35 hX dX7_wrong_32 fX7_199 rfl rfl rfl ?_
        rw [hs]
        refine r_cV1F 38 hX hR tX7_courtOf_0 dX7_wrong_35 kX7_courtOf lX7_159 rfl rfl rfl rfl rfl rfl ?_
        refine r_dup 39 hX dX7_wrong_38 rfl ?_
        refine r_getI 42 hX dX7_wrong_39 fX7_202 rfl rfl rfl ?_
        refine r_iload_n 43 hX dX7_wrong_42 rfl ?_
        refine r_isub 44 hX dX7_wrong_43 ?_
        refine r_putI 47 hX dX7_wrong_44 fX7_202 fp2_7 rfl rfl rfl ?_
        refine r_aload_n 48 hX dX7_wrong_47 rfl ?_
        refine r_iconst 49 hX dX7_wrong_48 (v := 1) (by decide) ?_
        refine r_aload_n 50 hX dX7_wrong_49 rfl ?_
        refine r_getR 53 hX dX7_wrong_50 fX7_39 rfl rfl rfl ?_
        refine r_getI 56 hX dX7_wrong_53 fX7_199 rfl rfl rfl ?_
        rw [show (mI M 9 7 (M.1 9 7 - k)).1 19 2 = 0 from hs]
        refine r_isub 57 hX dX7_wrong_56 ?_
        rw [show (1 : Int32) - 0 = 1 by decide]
        refine r_cV1F 60 hX hR (tX7_winRally_1 hp) dX7_wrong_57 kX7_winRally lX7_156 rfl rfl rfl rfl rfl rfl ?_
        refine r_iret hX hT dX7_wrong_60 ?_
        exact ⟨by simp [*, wgM_0], by simp [*, wgM_0]⟩
      · refine r_iconst 26 hX dX7_wrong_25 (v := -1) (by decide) ?_
        refine r_iret hX hT dX7_wrong_26 ?_
        exact ⟨by simp [*, wgM_0], by simp [*, wgM_0]⟩
set_option maxRecDepth 100000 in
set_option maxHeartbeats 4000000 in
theorem tX7_at_0 {l : Launch} {G : mx_G} {p : Int32} {M : mx_Mem} : mx_Met l G yX7_at cX7_at 3 ((some FieldType.int)) 1 21 [.ref 0, .int 0, .int p] M (mx_F (some (.int (if (0 ≤ p ∧ ¬ 6 ≤ p) ∧ ¬ M.1 19 0 = -1 then (if p = M.1 9 5 then M.1 9 4 else M.1 10 p.toNatClampNeg) else -1))) M) := by
  refine mx_enter (own := RX7) (L := [.ref 0, .int 0, .int p]) (by decide +kernel) rfl rfl rfl ?_
  intro X hlX hX hR hT
  refine r_iload_n 1 hX dX7_at_0 rfl ?_
  refine r_cS1F 4 hX hR tX7_isTeam_0 dX7_at_1 kX7_isTeam lX7_83 rfl rfl rfl ?_
  refine r_if_eq 7 28 hX dX7_at_4 (fun c => absurd c (by decide)) (fun _ => ?_)
  refine r_iload_n 8 hX dX7_at_7 rfl ?_
  refine r_If_lt 11 28 hX dX7_at_8 (fun c1 => ?_) (fun c1 => ?_)
  · refine r_iconst 29 hX dX7_at_28 (v := -1) (by decide) ?_
    refine r_iret hX hT dX7_at_29 ?_
    clear hT hX hR hlX
    exact ⟨by grind, rfl⟩
  · refine r_iload_n 12 hX dX7_at_11 rfl ?_
    refine r_bipush 14 hX dX7_at_12 (v := 6) (by decide) ?_
    refine r_icmp_ge 17 28 hX dX7_at_14 (fun c2 => ?_) (fun c2 => ?_)
    · refine r_iconst 29 hX dX7_at_28 (v := -1) (by decide) ?_
      refine r_iret hX hT dX7_at_29 ?_
      clear hT hX hR hlX
      exact ⟨by grind, rfl⟩
    · refine r_aload_n 18 hX dX7_at_17 rfl ?_
      refine r_getR 21 hX dX7_at_18 fX7_39 rfl rfl rfl ?_
      refine r_getI 24 hX dX7_at_21 fX7_109 rfl rfl rfl ?_
      refine r_iconst 25 hX dX7_at_24 (v := -1) (by decide) ?_
      refine r_icmp_ne 28 30 hX dX7_at_25 (fun c3 => ?_) (fun c3 => ?_)
      · refine r_aload_n 31 hX dX7_at_30 rfl ?_
        refine r_iload_n 32 hX dX7_at_31 rfl ?_
        refine r_cV1F 35 hX hR tX7_courtOf_0 dX7_at_32 kX7_courtOf lX7_159 rfl rfl rfl rfl rfl rfl ?_
        refine r_iload_n 36 hX dX7_at_35 rfl ?_
        refine r_cV1F 39 hX hR tX2_playerAt_9 dX7_at_36 kX2_playerAt lX7_205 rfl rfl rfl rfl rfl rfl ?_
        refine r_iret hX hT dX7_at_39 ?_
        clear hT hX hR hlX
        exact ⟨by grind, rfl⟩
      · refine r_iconst 29 hX dX7_at_28 (v := -1) (by decide) ?_
        refine r_iret hX hT dX7_at_29 ?_
        clear hT hX hR hlX
        exact ⟨by grind, rfl⟩
set_option maxRecDepth 100000 in
set_option maxHeartbeats 4000000 in
theorem tX7_served_0 {l : Launch} {G : mx_G} {p : Int32} {M : mx_Mem} : mx_Met l G yX7_served cX7_served 3 ((some FieldType.int)) 1 21 [.ref 0, .int 0, .int p] M (mx_F (some (.int (if isP p then M.1 13 p.toNatClampNeg else -1))) M) := by
  refine mx_enter (own := RX7) (L := [.ref 0, .int 0, .int p]) (by decide +kernel) rfl rfl rfl ?_
  intro X hlX hX hR hT
  refine r_iload_n 1 hX dX7_served_0 rfl ?_
  refine r_cS1F 4 hX hR tX7_isTeam_0 dX7_served_1 kX7_isTeam lX7_83 rfl rfl rfl ?_
  refine r_if_eq 7 14 hX dX7_served_4 (fun c => absurd c (by decide)) (fun _ => ?_)
  refine r_iload_n 8 hX dX7_served_7 rfl ?_
  refine r_cS1F 11 hX hR tX7_isPlayer dX7_served_8 kX7_isPlayer lX7_87 rfl rfl rfl ?_
  refine r_Bne 14 16 hX dX7_served_11 (fun c1 => ?_) (fun c1 => ?_)
  · refine r_aload_n 17 hX dX7_served_16 rfl ?_
    refine r_iload_n 18 hX dX7_served_17 rfl ?_
    refine r_cV1F 21 hX hR tX7_courtOf_0 dX7_served_18 kX7_courtOf lX7_159 rfl rfl rfl rfl rfl rfl ?_
    refine r_getR 24 hX dX7_served_21 fX7_226 rfl rfl rfl ?_
    refine r_iload_n 25 hX dX7_served_24 rfl ?_
    refine r_iald 26 hX dX7_served_25 rfl rfl (by first | assumption | exact vpK rfl | exact vpP (by assumption) | exact vp6 (by assumption) (by assumption) | exact vp12 (by assumption) (by assumption) | exact vp48 (by assumption) (by assumption) | exact vp100 (by assumption) (by assumption)) ?_
    refine r_iret hX hT dX7_served_26 ?_
    first | (rw [if_pos c1]; exact ⟨rfl, rfl⟩) | (rw [if_neg c1]; exact ⟨rfl, rfl⟩)
  · refine r_iconst 15 hX dX7_served_14 (v := -1) (by decide) ?_
    refine r_iret hX hT dX7_served_15 ?_
    first | (rw [if_pos c1]; exact ⟨rfl, rfl⟩) | (rw [if_neg c1]; exact ⟨rfl, rfl⟩)
def ftC_0 (M : mx_Mem) (p x y : Int32) : Prop := (0 ≤ p ∧ ¬ 6 ≤ p) ∧ ¬ M.1 19 1 = 0 ∧ (0 ≤ x ∧ x ≤ 999) ∧ (0 ≤ y ∧ y ≤ 999)
set_option maxRecDepth 100000 in
set_option maxHeartbeats 4000000 in
theorem tX7_feet_0 {l : Launch} {G : mx_G} {p x y : Int32} {M : mx_Mem} : mx_Met l G yX7_feet cX7_feet 5 ((some FieldType.boolean)) 1 23 [.ref 0, .int 0, .int p, .int x, .int y] M (fun r M' => (ftC_0 M p x y ∧ r = some (.int 1) ∧ M' = mI (mI M 32 p.toNatClampNeg x) 33 p.toNatClampNeg y) ∨ (¬ ftC_0 M p x y ∧ r = some (.int 0) ∧ M' = M)) := by
  refine mx_enter (own := RX7) (L := [.ref 0, .int 0, .int p, .int x, .int y]) (by decide +kernel) rfl rfl rfl ?_
  intro X hlX hX hR hT
  refine r_iload_n 1 hX dX7_feet_0 rfl ?_
  refine r_cS1F 4 hX hR tX7_isTeam_0 dX7_feet_1 kX7_isTeam lX7_83 rfl rfl rfl ?_
  refine r_if_eq 7 27 hX dX7_feet_4 (fun c => absurd c (by decide)) (fun _ => ?_)
  refine r_iload_n 8 hX dX7_feet_7 rfl ?_
  refine r_If_lt 11 27 hX dX7_feet_8 (fun c1 => ?_) (fun c1 => ?_)
  · refine r_iconst 28 hX dX7_feet_27 (v := 0) (by decide) ?_
    refine r_zret hX hT dX7_feet_28 (by first | assumption | decide) ?_
    clear hT hX hR hlX
    first | exact Or.inl ⟨by grind [ftC_0], rfl, rfl⟩ | exact Or.inr ⟨by grind [ftC_0], rfl, rfl⟩
  · refine r_iload_n 12 hX dX7_feet_11 rfl ?_
    refine r_bipush 14 hX dX7_feet_12 (v := 6) (by decide) ?_
    refine r_icmp_ge 17 27 hX dX7_feet_14 (fun c2 => ?_) (fun c2 => ?_)
    · refine r_iconst 28 hX dX7_feet_27 (v := 0) (by decide) ?_
      refine r_zret hX hT dX7_feet_28 (by first | assumption | decide) ?_
      clear hT hX hR hlX
      first | exact Or.inl ⟨by grind [ftC_0], rfl, rfl⟩ | exact Or.inr ⟨by grind [ftC_0], rfl, rfl⟩
    · refine r_aload_n 18 hX dX7_feet_17 rfl ?_
      refine r_getR 21 hX dX7_feet_18 fX7_39 rfl rfl rfl ?_
      refine r_getI 24 hX dX7_feet_21 fX7_102 rfl rfl rfl ?_
      refine r_if_ne 27 29 hX dX7_feet_24 (fun c3 => ?_) (fun c3 => ?_)
      · refine r_iload_n 30 hX dX7_feet_29 rfl ?_
        refine r_If_lt 33 53 hX dX7_feet_30 (fun c4 => ?_) (fun c4 => ?_)
        · refine r_iconst 54 hX dX7_feet_53 (v := 0) (by decide) ?_
          refine r_zret hX hT dX7_feet_54 (by first | assumption | decide) ?_
          clear hT hX hR hlX
          first | exact Or.inl ⟨by grind [ftC_0], rfl, rfl⟩ | exact Or.inr ⟨by grind [ftC_0], rfl, rfl⟩
        · refine r_iload_n 34 hX dX7_feet_33 rfl ?_
          refine r_sipush 37 hX dX7_feet_34 (v := 999) (by decide) ?_
          refine r_Icmp_gt 40 53 hX dX7_feet_37 (fun c5 => ?_) (fun c5 => ?_)
          · refine r_iconst 54 hX dX7_feet_53 (v := 0) (by decide) ?_
            refine r_zret hX hT dX7_feet_54 (by first | assumption | decide) ?_
            clear hT hX hR hlX
            first | exact Or.inl ⟨by grind [ftC_0], rfl, rfl⟩ | exact Or.inr ⟨by grind [ftC_0], rfl, rfl⟩
          · refine r_iload 42 hX dX7_feet_40 rfl ?_
            refine r_If_lt 45 53 hX dX7_feet_42 (fun c6 => ?_) (fun c6 => ?_)
            · refine r_iconst 54 hX dX7_feet_53 (v := 0) (by decide) ?_
              refine r_zret hX hT dX7_feet_54 (by first | assumption | decide) ?_
              clear hT hX hR hlX
              first | exact Or.inl ⟨by grind [ftC_0], rfl, rfl⟩ | exact Or.inr ⟨by grind [ftC_0], rfl, rfl⟩
            · refine r_iload 47 hX dX7_feet_45 rfl ?_
              refine r_sipush 50 hX dX7_feet_47 (v := 999) (by decide) ?_
              refine r_icmp_le 53 55 hX dX7_feet_50 (fun c7 => ?_) (fun c7 => ?_)
              · refine r_aload_n 56 hX dX7_feet_55 rfl ?_
                refine r_iload_n 57 hX dX7_feet_56 rfl ?_
                refine r_cV1F 60 hX hR tX7_stanceOf_0 dX7_feet_57 kX7_stanceOf lX7_230 rfl rfl rfl rfl rfl rfl ?_
                refine r_iload_n 61 hX dX7_feet_60 rfl ?_
                refine r_iload_n 62 hX dX7_feet_61 rfl ?_
                refine r_iload 64 hX dX7_feet_62 rfl ?_
                refine r_cV3U 67 hX hR (tX5_put_31 (by assumption) (by assumption)) dX7_feet_64 kX5_put lX7_234 rfl rfl rfl rfl rfl rfl ?_
                refine r_iconst 68 hX dX7_feet_67 (v := 1) (by decide) ?_
                refine r_zret hX hT dX7_feet_68 (by first | assumption | decide) ?_
                clear hT hX hR hlX
                first | exact Or.inl ⟨by grind [ftC_0], rfl, rfl⟩ | exact Or.inr ⟨by grind [ftC_0], rfl, rfl⟩
              · refine r_iconst 54 hX dX7_feet_53 (v := 0) (by decide) ?_
                refine r_zret hX hT dX7_feet_54 (by first | assumption | decide) ?_
                clear hT hX hR hlX
                first | exact Or.inl ⟨by grind [ftC_0], rfl, rfl⟩ | exact Or.inr ⟨by grind [ftC_0], rfl, rfl⟩
      · refine r_iconst 28 hX dX7_feet_27 (v := 0) (by decide) ?_
        refine r_zret hX hT dX7_feet_28 (by first | assumption | decide) ?_
        clear hT hX hR hlX
        first | exact Or.inl ⟨by grind [ftC_0], rfl, rfl⟩ | exact Or.inr ⟨by grind [ftC_0], rfl, rfl⟩
set_option maxRecDepth 100000 in
set_option maxHeartbeats 4000000 in
theorem tX7_overlap_0 {l : Launch} {G : mx_G} {M : mx_Mem} : mx_Met l G yX7_overlap cX7_overlap 2 ((some FieldType.int)) 1 24 [.ref 0, .int 0] M (mx_F (some (.int (if M.1 19 1 = 0 then -1 else ovl (decide (M.1 19 2 = 0)) (M.1 32) (M.1 33)))) M) := by
  refine mx_enter (own := RX7) (L := [.ref 0, .int 0]) (by decide +kernel) rfl rfl rfl ?_
  intro X hlX hX hR hT
  refine r_iload_n 1 hX dX7_overlap_0 rfl ?_
  refine r_cS1F 4 hX hR tX7_isTeam_0 dX7_overlap_1 kX7_isTeam lX7_83 rfl rfl rfl ?_
  refine r_if_eq 7 17 hX dX7_overlap_4 (fun c => absurd c (by decide)) (fun _ => ?_)
  refine r_aload_n 8 hX dX7_overlap_7 rfl ?_
  refine r_getR 11 hX dX7_overlap_8 fX7_39 rfl rfl rfl ?_
  refine r_getI 14 hX dX7_overlap_11 fX7_102 rfl rfl rfl ?_
  refine r_if_ne 17 19 hX dX7_overlap_14 (fun c1 => ?_) (fun c1 => ?_)
  · refine r_aload_n 20 hX dX7_overlap_19 rfl ?_
    refine r_iload_n 21 hX dX7_overlap_20 rfl ?_
    refine r_cV1F 24 hX hR tX7_stanceOf_0 dX7_overlap_21 kX7_stanceOf lX7_230 rfl rfl rfl rfl rfl rfl ?_
    refine r_iload_n 25 hX dX7_overlap_24 rfl ?_
    refine r_aload_n 26 hX dX7_overlap_25 rfl ?_
    refine r_getR 29 hX dX7_overlap_26 fX7_39 rfl rfl rfl ?_
    refine r_getI 32 hX dX7_overlap_29 fX7_199 rfl rfl rfl ?_
    refine r_icmp_ne 35 39 hX dX7_overlap_32 (fun c2 => ?_) (fun c2 => ?_)
    · refine r_iconst 40 hX dX7_overlap_39 (v := 0) (by decide) ?_
      refine r_cV1F 43 hX hR tX5_firstBroken_31_0 dX7_overlap_40 kX5_firstBroken lX7_237 rfl rfl rfl rfl rfl rfl ?_
      refine r_iret hX hT dX7_overlap_43 ?_
      exact ⟨by rw [if_neg c1, decide_eq_false (fun h => c2 h.symm)], rfl⟩
    · refine r_iconst 36 hX dX7_overlap_35 (v := 1) (by decide) ?_
      refine r_goto 40 hX dX7_overlap_36 ?_
      refine r_cV1F 43 hX hR tX5_firstBroken_31_1 dX7_overlap_40 kX5_firstBroken lX7_237 rfl rfl rfl rfl rfl rfl ?_
      refine r_iret hX hT dX7_overlap_43 ?_
      exact ⟨by rw [if_neg c1, decide_eq_true c2.symm], rfl⟩
  · refine r_iconst 18 hX dX7_overlap_17 (v := -1) (by decide) ?_
    refine r_iret hX hT dX7_overlap_18 ?_
    exact ⟨by rw [if_pos c1], rfl⟩
def frR_1 (M : mx_Mem) (p : Int32) : Int32 := if M.1 19 1 = 0 ∨ ¬ M.1 14 6 = 0 ∨ M.1 14 4 = -1 then -1 else if p = -1 then M.1 14 5 else if M.1 14 5 = -1 then (if plc (M.1 15) p = 4 then 4 else if plc (M.1 15) p = 5 then 5 else -1) else -1
def frM_1 (M : mx_Mem) (p : Int32) : mx_Mem := if M.1 19 1 = 0 ∨ ¬ M.1 14 6 = 0 ∨ M.1 14 4 = -1 then M else if p = -1 then (if M.1 14 5 = -1 then M else mI (mI M 14 5 (-1)) 14 6 1) else if M.1 14 5 = -1 then (if plc (M.1 15) p = 4 then mI (mI M 14 5 4) 14 6 1 else if plc (M.1 15) p = 5 then mI (mI M 14 5 5) 14 6 1 else M) else M
set_option maxRecDepth 100000 in
set_option maxHeartbeats 4000000 in
theorem tX7_free_1 {l : Launch} {G : mx_G} {p : Int32} {M : mx_Mem} : mx_Met l G yX7_free cX7_free 4 ((some FieldType.int)) 2 44 [.ref 0, .int 1, .int p] M (mx_F (some (.int (frR_1 M p))) (frM_1 M p)) := by
  refine mx_enter (own := RX7) (L := [.ref 0, .int 1, .int p, .null]) (by decide +kernel) rfl rfl rfl ?_
  intro X hlX hX hR hT
  refine r_iload_n 1 hX dX7_free_0 rfl ?_
  refine r_cS1F 4 hX hR tX7_isTeam_1 dX7_free_1 kX7_isTeam lX7_83 rfl rfl rfl ?_
  refine r_if_eq 7 17 hX dX7_free_4 (fun c => absurd c (by decide)) (fun _ => ?_)
  refine r_aload_n 8 hX dX7_free_7 rfl ?_
  refine r_getR 11 hX dX7_free_8 fX7_39 rfl rfl rfl ?_
  refine r_getI 14 hX dX7_free_11 fX7_102 rfl rfl rfl ?_
  refine r_if_ne 17 19 hX dX7_free_14 (fun c1 => ?_) (fun c1 => ?_)
  · refine r_aload_n 20 hX dX7_free_19 rfl ?_
    refine r_iload_n 21 hX dX7_free_20 rfl ?_
    refine r_cV1F 24 hX hR tX7_courtOf_1 dX7_free_21 kX7_courtOf lX7_159 rfl rfl rfl rfl rfl rfl ?_
    refine r_astore_n 25 hX dX7_free_24 rfl ?_
    refine r_aload_n 26 hX dX7_free_25 rfl ?_
    refine r_getI 29 hX dX7_free_26 fX7_182 rfl rfl rfl ?_
    refine r_if_ne 32 40 hX dX7_free_29 (fun c2 => ?_) (fun c2 => ?_)
    · refine r_iconst 41 hX dX7_free_40 (v := -1) (by decide) ?_
      refine r_iret hX hT dX7_free_41 ?_
      exact ⟨by simp [*, frR_1], by simp [*, frM_1]⟩
    · refine r_aload_n 33 hX dX7_free_32 rfl ?_
      refine r_getI 36 hX dX7_free_33 fX7_185 rfl rfl rfl ?_
      refine r_iconst 37 hX dX7_free_36 (v := -1) (by decide) ?_
      refine r_icmp_ne 40 42 hX dX7_free_37 (fun c3 => ?_) (fun c3 => ?_)
      · refine r_iload_n 43 hX dX7_free_42 rfl ?_
        refine r_iconst 44 hX dX7_free_43 (v := -1) (by decide) ?_
        refine r_icmp_ne 47 54 hX dX7_free_44 (fun c4 => ?_) (fun c4 => ?_)
        · refine r_aload_n 55 hX dX7_free_54 rfl ?_
          refine r_iload_n 56 hX dX7_free_55 rfl ?_
          refine r_cV1F 59 hX hR tX2_freeOn_14 dX7_free_56 kX2_freeOn lX7_190 rfl rfl rfl rfl rfl rfl ?_
          refine r_iret hX hT dX7_free_59 ?_
          exact ⟨by simp [*, frR_1], by simp [*, frM_1]⟩
        · refine r_aload_n 48 hX dX7_free_47 rfl ?_
          refine r_cV0F 51 hX hR tX2_freeOff_14 dX7_free_48 kX2_freeOff lX7_186 rfl rfl rfl rfl rfl rfl ?_
          refine r_goto 59 hX dX7_free_51 ?_
          refine r_iret hX hT dX7_free_59 ?_
          exact ⟨by simp [*, frR_1], by simp [*, frM_1]⟩
      · refine r_iconst 41 hX dX7_free_40 (v := -1) (by decide) ?_
        refine r_iret hX hT dX7_free_41 ?_
        exact ⟨by simp [*, frR_1], by simp [*, frM_1]⟩
  · refine r_iconst 18 hX dX7_free_17 (v := -1) (by decide) ?_
    refine r_iret hX hT dX7_free_18 ?_
    exact ⟨by simp [*, frR_1], by simp [*, frM_1]⟩
set_option maxRecDepth 100000 in
set_option maxHeartbeats 4000000 in
theorem tX7_pause_1 {l : Launch} {G : mx_G} {M : mx_Mem} : mx_Met l G yX7_pause cX7_pause 3 ((some FieldType.int)) 1 21 [.ref 0, .int 1] M (mx_F (some (.int (if M.1 19 1 = 0 ∨ M.1 2 5 ≤ M.1 14 10 then -1 else M.1 14 10 + 1))) (if M.1 19 1 = 0 ∨ M.1 2 5 ≤ M.1 14 10 then M else mI M 14 10 (M.1 14 10 + 1))) := by
  refine mx_enter (own := RX7) (L := [.ref 0, .int 1, .null]) (by decide +kernel) rfl rfl rfl ?_
  intro X hlX hX hR hT
  refine r_iload_n 1 hX dX7_pause_0 rfl ?_
  refine r_cS1F 4 hX hR tX7_isTeam_1 dX7_pause_1 kX7_isTeam lX7_83 rfl rfl rfl ?_
  refine r_if_eq 7 17 hX dX7_pause_4 (fun c => absurd c (by decide)) (fun _ => ?_)
  refine r_aload_n 8 hX dX7_pause_7 rfl ?_
  refine r_getR 11 hX dX7_pause_8 fX7_39 rfl rfl rfl ?_
  refine r_getI 14 hX dX7_pause_11 fX7_102 rfl rfl rfl ?_
  refine r_if_ne 17 19 hX dX7_pause_14 (fun c1 => ?_) (fun c1 => ?_)
  · refine r_aload_n 20 hX dX7_pause_19 rfl ?_
    refine r_iload_n 21 hX dX7_pause_20 rfl ?_
    refine r_cV1F 24 hX hR tX7_courtOf_1 dX7_pause_21 kX7_courtOf lX7_159 rfl rfl rfl rfl rfl rfl ?_
    refine r_astore_n 25 hX dX7_pause_24 rfl ?_
    refine r_aload_n 26 hX dX7_pause_25 rfl ?_
    refine r_getI 29 hX dX7_pause_26 fX7_193 rfl rfl rfl ?_
    refine r_aload_n 30 hX dX7_pause_29 rfl ?_
    refine r_getR 33 hX dX7_pause_30 fX7_10 rfl rfl rfl ?_
    refine r_iconst 34 hX dX7_pause_33 (v := 5) (by decide) ?_
    refine r_cV1F 37 hX hR tX3_valueOf_5 dX7_pause_34 kX3_valueOf lX7_116 rfl rfl rfl rfl rfl rfl ?_
    refine r_Icmp_lt 40 42 hX dX7_pause_37 (fun c2 => ?_) (fun c2 => ?_)
    · refine r_aload_n 43 hX dX7_pause_42 rfl ?_
      refine r_dup 44 hX dX7_pause_43 rfl ?_
      refine r_getI 47 hX dX7_pause_44 fX7_193 rfl rfl rfl ?_
      refine r_iconst 48 hX dX7_pause_47 (v := 1) (by decide) ?_
      refine r_iadd 49 hX dX7_pause_48 ?_
      refine r_putI 52 hX dX7_pause_49 fX7_193 fp2_10 rfl rfl rfl ?_
      refine r_aload_n 53 hX dX7_pause_52 rfl ?_
      refine r_getI 56 hX dX7_pause_53 fX7_193 rfl rfl rfl ?_
      refine r_iret hX hT dX7_pause_56 ?_
      exact ⟨by simp [*, mI_self], by simp [*]⟩
    · refine r_iconst 41 hX dX7_pause_40 (v := -1) (by decide) ?_
      refine r_iret hX hT dX7_pause_41 ?_
      exact ⟨by simp [*, mI_self], by simp [*]⟩
  · refine r_iconst 18 hX dX7_pause_17 (v := -1) (by decide) ?_
    refine r_iret hX hT dX7_pause_18 ?_
    exact ⟨by simp [*, mI_self], by simp [*]⟩
def wgM_1 (M : mx_Mem) (k : Int32) : mx_Mem := wrM (mI M 14 7 (M.1 14 7 - k)) 9 0
set_option maxRecDepth 100000 in
set_option maxHeartbeats 4000000 in
theorem tX7_wrong_1 {l : Launch} {G : mx_G} {k : Int32} {M : mx_Mem} (hs : M.1 19 2 = 1) (hp : isP (M.1 10 0)) : mx_Met l G yX7_wrong cX7_wrong 2 ((some FieldType.int)) 3 70 [.ref 0, .int k] M (mx_F (some (.int (if M.1 19 1 = 0 ∨ ¬ 0 ≤ k ∨ ¬ k ≤ M.1 19 3 then -1 else clR (wgM_1 M k) 9 14))) (if M.1 19 1 = 0 ∨ ¬ 0 ≤ k ∨ ¬ k ≤ M.1 19 3 then M else clM (wgM_1 M k) 9 14 0)) := by
  refine mx_enter (own := RX7) (L := [.ref 0, .int k]) (by decide +kernel) rfl rfl rfl ?_
  intro X hlX hX hR hT
  refine r_aload_n 1 hX dX7_wrong_0 rfl ?_
  refine r_getR 4 hX dX7_wrong_1 fX7_39 rfl rfl rfl ?_
  refine r_getI 7 hX dX7_wrong_4 fX7_102 rfl rfl rfl ?_
  refine r_if_eq 10 25 hX dX7_wrong_7 (fun c1 => ?_) (fun c1 => ?_)
  · refine r_iconst 26 hX dX7_wrong_25 (v := -1) (by decide) ?_
    refine r_iret hX hT dX7_wrong_26 ?_
    exact ⟨by simp [*, wgM_1], by simp [*, wgM_1]⟩
  · refine r_iload_n 11 hX dX7_wrong_10 rfl ?_
    refine r_If_lt 14 25 hX dX7_wrong_11 (fun c2 => ?_) (fun c2 => ?_)
    · refine r_iconst 26 hX dX7_wrong_25 (v := -1) (by decide) ?_
      refine r_iret hX hT dX7_wrong_26 ?_
      exact ⟨by simp [*, wgM_1], by simp [*, wgM_1]⟩
    · refine r_iload_n 15 hX dX7_wrong_14 rfl ?_
      refine r_aload_n 16 hX dX7_wrong_15 rfl ?_
      refine r_getR 19 hX dX7_wrong_16 fX7_39 rfl rfl rfl ?_
      refine r_getI 22 hX dX7_wrong_19 fX7_196 rfl rfl rfl ?_
      refine r_icmp_le 25 27 hX dX7_wrong_22 (fun c3 => ?_) (fun c3 => ?_)
      · refine r_aload_n 28 hX dX7_wrong_27 rfl ?_
        refine r_aload_n 29 hX dX7_wrong_28 rfl ?_
        refine r_getR 32 hX dX7_wrong_29 fX7_39 rfl rfl rfl ?_
        refine r_getI 35 hX dX7_wrong_32 fX7_199 rfl rfl rfl ?_
        rw [hs]
        refine r_cV1F 38 hX hR tX7_courtOf_1 dX7_wrong_35 kX7_courtOf lX7_159 rfl rfl rfl rfl rfl rfl ?_
        refine r_dup 39 hX dX7_wrong_38 rfl ?_
        refine r_getI 42 hX dX7_wrong_39 fX7_202 rfl rfl rfl ?_
        refine r_iload_n 43 hX dX7_wrong_42 rfl ?_
        refine r_isub 44 hX dX7_wrong_43 ?_
        refine r_putI 47 hX dX7_wrong_44 fX7_202 fp2_7 rfl rfl rfl ?_
        refine r_aload_n 48 hX dX7_wrong_47 rfl ?_
        refine r_iconst 49 hX dX7_wrong_48 (v := 1) (by decide) ?_
        refine r_aload_n 50 hX dX7_wrong_49 rfl ?_
        refine r_getR 53 hX dX7_wrong_50 fX7_39 rfl rfl rfl ?_
        refine r_getI 56 hX dX7_wrong_53 fX7_199 rfl rfl rfl ?_
        rw [show (mI M 14 7 (M.1 14 7 - k)).1 19 2 = 1 from hs]
        refine r_isub 57 hX dX7_wrong_56 ?_
        rw [show (1 : Int32) - 1 = 0 by decide]
        refine r_cV1F 60 hX hR (tX7_winRally_0 hp) dX7_wrong_57 kX7_winRally lX7_156 rfl rfl rfl rfl rfl rfl ?_
        refine r_iret hX hT dX7_wrong_60 ?_
        exact ⟨by simp [*, wgM_1], by simp [*, wgM_1]⟩
      · refine r_iconst 26 hX dX7_wrong_25 (v := -1) (by decide) ?_
        refine r_iret hX hT dX7_wrong_26 ?_
        exact ⟨by simp [*, wgM_1], by simp [*, wgM_1]⟩
set_option maxRecDepth 100000 in
set_option maxHeartbeats 4000000 in
theorem tX7_at_1 {l : Launch} {G : mx_G} {p : Int32} {M : mx_Mem} : mx_Met l G yX7_at cX7_at 3 ((some FieldType.int)) 1 21 [.ref 0, .int 1, .int p] M (mx_F (some (.int (if (0 ≤ p ∧ ¬ 6 ≤ p) ∧ ¬ M.1 19 0 = -1 then (if p = M.1 14 5 then M.1 14 4 else M.1 15 p.toNatClampNeg) else -1))) M) := by
  refine mx_enter (own := RX7) (L := [.ref 0, .int 1, .int p]) (by decide +kernel) rfl rfl rfl ?_
  intro X hlX hX hR hT
  refine r_iload_n 1 hX dX7_at_0 rfl ?_
  refine r_cS1F 4 hX hR tX7_isTeam_1 dX7_at_1 kX7_isTeam lX7_83 rfl rfl rfl ?_
  refine r_if_eq 7 28 hX dX7_at_4 (fun c => absurd c (by decide)) (fun _ => ?_)
  refine r_iload_n 8 hX dX7_at_7 rfl ?_
  refine r_If_lt 11 28 hX dX7_at_8 (fun c1 => ?_) (fun c1 => ?_)
  · refine r_iconst 29 hX dX7_at_28 (v := -1) (by decide) ?_
    refine r_iret hX hT dX7_at_29 ?_
    clear hT hX hR hlX
    exact ⟨by grind, rfl⟩
  · refine r_iload_n 12 hX dX7_at_11 rfl ?_
    refine r_bipush 14 hX dX7_at_12 (v := 6) (by decide) ?_
    refine r_icmp_ge 17 28 hX dX7_at_14 (fun c2 => ?_) (fun c2 => ?_)
    · refine r_iconst 29 hX dX7_at_28 (v := -1) (by decide) ?_
      refine r_iret hX hT dX7_at_29 ?_
      clear hT hX hR hlX
      exact ⟨by grind, rfl⟩
    · refine r_aload_n 18 hX dX7_at_17 rfl ?_
      refine r_getR 21 hX dX7_at_18 fX7_39 rfl rfl rfl ?_
      refine r_getI 24 hX dX7_at_21 fX7_109 rfl rfl rfl ?_
      refine r_iconst 25 hX dX7_at_24 (v := -1) (by decide) ?_
      refine r_icmp_ne 28 30 hX dX7_at_25 (fun c3 => ?_) (fun c3 => ?_)
      · refine r_aload_n 31 hX dX7_at_30 rfl ?_
        refine r_iload_n 32 hX dX7_at_31 rfl ?_
        refine r_cV1F 35 hX hR tX7_courtOf_1 dX7_at_32 kX7_courtOf lX7_159 rfl rfl rfl rfl rfl rfl ?_
        refine r_iload_n 36 hX dX7_at_35 rfl ?_
        refine r_cV1F 39 hX hR tX2_playerAt_14 dX7_at_36 kX2_playerAt lX7_205 rfl rfl rfl rfl rfl rfl ?_
        refine r_iret hX hT dX7_at_39 ?_
        clear hT hX hR hlX
        exact ⟨by grind, rfl⟩
      · refine r_iconst 29 hX dX7_at_28 (v := -1) (by decide) ?_
        refine r_iret hX hT dX7_at_29 ?_
        clear hT hX hR hlX
        exact ⟨by grind, rfl⟩
set_option maxRecDepth 100000 in
set_option maxHeartbeats 4000000 in
theorem tX7_served_1 {l : Launch} {G : mx_G} {p : Int32} {M : mx_Mem} : mx_Met l G yX7_served cX7_served 3 ((some FieldType.int)) 1 21 [.ref 0, .int 1, .int p] M (mx_F (some (.int (if isP p then M.1 18 p.toNatClampNeg else -1))) M) := by
  refine mx_enter (own := RX7) (L := [.ref 0, .int 1, .int p]) (by decide +kernel) rfl rfl rfl ?_
  intro X hlX hX hR hT
  refine r_iload_n 1 hX dX7_served_0 rfl ?_
  refine r_cS1F 4 hX hR tX7_isTeam_1 dX7_served_1 kX7_isTeam lX7_83 rfl rfl rfl ?_
  refine r_if_eq 7 14 hX dX7_served_4 (fun c => absurd c (by decide)) (fun _ => ?_)
  refine r_iload_n 8 hX dX7_served_7 rfl ?_
  refine r_cS1F 11 hX hR tX7_isPlayer dX7_served_8 kX7_isPlayer lX7_87 rfl rfl rfl ?_
  refine r_Bne 14 16 hX dX7_served_11 (fun c1 => ?_) (fun c1 => ?_)
  · refine r_aload_n 17 hX dX7_served_16 rfl ?_
    refine r_iload_n 18 hX dX7_served_17 rfl ?_
    refine r_cV1F 21 hX hR tX7_courtOf_1 dX7_served_18 kX7_courtOf lX7_159 rfl rfl rfl rfl rfl rfl ?_
    refine r_getR 24 hX dX7_served_21 fX7_226 rfl rfl rfl ?_
    refine r_iload_n 25 hX dX7_served_24 rfl ?_
    refine r_iald 26 hX dX7_served_25 rfl rfl (by first | assumption | exact vpK rfl | exact vpP (by assumption) | exact vp6 (by assumption) (by assumption) | exact vp12 (by assumption) (by assumption) | exact vp48 (by assumption) (by assumption) | exact vp100 (by assumption) (by assumption)) ?_
    refine r_iret hX hT dX7_served_26 ?_
    first | (rw [if_pos c1]; exact ⟨rfl, rfl⟩) | (rw [if_neg c1]; exact ⟨rfl, rfl⟩)
  · refine r_iconst 15 hX dX7_served_14 (v := -1) (by decide) ?_
    refine r_iret hX hT dX7_served_15 ?_
    first | (rw [if_pos c1]; exact ⟨rfl, rfl⟩) | (rw [if_neg c1]; exact ⟨rfl, rfl⟩)
def ftC_1 (M : mx_Mem) (p x y : Int32) : Prop := (0 ≤ p ∧ ¬ 6 ≤ p) ∧ ¬ M.1 19 1 = 0 ∧ (0 ≤ x ∧ x ≤ 999) ∧ (0 ≤ y ∧ y ≤ 999)
set_option maxRecDepth 100000 in
set_option maxHeartbeats 4000000 in
theorem tX7_feet_1 {l : Launch} {G : mx_G} {p x y : Int32} {M : mx_Mem} : mx_Met l G yX7_feet cX7_feet 5 ((some FieldType.boolean)) 1 23 [.ref 0, .int 1, .int p, .int x, .int y] M (fun r M' => (ftC_1 M p x y ∧ r = some (.int 1) ∧ M' = mI (mI M 35 p.toNatClampNeg x) 36 p.toNatClampNeg y) ∨ (¬ ftC_1 M p x y ∧ r = some (.int 0) ∧ M' = M)) := by
  refine mx_enter (own := RX7) (L := [.ref 0, .int 1, .int p, .int x, .int y]) (by decide +kernel) rfl rfl rfl ?_
  intro X hlX hX hR hT
  refine r_iload_n 1 hX dX7_feet_0 rfl ?_
  refine r_cS1F 4 hX hR tX7_isTeam_1 dX7_feet_1 kX7_isTeam lX7_83 rfl rfl rfl ?_
  refine r_if_eq 7 27 hX dX7_feet_4 (fun c => absurd c (by decide)) (fun _ => ?_)
  refine r_iload_n 8 hX dX7_feet_7 rfl ?_
  refine r_If_lt 11 27 hX dX7_feet_8 (fun c1 => ?_) (fun c1 => ?_)
  · refine r_iconst 28 hX dX7_feet_27 (v := 0) (by decide) ?_
    refine r_zret hX hT dX7_feet_28 (by first | assumption | decide) ?_
    clear hT hX hR hlX
    first | exact Or.inl ⟨by grind [ftC_1], rfl, rfl⟩ | exact Or.inr ⟨by grind [ftC_1], rfl, rfl⟩
  · refine r_iload_n 12 hX dX7_feet_11 rfl ?_
    refine r_bipush 14 hX dX7_feet_12 (v := 6) (by decide) ?_
    refine r_icmp_ge 17 27 hX dX7_feet_14 (fun c2 => ?_) (fun c2 => ?_)
    · refine r_iconst 28 hX dX7_feet_27 (v := 0) (by decide) ?_
      refine r_zret hX hT dX7_feet_28 (by first | assumption | decide) ?_
      clear hT hX hR hlX
      first | exact Or.inl ⟨by grind [ftC_1], rfl, rfl⟩ | exact Or.inr ⟨by grind [ftC_1], rfl, rfl⟩
    · refine r_aload_n 18 hX dX7_feet_17 rfl ?_
      refine r_getR 21 hX dX7_feet_18 fX7_39 rfl rfl rfl ?_
      refine r_getI 24 hX dX7_feet_21 fX7_102 rfl rfl rfl ?_
      refine r_if_ne 27 29 hX dX7_feet_24 (fun c3 => ?_) (fun c3 => ?_)
      · refine r_iload_n 30 hX dX7_feet_29 rfl ?_
        refine r_If_lt 33 53 hX dX7_feet_30 (fun c4 => ?_) (fun c4 => ?_)
        · refine r_iconst 54 hX dX7_feet_53 (v := 0) (by decide) ?_
          refine r_zret hX hT dX7_feet_54 (by first | assumption | decide) ?_
          clear hT hX hR hlX
          first | exact Or.inl ⟨by grind [ftC_1], rfl, rfl⟩ | exact Or.inr ⟨by grind [ftC_1], rfl, rfl⟩
        · refine r_iload_n 34 hX dX7_feet_33 rfl ?_
          refine r_sipush 37 hX dX7_feet_34 (v := 999) (by decide) ?_
          refine r_Icmp_gt 40 53 hX dX7_feet_37 (fun c5 => ?_) (fun c5 => ?_)
          · refine r_iconst 54 hX dX7_feet_53 (v := 0) (by decide) ?_
            refine r_zret hX hT dX7_feet_54 (by first | assumption | decide) ?_
            clear hT hX hR hlX
            first | exact Or.inl ⟨by grind [ftC_1], rfl, rfl⟩ | exact Or.inr ⟨by grind [ftC_1], rfl, rfl⟩
          · refine r_iload 42 hX dX7_feet_40 rfl ?_
            refine r_If_lt 45 53 hX dX7_feet_42 (fun c6 => ?_) (fun c6 => ?_)
            · refine r_iconst 54 hX dX7_feet_53 (v := 0) (by decide) ?_
              refine r_zret hX hT dX7_feet_54 (by first | assumption | decide) ?_
              clear hT hX hR hlX
              first | exact Or.inl ⟨by grind [ftC_1], rfl, rfl⟩ | exact Or.inr ⟨by grind [ftC_1], rfl, rfl⟩
            · refine r_iload 47 hX dX7_feet_45 rfl ?_
              refine r_sipush 50 hX dX7_feet_47 (v := 999) (by decide) ?_
              refine r_icmp_le 53 55 hX dX7_feet_50 (fun c7 => ?_) (fun c7 => ?_)
              · refine r_aload_n 56 hX dX7_feet_55 rfl ?_
                refine r_iload_n 57 hX dX7_feet_56 rfl ?_
                refine r_cV1F 60 hX hR tX7_stanceOf_1 dX7_feet_57 kX7_stanceOf lX7_230 rfl rfl rfl rfl rfl rfl ?_
                refine r_iload_n 61 hX dX7_feet_60 rfl ?_
                refine r_iload_n 62 hX dX7_feet_61 rfl ?_
                refine r_iload 64 hX dX7_feet_62 rfl ?_
                refine r_cV3U 67 hX hR (tX5_put_34 (by assumption) (by assumption)) dX7_feet_64 kX5_put lX7_234 rfl rfl rfl rfl rfl rfl ?_
                refine r_iconst 68 hX dX7_feet_67 (v := 1) (by decide) ?_
                refine r_zret hX hT dX7_feet_68 (by first | assumption | decide) ?_
                clear hT hX hR hlX
                first | exact Or.inl ⟨by grind [ftC_1], rfl, rfl⟩ | exact Or.inr ⟨by grind [ftC_1], rfl, rfl⟩
              · refine r_iconst 54 hX dX7_feet_53 (v := 0) (by decide) ?_
                refine r_zret hX hT dX7_feet_54 (by first | assumption | decide) ?_
                clear hT hX hR hlX
                first | exact Or.inl ⟨by grind [ftC_1], rfl, rfl⟩ | exact Or.inr ⟨by grind [ftC_1], rfl, rfl⟩
      · refine r_iconst 28 hX dX7_feet_27 (v := 0) (by decide) ?_
        refine r_zret hX hT dX7_feet_28 (by first | assumption | decide) ?_
        clear hT hX hR hlX
        first | exact Or.inl ⟨by grind [ftC_1], rfl, rfl⟩ | exact Or.inr ⟨by grind [ftC_1], rfl, rfl⟩
set_option maxRecDepth 100000 in
set_option maxHeartbeats 4000000 in
theorem tX7_overlap_1 {l : Launch} {G : mx_G} {M : mx_Mem} : mx_Met l G yX7_overlap cX7_overlap 2 ((some FieldType.int)) 1 24 [.ref 0, .int 1] M (mx_F (some (.int (if M.1 19 1 = 0 then -1 else ovl (decide (M.1 19 2 = 1)) (M.1 35) (M.1 36)))) M) := by
  refine mx_enter (own := RX7) (L := [.ref 0, .int 1]) (by decide +kernel) rfl rfl rfl ?_
  intro X hlX hX hR hT
  refine r_iload_n 1 hX dX7_overlap_0 rfl ?_
  refine r_cS1F 4 hX hR tX7_isTeam_1 dX7_overlap_1 kX7_isTeam lX7_83 rfl rfl rfl ?_
  refine r_if_eq 7 17 hX dX7_overlap_4 (fun c => absurd c (by decide)) (fun _ => ?_)
  refine r_aload_n 8 hX dX7_overlap_7 rfl ?_
  refine r_getR 11 hX dX7_overlap_8 fX7_39 rfl rfl rfl ?_
  refine r_getI 14 hX dX7_overlap_11 fX7_102 rfl rfl rfl ?_
  refine r_if_ne 17 19 hX dX7_overlap_14 (fun c1 => ?_) (fun c1 => ?_)
  · refine r_aload_n 20 hX dX7_overlap_19 rfl ?_
    refine r_iload_n 21 hX dX7_overlap_20 rfl ?_
    refine r_cV1F 24 hX hR tX7_stanceOf_1 dX7_overlap_21 kX7_stanceOf lX7_230 rfl rfl rfl rfl rfl rfl ?_
    refine r_iload_n 25 hX dX7_overlap_24 rfl ?_
    refine r_aload_n 26 hX dX7_overlap_25 rfl ?_
    refine r_getR 29 hX dX7_overlap_26 fX7_39 rfl rfl rfl ?_
    refine r_getI 32 hX dX7_overlap_29 fX7_199 rfl rfl rfl ?_
    refine r_icmp_ne 35 39 hX dX7_overlap_32 (fun c2 => ?_) (fun c2 => ?_)
    · refine r_iconst 40 hX dX7_overlap_39 (v := 0) (by decide) ?_
      refine r_cV1F 43 hX hR tX5_firstBroken_34_0 dX7_overlap_40 kX5_firstBroken lX7_237 rfl rfl rfl rfl rfl rfl ?_
      refine r_iret hX hT dX7_overlap_43 ?_
      exact ⟨by rw [if_neg c1, decide_eq_false (fun h => c2 h.symm)], rfl⟩
    · refine r_iconst 36 hX dX7_overlap_35 (v := 1) (by decide) ?_
      refine r_goto 40 hX dX7_overlap_36 ?_
      refine r_cV1F 43 hX hR tX5_firstBroken_34_1 dX7_overlap_40 kX5_firstBroken lX7_237 rfl rfl rfl rfl rfl rfl ?_
      refine r_iret hX hT dX7_overlap_43 ?_
      exact ⟨by rw [if_neg c1, decide_eq_true c2.symm], rfl⟩
  · refine r_iconst 18 hX dX7_overlap_17 (v := -1) (by decide) ?_
    refine r_iret hX hT dX7_overlap_18 ?_
    exact ⟨by rw [if_pos c1], rfl⟩

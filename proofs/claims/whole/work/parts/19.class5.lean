/-! SixWhoTurn: a set begins; numbers told; texts -/
abbrev rdC (M : mx_Mem) (s : Nat) : Prop := M.1 s 3 = 1 ∧ ∀ k : Nat, k < 6 → M.1 (s + 2) k ≠ M.1 s 2
def bgC (M : mx_Mem) : Prop := (M.1 19 1 = 0 ∧ M.1 19 6 = -1) ∧ rdC M 3 ∧ rdC M 6
def bgM (M : mx_Mem) (t : Int32) : mx_Mem := coS (stF (stF (mI (mI (bgS (bgS M 9 3) 14 6) 3 3 0) 6 3 0) 31) 34) t
theorem stF_ne (M : mx_Mem) {s k : Nat} (h : k ≠ s + 1 ∧ k ≠ s + 2) : (stF M s).1 k = M.1 k := by
  rw [stF, mR_ne _ _ h.2, mR_ne _ _ h.1]
theorem bgM_num (M : mx_Mem) (t : Int32) : (bgM M t).1 19 0 = M.1 19 0 + 1 := by
  have e : (stF (stF (mI (mI (bgS (bgS M 9 3) 14 6) 3 3 0) 6 3 0) 31) 34).1 19 = M.1 19 := by
    funext j
    rw [stF_ne _ (by decide), stF_ne _ (by decide), mI_ne _ _ _ _ (by decide), mI_ne _ _ _ _ (by decide), bgS_ne _ (by decide), bgS_ne _ (by decide)]
  unfold bgM coS
  rw [e]
  simp [mI_ap]
set_option maxRecDepth 100000 in
set_option maxHeartbeats 4000000 in
theorem tX7_begin_0 {l : Launch} {G : mx_G} {M : mx_Mem} (hb0 : M.1 3 3 = 0 ∨ M.1 3 3 = 1) (hb1 : M.1 6 3 = 0 ∨ M.1 6 3 = 1) (hp0 : M.1 3 3 = 1 → ∀ k : Nat, k < 6 → isP (M.1 5 k)) (hp1 : M.1 6 3 = 1 → ∀ k : Nat, k < 6 → isP (M.1 8 k)) : mx_Met l G yX7_begin cX7_begin 2 ((some FieldType.int)) 2 80 [.ref 0, .int 0] M (fun r M' => (bgC M ∧ r = some (.int (M.1 19 0 + 1)) ∧ M' = bgM M 0) ∨ (¬ bgC M ∧ r = some (.int (-1)) ∧ M' = M)) := by
  refine mx_enter (own := RX7) (L := [.ref 0, .int 0]) (by decide +kernel) rfl rfl rfl ?_
  intro X hlX hX hR hT
  refine r_iload_n 1 hX dX7_begin_0 rfl ?_
  refine r_cS1F 4 hX hR tX7_isTeam_0 dX7_begin_1 kX7_isTeam lX7_83 rfl rfl rfl ?_
  refine r_if_eq 7 28 hX dX7_begin_4 (fun c => absurd c (by decide)) (fun _ => ?_)
  refine r_aload_n 8 hX dX7_begin_7 rfl ?_
  refine r_getR 11 hX dX7_begin_8 fX7_39 rfl rfl rfl ?_
  refine r_getI 14 hX dX7_begin_11 fX7_102 rfl rfl rfl ?_
  refine r_if_ne 17 28 hX dX7_begin_14 (fun c1 => ?_) (fun c1 => ?_)
  · refine r_iconst 29 hX dX7_begin_28 (v := -1) (by decide) ?_
    refine r_iret hX hT dX7_begin_29 ?_
    exact Or.inr ⟨fun h => by first | exact c1 h.1.1 | exact c2 h.1.2, rfl, rfl⟩
  · refine r_aload_n 18 hX dX7_begin_17 rfl ?_
    refine r_getR 21 hX dX7_begin_18 fX7_39 rfl rfl rfl ?_
    refine r_getI 24 hX dX7_begin_21 fX7_124 rfl rfl rfl ?_
    refine r_iconst 25 hX dX7_begin_24 (v := -1) (by decide) ?_
    refine r_icmp_eq 28 30 hX dX7_begin_25 (fun c2 => ?_) (fun c2 => ?_)
    · refine r_aload_n 31 hX dX7_begin_30 rfl ?_
      refine r_getR 34 hX dX7_begin_31 fX7_19 rfl rfl rfl ?_
      refine r_cV0F 37 hX hR (tX4_isReady_3 hb0) dX7_begin_34 kX4_isReady lX7_139 rfl rfl rfl rfl rfl rfl ?_
      refine r_Beq 40 50 hX dX7_begin_37 (fun c3 => ?_) (fun c3 => ?_)
      · refine r_iconst 51 hX dX7_begin_50 (v := -1) (by decide) ?_
        refine r_iret hX hT dX7_begin_51 ?_
        exact Or.inr ⟨fun h => by first | exact c3 h.2.1 | exact c4 h.2.2, rfl, rfl⟩
      · refine r_aload_n 41 hX dX7_begin_40 rfl ?_
        refine r_getR 44 hX dX7_begin_41 fX7_23 rfl rfl rfl ?_
        refine r_cV0F 47 hX hR (tX4_isReady_6 hb1) dX7_begin_44 kX4_isReady lX7_139 rfl rfl rfl rfl rfl rfl ?_
        refine r_Bne 50 52 hX dX7_begin_47 (fun c4 => ?_) (fun c4 => ?_)
        · refine r_aload_n 53 hX dX7_begin_52 rfl ?_
          refine r_getR 56 hX dX7_begin_53 fX7_29 rfl rfl rfl ?_
          refine r_aload_n 57 hX dX7_begin_56 rfl ?_
          refine r_getR 60 hX dX7_begin_57 fX7_19 rfl rfl rfl ?_
          refine r_cV1U 63 hX hR (tX2_startSet_9 (hp0 c3.1)) dX7_begin_60 kX2_startSet lX7_143 rfl rfl rfl rfl rfl rfl ?_
          refine r_aload_n 64 hX dX7_begin_63 rfl ?_
          refine r_getR 67 hX dX7_begin_64 fX7_33 rfl rfl rfl ?_
          refine r_aload_n 68 hX dX7_begin_67 rfl ?_
          refine r_getR 71 hX dX7_begin_68 fX7_23 rfl rfl rfl ?_
          refine r_cV1U 74 hX hR (tX2_startSet_14 (fun k hk => by rw [bgS_ne M (by decide)]; exact hp1 c4.1 k hk)) dX7_begin_71 kX2_startSet lX7_143 rfl rfl rfl rfl rfl rfl ?_
          refine r_aload_n 75 hX dX7_begin_74 rfl ?_
          refine r_getR 78 hX dX7_begin_75 fX7_19 rfl rfl rfl ?_
          refine r_iconst 79 hX dX7_begin_78 (v := 0) (by decide) ?_
          refine r_putZ 82 hX dX7_begin_79 fX7_147 fp4_3 rfl rfl rfl (by first | assumption | decide) ?_
          refine r_aload_n 83 hX dX7_begin_82 rfl ?_
          refine r_getR 86 hX dX7_begin_83 fX7_23 rfl rfl rfl ?_
          refine r_iconst 87 hX dX7_begin_86 (v := 0) (by decide) ?_
          refine r_putZ 90 hX dX7_begin_87 fX7_147 fp4_3 rfl rfl rfl (by first | assumption | decide) ?_
          refine r_aload_n 91 hX dX7_begin_90 rfl ?_
          refine r_getR 94 hX dX7_begin_91 fX7_55 rfl rfl rfl ?_
          refine r_cV0U 97 hX hR tX5_stand_31 dX7_begin_94 kX5_stand lX7_150 rfl rfl rfl rfl rfl rfl ?_
          refine r_aload_n 98 hX dX7_begin_97 rfl ?_
          refine r_getR 101 hX dX7_begin_98 fX7_59 rfl rfl rfl ?_
          refine r_cV0U 104 hX hR tX5_stand_34 dX7_begin_101 kX5_stand lX7_150 rfl rfl rfl rfl rfl rfl ?_
          refine r_aload_n 105 hX dX7_begin_104 rfl ?_
          refine r_getR 108 hX dX7_begin_105 fX7_39 rfl rfl rfl ?_
          refine r_iload_n 109 hX dX7_begin_108 rfl ?_
          refine r_cV1U 112 hX hR tX1_startSet dX7_begin_109 kX1_startSet lX7_153 rfl rfl rfl rfl rfl rfl ?_
          refine r_aload_n 113 hX dX7_begin_112 rfl ?_
          refine r_getR 116 hX dX7_begin_113 fX7_39 rfl rfl rfl ?_
          refine r_getI 119 hX dX7_begin_116 fX7_109 rfl rfl rfl ?_
          refine r_iret hX hT dX7_begin_119 ?_
          exact Or.inl ⟨⟨⟨c1, c2⟩, c3, c4⟩, congrArg (fun z => some (Value.int z)) (bgM_num M 0), rfl⟩
        · refine r_iconst 51 hX dX7_begin_50 (v := -1) (by decide) ?_
          refine r_iret hX hT dX7_begin_51 ?_
          exact Or.inr ⟨fun h => by first | exact c3 h.2.1 | exact c4 h.2.2, rfl, rfl⟩
    · refine r_iconst 29 hX dX7_begin_28 (v := -1) (by decide) ?_
      refine r_iret hX hT dX7_begin_29 ?_
      exact Or.inr ⟨fun h => by first | exact c1 h.1.1 | exact c2 h.1.2, rfl, rfl⟩
set_option maxRecDepth 100000 in
set_option maxHeartbeats 4000000 in
theorem tX7_begin_1 {l : Launch} {G : mx_G} {M : mx_Mem} (hb0 : M.1 3 3 = 0 ∨ M.1 3 3 = 1) (hb1 : M.1 6 3 = 0 ∨ M.1 6 3 = 1) (hp0 : M.1 3 3 = 1 → ∀ k : Nat, k < 6 → isP (M.1 5 k)) (hp1 : M.1 6 3 = 1 → ∀ k : Nat, k < 6 → isP (M.1 8 k)) : mx_Met l G yX7_begin cX7_begin 2 ((some FieldType.int)) 2 80 [.ref 0, .int 1] M (fun r M' => (bgC M ∧ r = some (.int (M.1 19 0 + 1)) ∧ M' = bgM M 1) ∨ (¬ bgC M ∧ r = some (.int (-1)) ∧ M' = M)) := by
  refine mx_enter (own := RX7) (L := [.ref 0, .int 1]) (by decide +kernel) rfl rfl rfl ?_
  intro X hlX hX hR hT
  refine r_iload_n 1 hX dX7_begin_0 rfl ?_
  refine r_cS1F 4 hX hR tX7_isTeam_1 dX7_begin_1 kX7_isTeam lX7_83 rfl rfl rfl ?_
  refine r_if_eq 7 28 hX dX7_begin_4 (fun c => absurd c (by decide)) (fun _ => ?_)
  refine r_aload_n 8 hX dX7_begin_7 rfl ?_
  refine r_getR 11 hX dX7_begin_8 fX7_39 rfl rfl rfl ?_
  refine r_getI 14 hX dX7_begin_11 fX7_102 rfl rfl rfl ?_
  refine r_if_ne 17 28 hX dX7_begin_14 (fun c1 => ?_) (fun c1 => ?_)
  · refine r_iconst 29 hX dX7_begin_28 (v := -1) (by decide) ?_
    refine r_iret hX hT dX7_begin_29 ?_
    exact Or.inr ⟨fun h => by first | exact c1 h.1.1 | exact c2 h.1.2, rfl, rfl⟩
  · refine r_aload_n 18 hX dX7_begin_17 rfl ?_
    refine r_getR 21 hX dX7_begin_18 fX7_39 rfl rfl rfl ?_
    refine r_getI 24 hX dX7_begin_21 fX7_124 rfl rfl rfl ?_
    refine r_iconst 25 hX dX7_begin_24 (v := -1) (by decide) ?_
    refine r_icmp_eq 28 30 hX dX7_begin_25 (fun c2 => ?_) (fun c2 => ?_)
    · refine r_aload_n 31 hX dX7_begin_30 rfl ?_
      refine r_getR 34 hX dX7_begin_31 fX7_19 rfl rfl rfl ?_
      refine r_cV0F 37 hX hR (tX4_isReady_3 hb0) dX7_begin_34 kX4_isReady lX7_139 rfl rfl rfl rfl rfl rfl ?_
      refine r_Beq 40 50 hX dX7_begin_37 (fun c3 => ?_) (fun c3 => ?_)
      · refine r_iconst 51 hX dX7_begin_50 (v := -1) (by decide) ?_
        refine r_iret hX hT dX7_begin_51 ?_
        exact Or.inr ⟨fun h => by first | exact c3 h.2.1 | exact c4 h.2.2, rfl, rfl⟩
      · refine r_aload_n 41 hX dX7_begin_40 rfl ?_
        refine r_getR 44 hX dX7_begin_41 fX7_23 rfl rfl rfl ?_
        refine r_cV0F 47 hX hR (tX4_isReady_6 hb1) dX7_begin_44 kX4_isReady lX7_139 rfl rfl rfl rfl rfl rfl ?_
        refine r_Bne 50 52 hX dX7_begin_47 (fun c4 => ?_) (fun c4 => ?_)
        · refine r_aload_n 53 hX dX7_begin_52 rfl ?_
          refine r_getR 56 hX dX7_begin_53 fX7_29 rfl rfl rfl ?_
          refine r_aload_n 57 hX dX7_begin_56 rfl ?_
          refine r_getR 60 hX dX7_begin_57 fX7_19 rfl rfl rfl ?_
          refine r_cV1U 63 hX hR (tX2_startSet_9 (hp0 c3.1)) dX7_begin_60 kX2_startSet lX7_143 rfl rfl rfl rfl rfl rfl ?_
          refine r_aload_n 64 hX dX7_begin_63 rfl ?_
          refine r_getR 67 hX dX7_begin_64 fX7_33 rfl rfl rfl ?_
          refine r_aload_n 68 hX dX7_begin_67 rfl ?_
          refine r_getR 71 hX dX7_begin_68 fX7_23 rfl rfl rfl ?_
          refine r_cV1U 74 hX hR (tX2_startSet_14 (fun k hk => by rw [bgS_ne M (by decide)]; exact hp1 c4.1 k hk)) dX7_begin_71 kX2_startSet lX7_143 rfl rfl rfl rfl rfl rfl ?_
          refine r_aload_n 75 hX dX7_begin_74 rfl ?_
          refine r_getR 78 hX dX7_begin_75 fX7_19 rfl rfl rfl ?_
          refine r_iconst 79 hX dX7_begin_78 (v := 0) (by decide) ?_
          refine r_putZ 82 hX dX7_begin_79 fX7_147 fp4_3 rfl rfl rfl (by first | assumption | decide) ?_
          refine r_aload_n 83 hX dX7_begin_82 rfl ?_
          refine r_getR 86 hX dX7_begin_83 fX7_23 rfl rfl rfl ?_
          refine r_iconst 87 hX dX7_begin_86 (v := 0) (by decide) ?_
          refine r_putZ 90 hX dX7_begin_87 fX7_147 fp4_3 rfl rfl rfl (by first | assumption | decide) ?_
          refine r_aload_n 91 hX dX7_begin_90 rfl ?_
          refine r_getR 94 hX dX7_begin_91 fX7_55 rfl rfl rfl ?_
          refine r_cV0U 97 hX hR tX5_stand_31 dX7_begin_94 kX5_stand lX7_150 rfl rfl rfl rfl rfl rfl ?_
          refine r_aload_n 98 hX dX7_begin_97 rfl ?_
          refine r_getR 101 hX dX7_begin_98 fX7_59 rfl rfl rfl ?_
          refine r_cV0U 104 hX hR tX5_stand_34 dX7_begin_101 kX5_stand lX7_150 rfl rfl rfl rfl rfl rfl ?_
          refine r_aload_n 105 hX dX7_begin_104 rfl ?_
          refine r_getR 108 hX dX7_begin_105 fX7_39 rfl rfl rfl ?_
          refine r_iload_n 109 hX dX7_begin_108 rfl ?_
          refine r_cV1U 112 hX hR tX1_startSet dX7_begin_109 kX1_startSet lX7_153 rfl rfl rfl rfl rfl rfl ?_
          refine r_aload_n 113 hX dX7_begin_112 rfl ?_
          refine r_getR 116 hX dX7_begin_113 fX7_39 rfl rfl rfl ?_
          refine r_getI 119 hX dX7_begin_116 fX7_109 rfl rfl rfl ?_
          refine r_iret hX hT dX7_begin_119 ?_
          exact Or.inl ⟨⟨⟨c1, c2⟩, c3, c4⟩, congrArg (fun z => some (Value.int z)) (bgM_num M 1), rfl⟩
        · refine r_iconst 51 hX dX7_begin_50 (v := -1) (by decide) ?_
          refine r_iret hX hT dX7_begin_51 ?_
          exact Or.inr ⟨fun h => by first | exact c3 h.2.1 | exact c4 h.2.2, rfl, rfl⟩
    · refine r_iconst 29 hX dX7_begin_28 (v := -1) (by decide) ?_
      refine r_iret hX hT dX7_begin_29 ?_
      exact Or.inr ⟨fun h => by first | exact c1 h.1.1 | exact c2 h.1.2, rfl, rfl⟩
def ofR (M : mx_Mem) (c : Nat) (t : Int32) (k : Nat) : Int32 := match k with
  | 0 => M.1 c 7
  | 1 => M.1 c 8
  | 2 => M.1 c 9
  | 3 => M.1 c 10
  | 4 => if 0 ≤ M.1 c 5 ∧ ¬ 6 ≤ M.1 c 5 then M.1 (c + 1) (M.1 c 5).toNatClampNeg else -1
  | 5 => if t = M.1 19 2 then M.1 19 3 else 0
  | 6 => M.1 c 11
  | _ => -1
set_option maxRecDepth 100000 in
set_option maxHeartbeats 4000000 in
theorem tX7_of_0_0 {l : Launch} {G : mx_G} {M : mx_Mem} : mx_Met l G yX7_of cX7_of 4 ((some FieldType.int)) 1 21 [.ref 0, .int 0, .int 0] M (mx_F (some (.int (ofR M 9 0 0))) M) := by
  refine mx_enter (own := RX7) (L := [.ref 0, .int 0, .int 0, .null]) (by decide +kernel) rfl rfl rfl ?_
  intro X hlX hX hR hT
  refine r_iload_n 1 hX dX7_of_0 rfl ?_
  refine r_cS1F 4 hX hR tX7_isTeam_0 dX7_of_1 kX7_isTeam lX7_83 rfl rfl rfl ?_
  refine r_if_ne 7 9 hX dX7_of_4 (fun _ => ?_) (fun c => absurd c (by decide))
  refine r_aload_n 10 hX dX7_of_9 rfl ?_
  refine r_iload_n 11 hX dX7_of_10 rfl ?_
  refine r_cV1F 14 hX hR tX7_courtOf_0 dX7_of_11 kX7_courtOf lX7_159 rfl rfl rfl rfl rfl rfl ?_
  refine r_astore_n 15 hX dX7_of_14 rfl ?_
  refine r_iload_n 16 hX dX7_of_15 rfl ?_
  refine r_tableIn 60 hX dX7_of_16 (off := 44) (by decide) (by decide) rfl ?_
  refine r_aload_n 61 hX dX7_of_60 rfl ?_
  refine r_getI 64 hX dX7_of_61 fX7_202 rfl rfl rfl ?_
  refine r_iret hX hT dX7_of_64 ?_
  exact ⟨by simp [ofR, *], rfl⟩
set_option maxRecDepth 100000 in
set_option maxHeartbeats 4000000 in
theorem tX7_of_0_1 {l : Launch} {G : mx_G} {M : mx_Mem} : mx_Met l G yX7_of cX7_of 4 ((some FieldType.int)) 1 21 [.ref 0, .int 0, .int 1] M (mx_F (some (.int (ofR M 9 0 1))) M) := by
  refine mx_enter (own := RX7) (L := [.ref 0, .int 0, .int 1, .null]) (by decide +kernel) rfl rfl rfl ?_
  intro X hlX hX hR hT
  refine r_iload_n 1 hX dX7_of_0 rfl ?_
  refine r_cS1F 4 hX hR tX7_isTeam_0 dX7_of_1 kX7_isTeam lX7_83 rfl rfl rfl ?_
  refine r_if_ne 7 9 hX dX7_of_4 (fun _ => ?_) (fun c => absurd c (by decide))
  refine r_aload_n 10 hX dX7_of_9 rfl ?_
  refine r_iload_n 11 hX dX7_of_10 rfl ?_
  refine r_cV1F 14 hX hR tX7_courtOf_0 dX7_of_11 kX7_courtOf lX7_159 rfl rfl rfl rfl rfl rfl ?_
  refine r_astore_n 15 hX dX7_of_14 rfl ?_
  refine r_iload_n 16 hX dX7_of_15 rfl ?_
  refine r_tableIn 65 hX dX7_of_16 (off := 49) (by decide) (by decide) rfl ?_
  refine r_aload_n 66 hX dX7_of_65 rfl ?_
  refine r_getI 69 hX dX7_of_66 fX7_208 rfl rfl rfl ?_
  refine r_iret hX hT dX7_of_69 ?_
  exact ⟨by simp [ofR, *], rfl⟩
set_option maxRecDepth 100000 in
set_option maxHeartbeats 4000000 in
theorem tX7_of_0_2 {l : Launch} {G : mx_G} {M : mx_Mem} : mx_Met l G yX7_of cX7_of 4 ((some FieldType.int)) 1 21 [.ref 0, .int 0, .int 2] M (mx_F (some (.int (ofR M 9 0 2))) M) := by
  refine mx_enter (own := RX7) (L := [.ref 0, .int 0, .int 2, .null]) (by decide +kernel) rfl rfl rfl ?_
  intro X hlX hX hR hT
  refine r_iload_n 1 hX dX7_of_0 rfl ?_
  refine r_cS1F 4 hX hR tX7_isTeam_0 dX7_of_1 kX7_isTeam lX7_83 rfl rfl rfl ?_
  refine r_if_ne 7 9 hX dX7_of_4 (fun _ => ?_) (fun c => absurd c (by decide))
  refine r_aload_n 10 hX dX7_of_9 rfl ?_
  refine r_iload_n 11 hX dX7_of_10 rfl ?_
  refine r_cV1F 14 hX hR tX7_courtOf_0 dX7_of_11 kX7_courtOf lX7_159 rfl rfl rfl rfl rfl rfl ?_
  refine r_astore_n 15 hX dX7_of_14 rfl ?_
  refine r_iload_n 16 hX dX7_of_15 rfl ?_
  refine r_tableIn 70 hX dX7_of_16 (off := 54) (by decide) (by decide) rfl ?_
  refine r_aload_n 71 hX dX7_of_70 rfl ?_
  refine r_getI 74 hX dX7_of_71 fX7_169 rfl rfl rfl ?_
  refine r_iret hX hT dX7_of_74 ?_
  exact ⟨by simp [ofR, *], rfl⟩
set_option maxRecDepth 100000 in
set_option maxHeartbeats 4000000 in
theorem tX7_of_0_3 {l : Launch} {G : mx_G} {M : mx_Mem} : mx_Met l G yX7_of cX7_of 4 ((some FieldType.int)) 1 21 [.ref 0, .int 0, .int 3] M (mx_F (some (.int (ofR M 9 0 3))) M) := by
  refine mx_enter (own := RX7) (L := [.ref 0, .int 0, .int 3, .null]) (by decide +kernel) rfl rfl rfl ?_
  intro X hlX hX hR hT
  refine r_iload_n 1 hX dX7_of_0 rfl ?_
  refine r_cS1F 4 hX hR tX7_isTeam_0 dX7_of_1 kX7_isTeam lX7_83 rfl rfl rfl ?_
  refine r_if_ne 7 9 hX dX7_of_4 (fun _ => ?_) (fun c => absurd c (by decide))
  refine r_aload_n 10 hX dX7_of_9 rfl ?_
  refine r_iload_n 11 hX dX7_of_10 rfl ?_
  refine r_cV1F 14 hX hR tX7_courtOf_0 dX7_of_11 kX7_courtOf lX7_159 rfl rfl rfl rfl rfl rfl ?_
  refine r_astore_n 15 hX dX7_of_14 rfl ?_
  refine r_iload_n 16 hX dX7_of_15 rfl ?_
  refine r_tableIn 75 hX dX7_of_16 (off := 59) (by decide) (by decide) rfl ?_
  refine r_aload_n 76 hX dX7_of_75 rfl ?_
  refine r_getI 79 hX dX7_of_76 fX7_193 rfl rfl rfl ?_
  refine r_iret hX hT dX7_of_79 ?_
  exact ⟨by simp [ofR, *], rfl⟩
set_option maxRecDepth 100000 in
set_option maxHeartbeats 4000000 in
theorem tX7_of_0_4 {l : Launch} {G : mx_G} {M : mx_Mem} : mx_Met l G yX7_of cX7_of 4 ((some FieldType.int)) 1 21 [.ref 0, .int 0, .int 4] M (mx_F (some (.int (ofR M 9 0 4))) M) := by
  refine mx_enter (own := RX7) (L := [.ref 0, .int 0, .int 4, .null]) (by decide +kernel) rfl rfl rfl ?_
  intro X hlX hX hR hT
  refine r_iload_n 1 hX dX7_of_0 rfl ?_
  refine r_cS1F 4 hX hR tX7_isTeam_0 dX7_of_1 kX7_isTeam lX7_83 rfl rfl rfl ?_
  refine r_if_ne 7 9 hX dX7_of_4 (fun _ => ?_) (fun c => absurd c (by decide))
  refine r_aload_n 10 hX dX7_of_9 rfl ?_
  refine r_iload_n 11 hX dX7_of_10 rfl ?_
  refine r_cV1F 14 hX hR tX7_courtOf_0 dX7_of_11 kX7_courtOf lX7_159 rfl rfl rfl rfl rfl rfl ?_
  refine r_astore_n 15 hX dX7_of_14 rfl ?_
  refine r_iload_n 16 hX dX7_of_15 rfl ?_
  refine r_tableIn 80 hX dX7_of_16 (off := 64) (by decide) (by decide) rfl ?_
  refine r_aload_n 81 hX dX7_of_80 rfl ?_
  refine r_cV0F 84 hX hR tX2_freeStandsFor_9 dX7_of_81 kX2_freeStandsFor lX7_211 rfl rfl rfl rfl rfl rfl ?_
  refine r_iret hX hT dX7_of_84 ?_
  exact ⟨by simp [ofR, *], rfl⟩
set_option maxRecDepth 100000 in
set_option maxHeartbeats 4000000 in
theorem tX7_of_0_5 {l : Launch} {G : mx_G} {M : mx_Mem} : mx_Met l G yX7_of cX7_of 4 ((some FieldType.int)) 1 21 [.ref 0, .int 0, .int 5] M (mx_F (some (.int (ofR M 9 0 5))) M) := by
  refine mx_enter (own := RX7) (L := [.ref 0, .int 0, .int 5, .null]) (by decide +kernel) rfl rfl rfl ?_
  intro X hlX hX hR hT
  refine r_iload_n 1 hX dX7_of_0 rfl ?_
  refine r_cS1F 4 hX hR tX7_isTeam_0 dX7_of_1 kX7_isTeam lX7_83 rfl rfl rfl ?_
  refine r_if_ne 7 9 hX dX7_of_4 (fun _ => ?_) (fun c => absurd c (by decide))
  refine r_aload_n 10 hX dX7_of_9 rfl ?_
  refine r_iload_n 11 hX dX7_of_10 rfl ?_
  refine r_cV1F 14 hX hR tX7_courtOf_0 dX7_of_11 kX7_courtOf lX7_159 rfl rfl rfl rfl rfl rfl ?_
  refine r_astore_n 15 hX dX7_of_14 rfl ?_
  refine r_iload_n 16 hX dX7_of_15 rfl ?_
  refine r_tableIn 85 hX dX7_of_16 (off := 69) (by decide) (by decide) rfl ?_
  refine r_iload_n 86 hX dX7_of_85 rfl ?_
  refine r_aload_n 87 hX dX7_of_86 rfl ?_
  refine r_getR 90 hX dX7_of_87 fX7_39 rfl rfl rfl ?_
  refine r_getI 93 hX dX7_of_90 fX7_199 rfl rfl rfl ?_
  refine r_icmp_ne 96 106 hX dX7_of_93 (fun c1 => ?_) (fun c1 => ?_)
  · refine r_iconst 107 hX dX7_of_106 (v := 0) (by decide) ?_
    refine r_iret hX hT dX7_of_107 ?_
    exact ⟨by simp [ofR, *], rfl⟩
  · refine r_aload_n 97 hX dX7_of_96 rfl ?_
    refine r_getR 100 hX dX7_of_97 fX7_39 rfl rfl rfl ?_
    refine r_getI 103 hX dX7_of_100 fX7_196 rfl rfl rfl ?_
    refine r_goto 107 hX dX7_of_103 ?_
    refine r_iret hX hT dX7_of_107 ?_
    exact ⟨by simp [ofR, *], rfl⟩
set_option maxRecDepth 100000 in
set_option maxHeartbeats 4000000 in
theorem tX7_of_0_6 {l : Launch} {G : mx_G} {M : mx_Mem} : mx_Met l G yX7_of cX7_of 4 ((some FieldType.int)) 1 21 [.ref 0, .int 0, .int 6] M (mx_F (some (.int (ofR M 9 0 6))) M) := by
  refine mx_enter (own := RX7) (L := [.ref 0, .int 0, .int 6, .null]) (by decide +kernel) rfl rfl rfl ?_
  intro X hlX hX hR hT
  refine r_iload_n 1 hX dX7_of_0 rfl ?_
  refine r_cS1F 4 hX hR tX7_isTeam_0 dX7_of_1 kX7_isTeam lX7_83 rfl rfl rfl ?_
  refine r_if_ne 7 9 hX dX7_of_4 (fun _ => ?_) (fun c => absurd c (by decide))
  refine r_aload_n 10 hX dX7_of_9 rfl ?_
  refine r_iload_n 11 hX dX7_of_10 rfl ?_
  refine r_cV1F 14 hX hR tX7_courtOf_0 dX7_of_11 kX7_courtOf lX7_159 rfl rfl rfl rfl rfl rfl ?_
  refine r_astore_n 15 hX dX7_of_14 rfl ?_
  refine r_iload_n 16 hX dX7_of_15 rfl ?_
  refine r_tableIn 108 hX dX7_of_16 (off := 92) (by decide) (by decide) rfl ?_
  refine r_aload_n 109 hX dX7_of_108 rfl ?_
  refine r_getI 112 hX dX7_of_109 fX7_214 rfl rfl rfl ?_
  refine r_iret hX hT dX7_of_112 ?_
  exact ⟨by simp [ofR, *], rfl⟩
set_option maxRecDepth 100000 in
set_option maxHeartbeats 4000000 in
theorem tX7_of_1_0 {l : Launch} {G : mx_G} {M : mx_Mem} : mx_Met l G yX7_of cX7_of 4 ((some FieldType.int)) 1 21 [.ref 0, .int 1, .int 0] M (mx_F (some (.int (ofR M 14 1 0))) M) := by
  refine mx_enter (own := RX7) (L := [.ref 0, .int 1, .int 0, .null]) (by decide +kernel) rfl rfl rfl ?_
  intro X hlX hX hR hT
  refine r_iload_n 1 hX dX7_of_0 rfl ?_
  refine r_cS1F 4 hX hR tX7_isTeam_1 dX7_of_1 kX7_isTeam lX7_83 rfl rfl rfl ?_
  refine r_if_ne 7 9 hX dX7_of_4 (fun _ => ?_) (fun c => absurd c (by decide))
  refine r_aload_n 10 hX dX7_of_9 rfl ?_
  refine r_iload_n 11 hX dX7_of_10 rfl ?_
  refine r_cV1F 14 hX hR tX7_courtOf_1 dX7_of_11 kX7_courtOf lX7_159 rfl rfl rfl rfl rfl rfl ?_
  refine r_astore_n 15 hX dX7_of_14 rfl ?_
  refine r_iload_n 16 hX dX7_of_15 rfl ?_
  refine r_tableIn 60 hX dX7_of_16 (off := 44) (by decide) (by decide) rfl ?_
  refine r_aload_n 61 hX dX7_of_60 rfl ?_
  refine r_getI 64 hX dX7_of_61 fX7_202 rfl rfl rfl ?_
  refine r_iret hX hT dX7_of_64 ?_
  exact ⟨by simp [ofR, *], rfl⟩
set_option maxRecDepth 100000 in
set_option maxHeartbeats 4000000 in
theorem tX7_of_1_1 {l : Launch} {G : mx_G} {M : mx_Mem} : mx_Met l G yX7_of cX7_of 4 ((some FieldType.int)) 1 21 [.ref 0, .int 1, .int 1] M (mx_F (some (.int (ofR M 14 1 1))) M) := by
  refine mx_enter (own := RX7) (L := [.ref 0, .int 1, .int 1, .null]) (by decide +kernel) rfl rfl rfl ?_
  intro X hlX hX hR hT
  refine r_iload_n 1 hX dX7_of_0 rfl ?_
  refine r_cS1F 4 hX hR tX7_isTeam_1 dX7_of_1 kX7_isTeam lX7_83 rfl rfl rfl ?_
  refine r_if_ne 7 9 hX dX7_of_4 (fun _ => ?_) (fun c => absurd c (by decide))
  refine r_aload_n 10 hX dX7_of_9 rfl ?_
  refine r_iload_n 11 hX dX7_of_10 rfl ?_
  refine r_cV1F 14 hX hR tX7_courtOf_1 dX7_of_11 kX7_courtOf lX7_159 rfl rfl rfl rfl rfl rfl ?_
  refine r_astore_n 15 hX dX7_of_14 rfl ?_
  refine r_iload_n 16 hX dX7_of_15 rfl ?_
  refine r_tableIn 65 hX dX7_of_16 (off := 49) (by decide) (by decide) rfl ?_
  refine r_aload_n 66 hX dX7_of_65 rfl ?_
  refine r_getI 69 hX dX7_of_66 fX7_208 rfl rfl rfl ?_
  refine r_iret hX hT dX7_of_69 ?_
  exact ⟨by simp [ofR, *], rfl⟩
set_option maxRecDepth 100000 in
set_option maxHeartbeats 4000000 in
theorem tX7_of_1_2 {l : Launch} {G : mx_G} {M : mx_Mem} : mx_Met l G yX7_of cX7_of 4 ((some FieldType.int)) 1 21 [.ref 0, .int 1, .int 2] M (mx_F (some (.int (ofR M 14 1 2))) M) := by
  refine mx_enter (own := RX7) (L := [.ref 0, .int 1, .int 2, .null]) (by decide +kernel) rfl rfl rfl ?_
  intro X hlX hX hR hT
  refine r_iload_n 1 hX dX7_of_0 rfl ?_
  refine r_cS1F 4 hX hR tX7_isTeam_1 dX7_of_1 kX7_isTeam lX7_83 rfl rfl rfl ?_
  refine r_if_ne 7 9 hX dX7_of_4 (fun _ => ?_) (fun c => absurd c (by decide))
  refine r_aload_n 10 hX dX7_of_9 rfl ?_
  refine r_iload_n 11 hX dX7_of_10 rfl ?_
  refine r_cV1F 14 hX hR tX7_courtOf_1 dX7_of_11 kX7_courtOf lX7_159 rfl rfl rfl rfl rfl rfl ?_
  refine r_astore_n 15 hX dX7_of_14 rfl ?_
  refine r_iload_n 16 hX dX7_of_15 rfl ?_
  refine r_tableIn 70 hX dX7_of_16 (off := 54) (by decide) (by decide) rfl ?_
  refine r_aload_n 71 hX dX7_of_70 rfl ?_
  refine r_getI 74 hX dX7_of_71 fX7_169 rfl rfl rfl ?_
  refine r_iret hX hT dX7_of_74 ?_
  exact ⟨by simp [ofR, *], rfl⟩
set_option maxRecDepth 100000 in
set_option maxHeartbeats 4000000 in
theorem tX7_of_1_3 {l : Launch} {G : mx_G} {M : mx_Mem} : mx_Met l G yX7_of cX7_of 4 ((some FieldType.int)) 1 21 [.ref 0, .int 1, .int 3] M (mx_F (some (.int (ofR M 14 1 3))) M) := by
  refine mx_enter (own := RX7) (L := [.ref 0, .int 1, .int 3, .null]) (by decide +kernel) rfl rfl rfl ?_
  intro X hlX hX hR hT
  refine r_iload_n 1 hX dX7_of_0 rfl ?_
  refine r_cS1F 4 hX hR tX7_isTeam_1 dX7_of_1 kX7_isTeam lX7_83 rfl rfl rfl ?_
  refine r_if_ne 7 9 hX dX7_of_4 (fun _ => ?_) (fun c => absurd c (by decide))
  refine r_aload_n 10 hX dX7_of_9 rfl ?_
  refine r_iload_n 11 hX dX7_of_10 rfl ?_
  refine r_cV1F 14 hX hR tX7_courtOf_1 dX7_of_11 kX7_courtOf lX7_159 rfl rfl rfl rfl rfl rfl ?_
  refine r_astore_n 15 hX dX7_of_14 rfl ?_
  refine r_iload_n 16 hX dX7_of_15 rfl ?_
  refine r_tableIn 75 hX dX7_of_16 (off := 59) (by decide) (by decide) rfl ?_
  refine r_aload_n 76 hX dX7_of_75 rfl ?_
  refine r_getI 79 hX dX7_of_76 fX7_193 rfl rfl rfl ?_
  refine r_iret hX hT dX7_of_79 ?_
  exact ⟨by simp [ofR, *], rfl⟩
set_option maxRecDepth 100000 in
set_option maxHeartbeats 4000000 in
theorem tX7_of_1_4 {l : Launch} {G : mx_G} {M : mx_Mem} : mx_Met l G yX7_of cX7_of 4 ((some FieldType.int)) 1 21 [.ref 0, .int 1, .int 4] M (mx_F (some (.int (ofR M 14 1 4))) M) := by
  refine mx_enter (own := RX7) (L := [.ref 0, .int 1, .int 4, .null]) (by decide +kernel) rfl rfl rfl ?_
  intro X hlX hX hR hT
  refine r_iload_n 1 hX dX7_of_0 rfl ?_
  refine r_cS1F 4 hX hR tX7_isTeam_1 dX7_of_1 kX7_isTeam lX7_83 rfl rfl rfl ?_
  refine r_if_ne 7 9 hX dX7_of_4 (fun _ => ?_) (fun c => absurd c (by decide))
  refine r_aload_n 10 hX dX7_of_9 rfl ?_
  refine r_iload_n 11 hX dX7_of_10 rfl ?_
  refine r_cV1F 14 hX hR tX7_courtOf_1 dX7_of_11 kX7_courtOf lX7_159 rfl rfl rfl rfl rfl rfl ?_
  refine r_astore_n 15 hX dX7_of_14 rfl ?_
  refine r_iload_n 16 hX dX7_of_15 rfl ?_
  refine r_tableIn 80 hX dX7_of_16 (off := 64) (by decide) (by decide) rfl ?_
  refine r_aload_n 81 hX dX7_of_80 rfl ?_
  refine r_cV0F 84 hX hR tX2_freeStandsFor_14 dX7_of_81 kX2_freeStandsFor lX7_211 rfl rfl rfl rfl rfl rfl ?_
  refine r_iret hX hT dX7_of_84 ?_
  exact ⟨by simp [ofR, *], rfl⟩
set_option maxRecDepth 100000 in
set_option maxHeartbeats 4000000 in
theorem tX7_of_1_5 {l : Launch} {G : mx_G} {M : mx_Mem} : mx_Met l G yX7_of cX7_of 4 ((some FieldType.int)) 1 21 [.ref 0, .int 1, .int 5] M (mx_F (some (.int (ofR M 14 1 5))) M) := by
  refine mx_enter (own := RX7) (L := [.ref 0, .int 1, .int 5, .null]) (by decide +kernel) rfl rfl rfl ?_
  intro X hlX hX hR hT
  refine r_iload_n 1 hX dX7_of_0 rfl ?_
  refine r_cS1F 4 hX hR tX7_isTeam_1 dX7_of_1 kX7_isTeam lX7_83 rfl rfl rfl ?_
  refine r_if_ne 7 9 hX dX7_of_4 (fun _ => ?_) (fun c => absurd c (by decide))
  refine r_aload_n 10 hX dX7_of_9 rfl ?_
  refine r_iload_n 11 hX dX7_of_10 rfl ?_
  refine r_cV1F 14 hX hR tX7_courtOf_1 dX7_of_11 kX7_courtOf lX7_159 rfl rfl rfl rfl rfl rfl ?_
  refine r_astore_n 15 hX dX7_of_14 rfl ?_
  refine r_iload_n 16 hX dX7_of_15 rfl ?_
  refine r_tableIn 85 hX dX7_of_16 (off := 69) (by decide) (by decide) rfl ?_
  refine r_iload_n 86 hX dX7_of_85 rfl ?_
  refine r_aload_n 87 hX dX7_of_86 rfl ?_
  refine r_getR 90 hX dX7_of_87 fX7_39 rfl rfl rfl ?_
  refine r_getI 93 hX dX7_of_90 fX7_199 rfl rfl rfl ?_
  refine r_icmp_ne 96 106 hX dX7_of_93 (fun c1 => ?_) (fun c1 => ?_)
  · refine r_iconst 107 hX dX7_of_106 (v := 0) (by decide) ?_
    refine r_iret hX hT dX7_of_107 ?_
    exact ⟨by simp [ofR, *], rfl⟩
  · refine r_aload_n 97 hX dX7_of_96 rfl ?_
    refine r_getR 100 hX dX7_of_97 fX7_39 rfl rfl rfl ?_
    refine r_getI 103 hX dX7_of_100 fX7_196 rfl rfl rfl ?_
    refine r_goto 107 hX dX7_of_103 ?_
    refine r_iret hX hT dX7_of_107 ?_
    exact ⟨by simp [ofR, *], rfl⟩
set_option maxRecDepth 100000 in
set_option maxHeartbeats 4000000 in
theorem tX7_of_1_6 {l : Launch} {G : mx_G} {M : mx_Mem} : mx_Met l G yX7_of cX7_of 4 ((some FieldType.int)) 1 21 [.ref 0, .int 1, .int 6] M (mx_F (some (.int (ofR M 14 1 6))) M) := by
  refine mx_enter (own := RX7) (L := [.ref 0, .int 1, .int 6, .null]) (by decide +kernel) rfl rfl rfl ?_
  intro X hlX hX hR hT
  refine r_iload_n 1 hX dX7_of_0 rfl ?_
  refine r_cS1F 4 hX hR tX7_isTeam_1 dX7_of_1 kX7_isTeam lX7_83 rfl rfl rfl ?_
  refine r_if_ne 7 9 hX dX7_of_4 (fun _ => ?_) (fun c => absurd c (by decide))
  refine r_aload_n 10 hX dX7_of_9 rfl ?_
  refine r_iload_n 11 hX dX7_of_10 rfl ?_
  refine r_cV1F 14 hX hR tX7_courtOf_1 dX7_of_11 kX7_courtOf lX7_159 rfl rfl rfl rfl rfl rfl ?_
  refine r_astore_n 15 hX dX7_of_14 rfl ?_
  refine r_iload_n 16 hX dX7_of_15 rfl ?_
  refine r_tableIn 108 hX dX7_of_16 (off := 92) (by decide) (by decide) rfl ?_
  refine r_aload_n 109 hX dX7_of_108 rfl ?_
  refine r_getI 112 hX dX7_of_109 fX7_214 rfl rfl rfl ?_
  refine r_iret hX hT dX7_of_112 ?_
  exact ⟨by simp [ofR, *], rfl⟩
set_option maxRecDepth 100000 in
set_option maxHeartbeats 4000000 in
theorem tX7_of_0_n {l : Launch} {G : mx_G} {w : Int32} {M : mx_Mem} (hw : w.toInt < 0 ∨ (6 : Int) < w.toInt) : mx_Met l G yX7_of cX7_of 4 ((some FieldType.int)) 1 21 [.ref 0, .int 0, .int w] M (mx_F (some (.int (-1))) M) := by
  refine mx_enter (own := RX7) (L := [.ref 0, .int 0, .int w, .null]) (by decide +kernel) rfl rfl rfl ?_
  intro X hlX hX hR hT
  refine r_iload_n 1 hX dX7_of_0 rfl ?_
  refine r_cS1F 4 hX hR tX7_isTeam_0 dX7_of_1 kX7_isTeam lX7_83 rfl rfl rfl ?_
  refine r_if_ne 7 9 hX dX7_of_4 (fun _ => ?_) (fun c => absurd c (by decide))
  refine r_aload_n 10 hX dX7_of_9 rfl ?_
  refine r_iload_n 11 hX dX7_of_10 rfl ?_
  refine r_cV1F 14 hX hR tX7_courtOf_0 dX7_of_11 kX7_courtOf lX7_159 rfl rfl rfl rfl rfl rfl ?_
  refine r_astore_n 15 hX dX7_of_14 rfl ?_
  refine r_iload_n 16 hX dX7_of_15 rfl ?_
  refine r_tableOut 113 hX dX7_of_16 hw ?_
  refine r_iconst 114 hX dX7_of_113 (v := -1) (by decide) ?_
  refine r_iret hX hT dX7_of_114 ?_
  exact ⟨rfl, rfl⟩
set_option maxRecDepth 100000 in
set_option maxHeartbeats 4000000 in
theorem tX7_of_1_n {l : Launch} {G : mx_G} {w : Int32} {M : mx_Mem} (hw : w.toInt < 0 ∨ (6 : Int) < w.toInt) : mx_Met l G yX7_of cX7_of 4 ((some FieldType.int)) 1 21 [.ref 0, .int 1, .int w] M (mx_F (some (.int (-1))) M) := by
  refine mx_enter (own := RX7) (L := [.ref 0, .int 1, .int w, .null]) (by decide +kernel) rfl rfl rfl ?_
  intro X hlX hX hR hT
  refine r_iload_n 1 hX dX7_of_0 rfl ?_
  refine r_cS1F 4 hX hR tX7_isTeam_1 dX7_of_1 kX7_isTeam lX7_83 rfl rfl rfl ?_
  refine r_if_ne 7 9 hX dX7_of_4 (fun _ => ?_) (fun c => absurd c (by decide))
  refine r_aload_n 10 hX dX7_of_9 rfl ?_
  refine r_iload_n 11 hX dX7_of_10 rfl ?_
  refine r_cV1F 14 hX hR tX7_courtOf_1 dX7_of_11 kX7_courtOf lX7_159 rfl rfl rfl rfl rfl rfl ?_
  refine r_astore_n 15 hX dX7_of_14 rfl ?_
  refine r_iload_n 16 hX dX7_of_15 rfl ?_
  refine r_tableOut 113 hX dX7_of_16 hw ?_
  refine r_iconst 114 hX dX7_of_113 (v := -1) (by decide) ?_
  refine r_iret hX hT dX7_of_114 ?_
  exact ⟨rfl, rfl⟩
def cnR (M : mx_Mem) (k : Nat) : Int32 := match k with
  | 0 => M.1 19 0
  | 1 => if M.1 19 1 = 0 then 0 else 1
  | 2 => if M.1 19 1 = 0 then -1 else M.1 19 2
  | 3 => M.1 19 4
  | 4 => M.1 19 6
  | 5 => M.1 0 13
  | 6 => M.1 37 1
  | 7 => M.1 19 5
  | _ => -1
set_option maxRecDepth 100000 in
set_option maxHeartbeats 4000000 in
theorem tX7_count_0 {l : Launch} {G : mx_G} {M : mx_Mem} : mx_Met l G yX7_count cX7_count 2 ((some FieldType.int)) 0 0 [.ref 0, .int 0] M (mx_F (some (.int (cnR M 0))) M) := by
  refine mx_enter (own := RX7) (L := [.ref 0, .int 0]) (by decide +kernel) rfl rfl rfl ?_
  intro X hlX hX hR hT
  refine r_iload_n 1 hX dX7_count_0 rfl ?_
  refine r_tableIn 48 hX dX7_count_1 (off := 47) (by decide) (by decide) rfl ?_
  refine r_aload_n 49 hX dX7_count_48 rfl ?_
  refine r_getR 52 hX dX7_count_49 fX7_39 rfl rfl rfl ?_
  refine r_getI 55 hX dX7_count_52 fX7_109 rfl rfl rfl ?_
  refine r_iret hX hT dX7_count_55 ?_
  exact ⟨by simp [cnR, *], rfl⟩
set_option maxRecDepth 100000 in
set_option maxHeartbeats 4000000 in
theorem tX7_count_1 {l : Launch} {G : mx_G} {M : mx_Mem} : mx_Met l G yX7_count cX7_count 2 ((some FieldType.int)) 0 0 [.ref 0, .int 1] M (mx_F (some (.int (cnR M 1))) M) := by
  refine mx_enter (own := RX7) (L := [.ref 0, .int 1]) (by decide +kernel) rfl rfl rfl ?_
  intro X hlX hX hR hT
  refine r_iload_n 1 hX dX7_count_0 rfl ?_
  refine r_tableIn 56 hX dX7_count_1 (off := 55) (by decide) (by decide) rfl ?_
  refine r_aload_n 57 hX dX7_count_56 rfl ?_
  refine r_getR 60 hX dX7_count_57 fX7_39 rfl rfl rfl ?_
  refine r_getI 63 hX dX7_count_60 fX7_102 rfl rfl rfl ?_
  refine r_if_eq 66 70 hX dX7_count_63 (fun c1 => ?_) (fun c1 => ?_)
  · refine r_iconst 71 hX dX7_count_70 (v := 0) (by decide) ?_
    refine r_iret hX hT dX7_count_71 ?_
    exact ⟨by simp [cnR, *], rfl⟩
  · refine r_iconst 67 hX dX7_count_66 (v := 1) (by decide) ?_
    refine r_goto 71 hX dX7_count_67 ?_
    refine r_iret hX hT dX7_count_71 ?_
    exact ⟨by simp [cnR, *], rfl⟩
set_option maxRecDepth 100000 in
set_option maxHeartbeats 4000000 in
theorem tX7_count_2 {l : Launch} {G : mx_G} {M : mx_Mem} : mx_Met l G yX7_count cX7_count 2 ((some FieldType.int)) 0 0 [.ref 0, .int 2] M (mx_F (some (.int (cnR M 2))) M) := by
  refine mx_enter (own := RX7) (L := [.ref 0, .int 2]) (by decide +kernel) rfl rfl rfl ?_
  intro X hlX hX hR hT
  refine r_iload_n 1 hX dX7_count_0 rfl ?_
  refine r_tableIn 72 hX dX7_count_1 (off := 71) (by decide) (by decide) rfl ?_
  refine r_aload_n 73 hX dX7_count_72 rfl ?_
  refine r_getR 76 hX dX7_count_73 fX7_39 rfl rfl rfl ?_
  refine r_getI 79 hX dX7_count_76 fX7_102 rfl rfl rfl ?_
  refine r_if_eq 82 92 hX dX7_count_79 (fun c1 => ?_) (fun c1 => ?_)
  · refine r_iconst 93 hX dX7_count_92 (v := -1) (by decide) ?_
    refine r_iret hX hT dX7_count_93 ?_
    exact ⟨by simp [cnR, *], rfl⟩
  · refine r_aload_n 83 hX dX7_count_82 rfl ?_
    refine r_getR 86 hX dX7_count_83 fX7_39 rfl rfl rfl ?_
    refine r_getI 89 hX dX7_count_86 fX7_199 rfl rfl rfl ?_
    refine r_goto 93 hX dX7_count_89 ?_
    refine r_iret hX hT dX7_count_93 ?_
    exact ⟨by simp [cnR, *], rfl⟩
set_option maxRecDepth 100000 in
set_option maxHeartbeats 4000000 in
theorem tX7_count_3 {l : Launch} {G : mx_G} {M : mx_Mem} : mx_Met l G yX7_count cX7_count 2 ((some FieldType.int)) 0 0 [.ref 0, .int 3] M (mx_F (some (.int (cnR M 3))) M) := by
  refine mx_enter (own := RX7) (L := [.ref 0, .int 3]) (by decide +kernel) rfl rfl rfl ?_
  intro X hlX hX hR hT
  refine r_iload_n 1 hX dX7_count_0 rfl ?_
  refine r_tableIn 94 hX dX7_count_1 (off := 93) (by decide) (by decide) rfl ?_
  refine r_aload_n 95 hX dX7_count_94 rfl ?_
  refine r_getR 98 hX dX7_count_95 fX7_39 rfl rfl rfl ?_
  refine r_getI 101 hX dX7_count_98 fX7_217 rfl rfl rfl ?_
  refine r_iret hX hT dX7_count_101 ?_
  exact ⟨by simp [cnR, *], rfl⟩
set_option maxRecDepth 100000 in
set_option maxHeartbeats 4000000 in
theorem tX7_count_4 {l : Launch} {G : mx_G} {M : mx_Mem} : mx_Met l G yX7_count cX7_count 2 ((some FieldType.int)) 0 0 [.ref 0, .int 4] M (mx_F (some (.int (cnR M 4))) M) := by
  refine mx_enter (own := RX7) (L := [.ref 0, .int 4]) (by decide +kernel) rfl rfl rfl ?_
  intro X hlX hX hR hT
  refine r_iload_n 1 hX dX7_count_0 rfl ?_
  refine r_tableIn 102 hX dX7_count_1 (off := 101) (by decide) (by decide) rfl ?_
  refine r_aload_n 103 hX dX7_count_102 rfl ?_
  refine r_getR 106 hX dX7_count_103 fX7_39 rfl rfl rfl ?_
  refine r_getI 109 hX dX7_count_106 fX7_124 rfl rfl rfl ?_
  refine r_iret hX hT dX7_count_109 ?_
  exact ⟨by simp [cnR, *], rfl⟩
set_option maxRecDepth 100000 in
set_option maxHeartbeats 4000000 in
theorem tX7_count_5 {l : Launch} {G : mx_G} {M : mx_Mem} : mx_Met l G yX7_count cX7_count 2 ((some FieldType.int)) 0 0 [.ref 0, .int 5] M (mx_F (some (.int (cnR M 5))) M) := by
  refine mx_enter (own := RX7) (L := [.ref 0, .int 5]) (by decide +kernel) rfl rfl rfl ?_
  intro X hlX hX hR hT
  refine r_iload_n 1 hX dX7_count_0 rfl ?_
  refine r_tableIn 110 hX dX7_count_1 (off := 109) (by decide) (by decide) rfl ?_
  refine r_aload_n 111 hX dX7_count_110 rfl ?_
  refine r_getI 114 hX dX7_count_111 fX7_76 rfl rfl rfl ?_
  refine r_iret hX hT dX7_count_114 ?_
  exact ⟨by simp [cnR, *], rfl⟩
set_option maxRecDepth 100000 in
set_option maxHeartbeats 4000000 in
theorem tX7_count_6 {l : Launch} {G : mx_G} {M : mx_Mem} : mx_Met l G yX7_count cX7_count 2 ((some FieldType.int)) 0 0 [.ref 0, .int 6] M (mx_F (some (.int (cnR M 6))) M) := by
  refine mx_enter (own := RX7) (L := [.ref 0, .int 6]) (by decide +kernel) rfl rfl rfl ?_
  intro X hlX hX hR hT
  refine r_iload_n 1 hX dX7_count_0 rfl ?_
  refine r_tableIn 115 hX dX7_count_1 (off := 114) (by decide) (by decide) rfl ?_
  refine r_aload_n 116 hX dX7_count_115 rfl ?_
  refine r_getR 119 hX dX7_count_116 fX7_65 rfl rfl rfl ?_
  refine r_getI 122 hX dX7_count_119 fX7_220 rfl rfl rfl ?_
  refine r_iret hX hT dX7_count_122 ?_
  exact ⟨by simp [cnR, *], rfl⟩
set_option maxRecDepth 100000 in
set_option maxHeartbeats 4000000 in
theorem tX7_count_7 {l : Launch} {G : mx_G} {M : mx_Mem} : mx_Met l G yX7_count cX7_count 2 ((some FieldType.int)) 0 0 [.ref 0, .int 7] M (mx_F (some (.int (cnR M 7))) M) := by
  refine mx_enter (own := RX7) (L := [.ref 0, .int 7]) (by decide +kernel) rfl rfl rfl ?_
  intro X hlX hX hR hT
  refine r_iload_n 1 hX dX7_count_0 rfl ?_
  refine r_tableIn 123 hX dX7_count_1 (off := 122) (by decide) (by decide) rfl ?_
  refine r_aload_n 124 hX dX7_count_123 rfl ?_
  refine r_getR 127 hX dX7_count_124 fX7_39 rfl rfl rfl ?_
  refine r_getI 130 hX dX7_count_127 fX7_223 rfl rfl rfl ?_
  refine r_iret hX hT dX7_count_130 ?_
  exact ⟨by simp [cnR, *], rfl⟩
set_option maxRecDepth 100000 in
set_option maxHeartbeats 4000000 in
theorem tX7_count_n {l : Launch} {G : mx_G} {w : Int32} {M : mx_Mem} (hw : w.toInt < 0 ∨ (7 : Int) < w.toInt) : mx_Met l G yX7_count cX7_count 2 ((some FieldType.int)) 0 0 [.ref 0, .int w] M (mx_F (some (.int (-1))) M) := by
  refine mx_enter (own := RX7) (L := [.ref 0, .int w]) (by decide +kernel) rfl rfl rfl ?_
  intro X hlX hX hR hT
  refine r_iload_n 1 hX dX7_count_0 rfl ?_
  refine r_tableOut 131 hX dX7_count_1 hw ?_
  refine r_iconst 132 hX dX7_count_131 (v := -1) (by decide) ?_
  refine r_iret hX hT dX7_count_132 ?_
  exact ⟨rfl, rfl⟩
def sgC (v s : Int32) : Int32 := vp_nar .char (((v.toUInt32 >>> (s.toUInt32 &&& Int32.toUInt32 31)).toInt32 &&& 255).toUInt32 % 65536).toInt32
def sgD (v : Int32) : Int32 := vp_nar .char ((v &&& 255).toUInt32 % 65536).toInt32
def apM (M : mx_Mem) (c : Int32) : mx_Mem := mI (mI M 38 (M.1 37 1).toNatClampNeg c) 37 1 (M.1 37 1 + 1)
def sgM (M : mx_Mem) (v : Int32) : mx_Mem := apM (apM (apM (apM M (sgC v 24)) (sgC v 16)) (sgC v 8)) (sgD v)
set_option maxRecDepth 100000 in
set_option maxHeartbeats 4000000 in
theorem tX7_sign_ok {l : Launch} {G : mx_G} {v : Int32} {n : Nat} {M : mx_Mem} (hn : M.1 37 1 = nI n) (hl : n + 4 ≤ 100) : mx_Met l G yX7_sign cX7_sign 2 ((some FieldType.int)) 1 21 [.ref 0, .int v] M (mx_F (some (.int (nI (n + 4)))) (sgM M v)) := by
  refine mx_enter (own := RX7) (L := [.ref 0, .int v]) (by decide +kernel) rfl rfl rfl ?_
  intro X hlX hX hR hT
  have a0 : 0 ≤ M.1 37 1 ∧ ¬ 100 ≤ M.1 37 1 := by rw [hn]; exact ⟨nI_pos' (by omega), nI_ge (b := 100) (by omega) (by omega)⟩
  have a1 : 0 ≤ M.1 37 1 + 1 ∧ ¬ 100 ≤ M.1 37 1 + 1 := by rw [hn, nI_1]; exact ⟨nI_pos' (by omega), nI_ge (b := 100) (by omega) (by omega)⟩
  have a2 : 0 ≤ M.1 37 1 + 1 + 1 ∧ ¬ 100 ≤ M.1 37 1 + 1 + 1 := by rw [hn, nI_1, nI_1]; exact ⟨nI_pos' (by omega), nI_ge (b := 100) (by omega) (by omega)⟩
  have a3 : 0 ≤ M.1 37 1 + 1 + 1 + 1 ∧ ¬ 100 ≤ M.1 37 1 + 1 + 1 + 1 := by rw [hn, nI_1, nI_1, nI_1]; exact ⟨nI_pos' (by omega), nI_ge (b := 100) (by omega) (by omega)⟩
  have a4 : M.1 37 1 + 4 ≤ 100 := by rw [hn]; exact (show nI n + nI 4 ≤ nI 100 by rw [nI_add]; exact nI_le hl (by omega))
  refine r_aload_n 1 hX dX7_sign_0 rfl ?_
  refine r_getR 4 hX dX7_sign_1 fX7_65 rfl rfl rfl ?_
  refine r_getI 7 hX dX7_sign_4 fX7_220 rfl rfl rfl ?_
  refine r_iconst 8 hX dX7_sign_7 (v := 4) (by decide) ?_
  refine r_iadd 9 hX dX7_sign_8 ?_
  refine r_bipush 11 hX dX7_sign_9 (v := 100) (by decide) ?_
  refine r_icmp_le 14 16 hX dX7_sign_11 (fun c1 => ?_) (fun c1 => absurd a4 c1)
  refine r_aload_n 17 hX dX7_sign_16 rfl ?_
  refine r_getR 20 hX dX7_sign_17 fX7_65 rfl rfl rfl ?_
  refine r_iload_n 21 hX dX7_sign_20 rfl ?_
  refine r_bipush 23 hX dX7_sign_21 (v := 24) (by decide) ?_
  refine r_iushr 24 hX dX7_sign_23 ?_
  refine r_sipush 27 hX dX7_sign_24 (v := 255) (by decide) ?_
  refine r_iand 28 hX dX7_sign_27 ?_
  refine r_i2c 29 hX dX7_sign_28 ?_
  refine r_cV1U 32 hX hR (tX6_append a0.1 a0.2) dX7_sign_29 kX6_append lX7_241 rfl rfl rfl rfl rfl rfl ?_
  refine r_aload_n 33 hX dX7_sign_32 rfl ?_
  refine r_getR 36 hX dX7_sign_33 fX7_65 rfl rfl rfl ?_
  refine r_iload_n 37 hX dX7_sign_36 rfl ?_
  refine r_bipush 39 hX dX7_sign_37 (v := 16) (by decide) ?_
  refine r_iushr 40 hX dX7_sign_39 ?_
  refine r_sipush 43 hX dX7_sign_40 (v := 255) (by decide) ?_
  refine r_iand 44 hX dX7_sign_43 ?_
  refine r_i2c 45 hX dX7_sign_44 ?_
  refine r_cV1U 48 hX hR (tX6_append a1.1 a1.2) dX7_sign_45 kX6_append lX7_241 rfl rfl rfl rfl rfl rfl ?_
  refine r_aload_n 49 hX dX7_sign_48 rfl ?_
  refine r_getR 52 hX dX7_sign_49 fX7_65 rfl rfl rfl ?_
  refine r_iload_n 53 hX dX7_sign_52 rfl ?_
  refine r_bipush 55 hX dX7_sign_53 (v := 8) (by decide) ?_
  refine r_iushr 56 hX dX7_sign_55 ?_
  refine r_sipush 59 hX dX7_sign_56 (v := 255) (by decide) ?_
  refine r_iand 60 hX dX7_sign_59 ?_
  refine r_i2c 61 hX dX7_sign_60 ?_
  refine r_cV1U 64 hX hR (tX6_append a2.1 a2.2) dX7_sign_61 kX6_append lX7_241 rfl rfl rfl rfl rfl rfl ?_
  refine r_aload_n 65 hX dX7_sign_64 rfl ?_
  refine r_getR 68 hX dX7_sign_65 fX7_65 rfl rfl rfl ?_
  refine r_iload_n 69 hX dX7_sign_68 rfl ?_
  refine r_sipush 72 hX dX7_sign_69 (v := 255) (by decide) ?_
  refine r_iand 73 hX dX7_sign_72 ?_
  refine r_i2c 74 hX dX7_sign_73 ?_
  refine r_cV1U 77 hX hR (tX6_append a3.1 a3.2) dX7_sign_74 kX6_append lX7_241 rfl rfl rfl rfl rfl rfl ?_
  refine r_aload_n 78 hX dX7_sign_77 rfl ?_
  refine r_getR 81 hX dX7_sign_78 fX7_65 rfl rfl rfl ?_
  refine r_getI 84 hX dX7_sign_81 fX7_220 rfl rfl rfl ?_
  refine r_iret hX hT dX7_sign_84 ?_
  refine ⟨?_, rfl⟩
  have e : M.1 37 1 + 1 + 1 + 1 + 1 = nI (n + 4) := by rw [hn, nI_1, nI_1, nI_1, nI_1]
  rw [← e]
  rfl
set_option maxRecDepth 100000 in
set_option maxHeartbeats 4000000 in
theorem tX7_sign_no {l : Launch} {G : mx_G} {v : Int32} {n : Nat} {M : mx_Mem} (hn : M.1 37 1 = nI n) (hl : 100 < n + 4) (hm : n ≤ 100) : mx_Met l G yX7_sign cX7_sign 2 ((some FieldType.int)) 1 21 [.ref 0, .int v] M (mx_F (some (.int (-1))) M) := by
  refine mx_enter (own := RX7) (L := [.ref 0, .int v]) (by decide +kernel) rfl rfl rfl ?_
  intro X hlX hX hR hT
  have a4 : ¬ M.1 37 1 + 4 ≤ 100 := by rw [hn]; exact (show ¬ nI n + nI 4 ≤ nI 100 by rw [nI_add]; exact nI_ge hl (by omega))
  refine r_aload_n 1 hX dX7_sign_0 rfl ?_
  refine r_getR 4 hX dX7_sign_1 fX7_65 rfl rfl rfl ?_
  refine r_getI 7 hX dX7_sign_4 fX7_220 rfl rfl rfl ?_
  refine r_iconst 8 hX dX7_sign_7 (v := 4) (by decide) ?_
  refine r_iadd 9 hX dX7_sign_8 ?_
  refine r_bipush 11 hX dX7_sign_9 (v := 100) (by decide) ?_
  refine r_icmp_le 14 16 hX dX7_sign_11 (fun c1 => absurd c1 a4) (fun c1 => ?_)
  refine r_iconst 15 hX dX7_sign_14 (v := -1) (by decide) ?_
  refine r_iret hX hT dX7_sign_15 ?_
  exact ⟨rfl, rfl⟩
set_option maxRecDepth 100000 in
set_option maxHeartbeats 4000000 in
theorem tX7_end {l : Launch} {G : mx_G} {n : Int32} {M : mx_Mem} : mx_Met l G yX7_end cX7_end 2 ((some FieldType.boolean)) 0 0 [.ref 0, .int n] M (mx_F (some (.int (if 0 ≤ n ∧ n ≤ M.1 37 1 then 1 else 0))) (if 0 ≤ n ∧ n ≤ M.1 37 1 then mI M 37 1 n else M)) := by
  refine mx_enter (own := RX7) (L := [.ref 0, .int n]) (by decide +kernel) rfl rfl rfl ?_
  intro X hlX hX hR hT
  refine r_iload_n 1 hX dX7_end_0 rfl ?_
  refine r_If_lt 4 15 hX dX7_end_1 (fun c1 => ?_) (fun c1 => ?_)
  · refine r_iconst 16 hX dX7_end_15 (v := 0) (by decide) ?_
    refine r_zret hX hT dX7_end_16 (by first | assumption | decide) ?_
    exact ⟨by simp [*], by simp [*]⟩
  · refine r_iload_n 5 hX dX7_end_4 rfl ?_
    refine r_aload_n 6 hX dX7_end_5 rfl ?_
    refine r_getR 9 hX dX7_end_6 fX7_65 rfl rfl rfl ?_
    refine r_getI 12 hX dX7_end_9 fX7_220 rfl rfl rfl ?_
    refine r_icmp_le 15 17 hX dX7_end_12 (fun c2 => ?_) (fun c2 => ?_)
    · refine r_aload_n 18 hX dX7_end_17 rfl ?_
      refine r_getR 21 hX dX7_end_18 fX7_65 rfl rfl rfl ?_
      refine r_iload_n 22 hX dX7_end_21 rfl ?_
      refine r_putI 25 hX dX7_end_22 fX7_220 fp6_1 rfl rfl rfl ?_
      refine r_iconst 26 hX dX7_end_25 (v := 1) (by decide) ?_
      refine r_zret hX hT dX7_end_26 (by first | assumption | decide) ?_
      exact ⟨by simp [*], by simp [*]⟩
    · refine r_iconst 16 hX dX7_end_15 (v := 0) (by decide) ?_
      refine r_zret hX hT dX7_end_16 (by first | assumption | decide) ?_
      exact ⟨by simp [*], by simp [*]⟩
set_option maxRecDepth 100000 in
set_option maxHeartbeats 4000000 in
theorem tX7_rally_n {l : Launch} {G : mx_G} {t  : Int32} {M : mx_Mem} (ht : ¬ isT t) : mx_Met l G yX7_rally cX7_rally 2 ((some FieldType.int)) 3 70 [.ref 0, .int t] M (mx_F (some (.int (-1))) M) := by
  refine mx_enter (own := RX7) (L := [.ref 0, .int t]) (by decide +kernel) rfl rfl rfl ?_
  intro X hlX hX hR hT
  refine r_iload_n 1 hX dX7_rally_0 rfl ?_
  refine r_cS1F 4 hX hR tX7_isTeam dX7_rally_1 kX7_isTeam lX7_83 rfl rfl rfl ?_
  refine r_Beq 7 17 hX dX7_rally_4 (fun c1 => ?_) (fun c1 => absurd c1 ht)
  refine r_iconst 18 hX dX7_rally_17 (v := -1) (by decide) ?_
  refine r_iret hX hT dX7_rally_18 ?_
  exact ⟨rfl, rfl⟩
set_option maxRecDepth 100000 in
set_option maxHeartbeats 4000000 in
theorem tX7_begin_n {l : Launch} {G : mx_G} {t  : Int32} {M : mx_Mem} (ht : ¬ isT t) : mx_Met l G yX7_begin cX7_begin 2 ((some FieldType.int)) 2 80 [.ref 0, .int t] M (mx_F (some (.int (-1))) M) := by
  refine mx_enter (own := RX7) (L := [.ref 0, .int t]) (by decide +kernel) rfl rfl rfl ?_
  intro X hlX hX hR hT
  refine r_iload_n 1 hX dX7_begin_0 rfl ?_
  refine r_cS1F 4 hX hR tX7_isTeam dX7_begin_1 kX7_isTeam lX7_83 rfl rfl rfl ?_
  refine r_Beq 7 28 hX dX7_begin_4 (fun c1 => ?_) (fun c1 => absurd c1 ht)
  refine r_iconst 29 hX dX7_begin_28 (v := -1) (by decide) ?_
  refine r_iret hX hT dX7_begin_29 ?_
  exact ⟨rfl, rfl⟩
set_option maxRecDepth 100000 in
set_option maxHeartbeats 4000000 in
theorem tX7_pause_n {l : Launch} {G : mx_G} {t  : Int32} {M : mx_Mem} (ht : ¬ isT t) : mx_Met l G yX7_pause cX7_pause 3 ((some FieldType.int)) 1 21 [.ref 0, .int t] M (mx_F (some (.int (-1))) M) := by
  refine mx_enter (own := RX7) (L := [.ref 0, .int t, .null]) (by decide +kernel) rfl rfl rfl ?_
  intro X hlX hX hR hT
  refine r_iload_n 1 hX dX7_pause_0 rfl ?_
  refine r_cS1F 4 hX hR tX7_isTeam dX7_pause_1 kX7_isTeam lX7_83 rfl rfl rfl ?_
  refine r_Beq 7 17 hX dX7_pause_4 (fun c1 => ?_) (fun c1 => absurd c1 ht)
  refine r_iconst 18 hX dX7_pause_17 (v := -1) (by decide) ?_
  refine r_iret hX hT dX7_pause_18 ?_
  exact ⟨rfl, rfl⟩
set_option maxRecDepth 100000 in
set_option maxHeartbeats 4000000 in
theorem tX7_overlap_n {l : Launch} {G : mx_G} {t  : Int32} {M : mx_Mem} (ht : ¬ isT t) : mx_Met l G yX7_overlap cX7_overlap 2 ((some FieldType.int)) 1 24 [.ref 0, .int t] M (mx_F (some (.int (-1))) M) := by
  refine mx_enter (own := RX7) (L := [.ref 0, .int t]) (by decide +kernel) rfl rfl rfl ?_
  intro X hlX hX hR hT
  refine r_iload_n 1 hX dX7_overlap_0 rfl ?_
  refine r_cS1F 4 hX hR tX7_isTeam dX7_overlap_1 kX7_isTeam lX7_83 rfl rfl rfl ?_
  refine r_Beq 7 17 hX dX7_overlap_4 (fun c1 => ?_) (fun c1 => absurd c1 ht)
  refine r_iconst 18 hX dX7_overlap_17 (v := -1) (by decide) ?_
  refine r_iret hX hT dX7_overlap_18 ?_
  exact ⟨rfl, rfl⟩
set_option maxRecDepth 100000 in
set_option maxHeartbeats 4000000 in
theorem tX7_may_n {l : Launch} {G : mx_G} {t a b : Int32} {M : mx_Mem} (ht : ¬ isT t) : mx_Met l G yX7_may cX7_may 5 ((some FieldType.int)) 2 44 [.ref 0, .int t, .int a, .int b] M (mx_F (some (.int (-1))) M) := by
  refine mx_enter (own := RX7) (L := [.ref 0, .int t, .int a, .int b, .null]) (by decide +kernel) rfl rfl rfl ?_
  intro X hlX hX hR hT
  refine r_iload_n 1 hX dX7_may_0 rfl ?_
  refine r_cS1F 4 hX hR tX7_isTeam dX7_may_1 kX7_isTeam lX7_83 rfl rfl rfl ?_
  refine r_Bne 7 9 hX dX7_may_4 (fun c1 => absurd c1 ht) (fun c1 => ?_)
  refine r_iconst 8 hX dX7_may_7 (v := -1) (by decide) ?_
  refine r_iret hX hT dX7_may_8 ?_
  exact ⟨rfl, rfl⟩
set_option maxRecDepth 100000 in
set_option maxHeartbeats 4000000 in
theorem tX7_free_n {l : Launch} {G : mx_G} {t a : Int32} {M : mx_Mem} (ht : ¬ isT t) : mx_Met l G yX7_free cX7_free 4 ((some FieldType.int)) 2 44 [.ref 0, .int t, .int a] M (mx_F (some (.int (-1))) M) := by
  refine mx_enter (own := RX7) (L := [.ref 0, .int t, .int a, .null]) (by decide +kernel) rfl rfl rfl ?_
  intro X hlX hX hR hT
  refine r_iload_n 1 hX dX7_free_0 rfl ?_
  refine r_cS1F 4 hX hR tX7_isTeam dX7_free_1 kX7_isTeam lX7_83 rfl rfl rfl ?_
  refine r_Beq 7 17 hX dX7_free_4 (fun c1 => ?_) (fun c1 => absurd c1 ht)
  refine r_iconst 18 hX dX7_free_17 (v := -1) (by decide) ?_
  refine r_iret hX hT dX7_free_18 ?_
  exact ⟨rfl, rfl⟩
set_option maxRecDepth 100000 in
set_option maxHeartbeats 4000000 in
theorem tX7_at_n {l : Launch} {G : mx_G} {t a : Int32} {M : mx_Mem} (ht : ¬ isT t) : mx_Met l G yX7_at cX7_at 3 ((some FieldType.int)) 1 21 [.ref 0, .int t, .int a] M (mx_F (some (.int (-1))) M) := by
  refine mx_enter (own := RX7) (L := [.ref 0, .int t, .int a]) (by decide +kernel) rfl rfl rfl ?_
  intro X hlX hX hR hT
  refine r_iload_n 1 hX dX7_at_0 rfl ?_
  refine r_cS1F 4 hX hR tX7_isTeam dX7_at_1 kX7_isTeam lX7_83 rfl rfl rfl ?_
  refine r_Beq 7 28 hX dX7_at_4 (fun c1 => ?_) (fun c1 => absurd c1 ht)
  refine r_iconst 29 hX dX7_at_28 (v := -1) (by decide) ?_
  refine r_iret hX hT dX7_at_29 ?_
  exact ⟨rfl, rfl⟩
set_option maxRecDepth 100000 in
set_option maxHeartbeats 4000000 in
theorem tX7_of_n {l : Launch} {G : mx_G} {t a : Int32} {M : mx_Mem} (ht : ¬ isT t) : mx_Met l G yX7_of cX7_of 4 ((some FieldType.int)) 1 21 [.ref 0, .int t, .int a] M (mx_F (some (.int (-1))) M) := by
  refine mx_enter (own := RX7) (L := [.ref 0, .int t, .int a, .null]) (by decide +kernel) rfl rfl rfl ?_
  intro X hlX hX hR hT
  refine r_iload_n 1 hX dX7_of_0 rfl ?_
  refine r_cS1F 4 hX hR tX7_isTeam dX7_of_1 kX7_isTeam lX7_83 rfl rfl rfl ?_
  refine r_Bne 7 9 hX dX7_of_4 (fun c1 => absurd c1 ht) (fun c1 => ?_)
  refine r_iconst 8 hX dX7_of_7 (v := -1) (by decide) ?_
  refine r_iret hX hT dX7_of_8 ?_
  exact ⟨rfl, rfl⟩
set_option maxRecDepth 100000 in
set_option maxHeartbeats 4000000 in
theorem tX7_served_n {l : Launch} {G : mx_G} {t a : Int32} {M : mx_Mem} (ht : ¬ isT t) : mx_Met l G yX7_served cX7_served 3 ((some FieldType.int)) 1 21 [.ref 0, .int t, .int a] M (mx_F (some (.int (-1))) M) := by
  refine mx_enter (own := RX7) (L := [.ref 0, .int t, .int a]) (by decide +kernel) rfl rfl rfl ?_
  intro X hlX hX hR hT
  refine r_iload_n 1 hX dX7_served_0 rfl ?_
  refine r_cS1F 4 hX hR tX7_isTeam dX7_served_1 kX7_isTeam lX7_83 rfl rfl rfl ?_
  refine r_Beq 7 14 hX dX7_served_4 (fun c1 => ?_) (fun c1 => absurd c1 ht)
  refine r_iconst 15 hX dX7_served_14 (v := -1) (by decide) ?_
  refine r_iret hX hT dX7_served_15 ?_
  exact ⟨rfl, rfl⟩
set_option maxRecDepth 100000 in
set_option maxHeartbeats 4000000 in
theorem tX7_feet_n {l : Launch} {G : mx_G} {t a b c : Int32} {M : mx_Mem} (ht : ¬ isT t) : mx_Met l G yX7_feet cX7_feet 5 ((some FieldType.boolean)) 1 23 [.ref 0, .int t, .int a, .int b, .int c] M (mx_F (some (.int 0)) M) := by
  refine mx_enter (own := RX7) (L := [.ref 0, .int t, .int a, .int b, .int c]) (by decide +kernel) rfl rfl rfl ?_
  intro X hlX hX hR hT
  refine r_iload_n 1 hX dX7_feet_0 rfl ?_
  refine r_cS1F 4 hX hR tX7_isTeam dX7_feet_1 kX7_isTeam lX7_83 rfl rfl rfl ?_
  refine r_Beq 7 27 hX dX7_feet_4 (fun c1 => ?_) (fun c1 => absurd c1 ht)
  refine r_iconst 28 hX dX7_feet_27 (v := 0) (by decide) ?_
  refine r_zret hX hT dX7_feet_28 (by first | assumption | decide) ?_
  exact ⟨rfl, rfl⟩
set_option maxRecDepth 100000 in
set_option maxHeartbeats 4000000 in
theorem tX7_lineUp_n {l : Launch} {G : mx_G} {t a b c d e f : Int32} {M : mx_Mem} (ht : ¬ isT t) : mx_Met l G yX7_lineUp cX7_lineUp 10 ((some FieldType.boolean)) 2 40 [.ref 0, .int t, .int a, .int b, .int c, .int d, .int e, .int f] M (mx_F (some (.int 0)) M) := by
  refine mx_enter (own := RX7) (L := [.ref 0, .int t, .int a, .int b, .int c, .int d, .int e, .int f, .null, .null]) (by decide +kernel) rfl rfl rfl ?_
  intro X hlX hX hR hT
  refine r_iload_n 1 hX dX7_lineUp_0 rfl ?_
  refine r_cS1F 4 hX hR tX7_isTeam dX7_lineUp_1 kX7_isTeam lX7_83 rfl rfl rfl ?_
  refine r_Beq 7 28 hX dX7_lineUp_4 (fun c1 => ?_) (fun c1 => absurd c1 ht)
  refine r_iconst 29 hX dX7_lineUp_28 (v := 0) (by decide) ?_
  refine r_zret hX hT dX7_lineUp_29 (by first | assumption | decide) ?_
  exact ⟨rfl, rfl⟩
set_option maxRecDepth 100000 in
set_option maxHeartbeats 4000000 in
theorem tX7_change_n {l : Launch} {G : mx_G} {t a b : Int32} {M : mx_Mem} (ht : ¬ isT t) : mx_Met l G yX7_change cX7_change 4 ((some FieldType.int)) 3 68 [.ref 0, .int t, .int a, .int b] M (mx_F (some (.int (-1))) M) := by
  refine mx_enter (own := RX7) (L := [.ref 0, .int t, .int a, .int b]) (by decide +kernel) rfl rfl rfl ?_
  intro X hlX hX hR hT
  refine r_aload_n 1 hX dX7_change_0 rfl ?_
  refine r_iload_n 2 hX dX7_change_1 rfl ?_
  refine r_iload_n 3 hX dX7_change_2 rfl ?_
  refine r_iload_n 4 hX dX7_change_3 rfl ?_
  refine r_cV3F 7 hX hR (tX7_may_n ht) dX7_change_4 kX7_may lX7_175 rfl rfl rfl rfl rfl rfl ?_
  refine r_if_eq 10 12 hX dX7_change_7 (fun c1 => absurd c1 (by decide)) (fun c1 => ?_)
  refine r_iconst 11 hX dX7_change_10 (v := -1) (by decide) ?_
  refine r_iret hX hT dX7_change_11 ?_
  exact ⟨rfl, rfl⟩

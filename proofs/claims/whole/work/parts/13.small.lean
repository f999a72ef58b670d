set_option maxRecDepth 100000 in
set_option maxHeartbeats 4000000 in
theorem tX7_isTeam {l : Launch} {G : mx_G} {t : Int32} {M : mx_Mem} : mx_Met l G yX7_isTeam cX7_isTeam 1 ((some FieldType.boolean)) 0 0 [.int t] M (mx_F (some (.int (bI (isT t)))) M) := by
  refine mx_enter (own := RX7) (L := [.int t]) (by decide +kernel) rfl rfl rfl ?_
  intro X hlX hX hR hT
  refine r_iload_n 1 hX dX7_isTeam_0 rfl ?_
  refine r_if_eq 4 9 hX dX7_isTeam_1 (fun c1 => ?_) (fun c1 => ?_)
  · refine r_iconst 10 hX dX7_isTeam_9 (v := 1) (by decide) ?_
    refine r_goto 14 hX dX7_isTeam_10 ?_
    refine r_zret hX hT dX7_isTeam_14 (by first | assumption | decide) ?_
    exact ⟨by simp [*, bI], rfl⟩
  · refine r_iload_n 5 hX dX7_isTeam_4 rfl ?_
    refine r_iconst 6 hX dX7_isTeam_5 (v := 1) (by decide) ?_
    refine r_icmp_ne 9 13 hX dX7_isTeam_6 (fun c2 => ?_) (fun c2 => ?_)
    · refine r_iconst 14 hX dX7_isTeam_13 (v := 0) (by decide) ?_
      refine r_zret hX hT dX7_isTeam_14 (by first | assumption | decide) ?_
      exact ⟨by simp [*, bI], rfl⟩
    · refine r_iconst 10 hX dX7_isTeam_9 (v := 1) (by decide) ?_
      refine r_goto 14 hX dX7_isTeam_10 ?_
      refine r_zret hX hT dX7_isTeam_14 (by first | assumption | decide) ?_
      exact ⟨by simp [*, bI], rfl⟩
set_option maxRecDepth 100000 in
set_option maxHeartbeats 4000000 in
theorem tX7_isPlayer {l : Launch} {G : mx_G} {t : Int32} {M : mx_Mem} : mx_Met l G yX7_isPlayer cX7_isPlayer 1 ((some FieldType.boolean)) 0 0 [.int t] M (mx_F (some (.int (bI (isP t)))) M) := by
  refine mx_enter (own := RX7) (L := [.int t]) (by decide +kernel) rfl rfl rfl ?_
  intro X hlX hX hR hT
  refine r_iload_n 1 hX dX7_isPlayer_0 rfl ?_
  refine r_If_lt 4 14 hX dX7_isPlayer_1 (fun c1 => ?_) (fun c1 => ?_)
  · refine r_iconst 15 hX dX7_isPlayer_14 (v := 0) (by decide) ?_
    refine r_zret hX hT dX7_isPlayer_15 (by first | assumption | decide) ?_
    exact ⟨by simp [*, bI], rfl⟩
  · refine r_iload_n 5 hX dX7_isPlayer_4 rfl ?_
    refine r_bipush 7 hX dX7_isPlayer_5 (v := 12) (by decide) ?_
    refine r_icmp_ge 10 14 hX dX7_isPlayer_7 (fun c2 => ?_) (fun c2 => ?_)
    · refine r_iconst 15 hX dX7_isPlayer_14 (v := 0) (by decide) ?_
      refine r_zret hX hT dX7_isPlayer_15 (by first | assumption | decide) ?_
      exact ⟨by simp [*, bI], rfl⟩
    · refine r_iconst 11 hX dX7_isPlayer_10 (v := 1) (by decide) ?_
      refine r_goto 15 hX dX7_isPlayer_11 ?_
      refine r_zret hX hT dX7_isPlayer_15 (by first | assumption | decide) ?_
      exact ⟨by simp [*, bI], rfl⟩
set_option maxRecDepth 100000 in
set_option maxHeartbeats 4000000 in
theorem tX7_bitOf {l : Launch} {G : mx_G} {t : Int32} {M : mx_Mem} : mx_Met l G yX7_bitOf cX7_bitOf 1 ((some FieldType.int)) 1 20 [.int t] M (mx_F (some (.int (if isP t then 1 <<< (t &&& 31) else 0))) M) := by
  refine mx_enter (own := RX7) (L := [.int t]) (by decide +kernel) rfl rfl rfl ?_
  intro X hlX hX hR hT
  refine r_iload_n 1 hX dX7_bitOf_0 rfl ?_
  refine r_cS1F 4 hX hR tX7_isPlayer dX7_bitOf_1 kX7_isPlayer lX7_87 rfl rfl rfl ?_
  refine r_Beq 7 13 hX dX7_bitOf_4 (fun c1 => ?_) (fun c1 => ?_)
  · refine r_iconst 14 hX dX7_bitOf_13 (v := 0) (by decide) ?_
    refine r_iret hX hT dX7_bitOf_14 ?_
    first | exact ⟨by rw [if_pos c1], rfl⟩ | exact ⟨by rw [if_neg c1], rfl⟩
  · refine r_iconst 8 hX dX7_bitOf_7 (v := 1) (by decide) ?_
    refine r_iload_n 9 hX dX7_bitOf_8 rfl ?_
    refine r_ishl 10 hX dX7_bitOf_9 ?_
    refine r_goto 14 hX dX7_bitOf_10 ?_
    refine r_iret hX hT dX7_bitOf_14 ?_
    first | exact ⟨by rw [if_pos c1], rfl⟩ | exact ⟨by rw [if_neg c1], rfl⟩
set_option maxRecDepth 100000 in
set_option maxHeartbeats 4000000 in
theorem tX7_squadOf_0 {l : Launch} {G : mx_G} {M : mx_Mem} : mx_Met l G yX7_squadOf cX7_squadOf 2 ((some (FieldType.object "SixWhoTurn$Squad"))) 0 0 [.ref 0, .int 0] M (mx_F (some (.ref 3)) M) := by
  refine mx_enter (own := RX7) (L := [.ref 0, .int 0]) (by decide +kernel) rfl rfl rfl ?_
  intro X hlX hX hR hT
  refine r_iload_n 1 hX dX7_squadOf_0 rfl ?_
  refine r_if_ne 4 11 hX dX7_squadOf_1 (fun c => absurd c (by decide)) (fun _ => ?_)
  refine r_aload_n 5 hX dX7_squadOf_4 rfl ?_
  refine r_getR 8 hX dX7_squadOf_5 fX7_19 rfl rfl rfl ?_
  refine r_goto 15 hX dX7_squadOf_8 ?_
  refine r_aret hX hT dX7_squadOf_15 (Or.inl ⟨_, rfl⟩) ?_
  exact ⟨rfl, rfl⟩
set_option maxRecDepth 100000 in
set_option maxHeartbeats 4000000 in
theorem tX7_courtOf_0 {l : Launch} {G : mx_G} {M : mx_Mem} : mx_Met l G yX7_courtOf cX7_courtOf 2 ((some (FieldType.object "SixWhoTurn$Court"))) 0 0 [.ref 0, .int 0] M (mx_F (some (.ref 9)) M) := by
  refine mx_enter (own := RX7) (L := [.ref 0, .int 0]) (by decide +kernel) rfl rfl rfl ?_
  intro X hlX hX hR hT
  refine r_iload_n 1 hX dX7_courtOf_0 rfl ?_
  refine r_if_ne 4 11 hX dX7_courtOf_1 (fun c => absurd c (by decide)) (fun _ => ?_)
  refine r_aload_n 5 hX dX7_courtOf_4 rfl ?_
  refine r_getR 8 hX dX7_courtOf_5 fX7_29 rfl rfl rfl ?_
  refine r_goto 15 hX dX7_courtOf_8 ?_
  refine r_aret hX hT dX7_courtOf_15 (Or.inl ⟨_, rfl⟩) ?_
  exact ⟨rfl, rfl⟩
set_option maxRecDepth 100000 in
set_option maxHeartbeats 4000000 in
theorem tX7_stanceOf_0 {l : Launch} {G : mx_G} {M : mx_Mem} : mx_Met l G yX7_stanceOf cX7_stanceOf 2 ((some (FieldType.object "SixWhoTurn$Stance"))) 0 0 [.ref 0, .int 0] M (mx_F (some (.ref 31)) M) := by
  refine mx_enter (own := RX7) (L := [.ref 0, .int 0]) (by decide +kernel) rfl rfl rfl ?_
  intro X hlX hX hR hT
  refine r_iload_n 1 hX dX7_stanceOf_0 rfl ?_
  refine r_if_ne 4 11 hX dX7_stanceOf_1 (fun c => absurd c (by decide)) (fun _ => ?_)
  refine r_aload_n 5 hX dX7_stanceOf_4 rfl ?_
  refine r_getR 8 hX dX7_stanceOf_5 fX7_55 rfl rfl rfl ?_
  refine r_goto 15 hX dX7_stanceOf_8 ?_
  refine r_aret hX hT dX7_stanceOf_15 (Or.inl ⟨_, rfl⟩) ?_
  exact ⟨rfl, rfl⟩
set_option maxRecDepth 100000 in
set_option maxHeartbeats 4000000 in
theorem tX7_squadOf_1 {l : Launch} {G : mx_G} {M : mx_Mem} : mx_Met l G yX7_squadOf cX7_squadOf 2 ((some (FieldType.object "SixWhoTurn$Squad"))) 0 0 [.ref 0, .int 1] M (mx_F (some (.ref 6)) M) := by
  refine mx_enter (own := RX7) (L := [.ref 0, .int 1]) (by decide +kernel) rfl rfl rfl ?_
  intro X hlX hX hR hT
  refine r_iload_n 1 hX dX7_squadOf_0 rfl ?_
  refine r_if_ne 4 11 hX dX7_squadOf_1 (fun _ => ?_) (fun c => absurd c (by decide))
  refine r_aload_n 12 hX dX7_squadOf_11 rfl ?_
  refine r_getR 15 hX dX7_squadOf_12 fX7_23 rfl rfl rfl ?_
  refine r_aret hX hT dX7_squadOf_15 (Or.inl ⟨_, rfl⟩) ?_
  exact ⟨rfl, rfl⟩
set_option maxRecDepth 100000 in
set_option maxHeartbeats 4000000 in
theorem tX7_courtOf_1 {l : Launch} {G : mx_G} {M : mx_Mem} : mx_Met l G yX7_courtOf cX7_courtOf 2 ((some (FieldType.object "SixWhoTurn$Court"))) 0 0 [.ref 0, .int 1] M (mx_F (some (.ref 14)) M) := by
  refine mx_enter (own := RX7) (L := [.ref 0, .int 1]) (by decide +kernel) rfl rfl rfl ?_
  intro X hlX hX hR hT
  refine r_iload_n 1 hX dX7_courtOf_0 rfl ?_
  refine r_if_ne 4 11 hX dX7_courtOf_1 (fun _ => ?_) (fun c => absurd c (by decide))
  refine r_aload_n 12 hX dX7_courtOf_11 rfl ?_
  refine r_getR 15 hX dX7_courtOf_12 fX7_33 rfl rfl rfl ?_
  refine r_aret hX hT dX7_courtOf_15 (Or.inl ⟨_, rfl⟩) ?_
  exact ⟨rfl, rfl⟩
set_option maxRecDepth 100000 in
set_option maxHeartbeats 4000000 in
theorem tX7_stanceOf_1 {l : Launch} {G : mx_G} {M : mx_Mem} : mx_Met l G yX7_stanceOf cX7_stanceOf 2 ((some (FieldType.object "SixWhoTurn$Stance"))) 0 0 [.ref 0, .int 1] M (mx_F (some (.ref 34)) M) := by
  refine mx_enter (own := RX7) (L := [.ref 0, .int 1]) (by decide +kernel) rfl rfl rfl ?_
  intro X hlX hX hR hT
  refine r_iload_n 1 hX dX7_stanceOf_0 rfl ?_
  refine r_if_ne 4 11 hX dX7_stanceOf_1 (fun _ => ?_) (fun c => absurd c (by decide))
  refine r_aload_n 12 hX dX7_stanceOf_11 rfl ?_
  refine r_getR 15 hX dX7_stanceOf_12 fX7_59 rfl rfl rfl ?_
  refine r_aret hX hT dX7_stanceOf_15 (Or.inl ⟨_, rfl⟩) ?_
  exact ⟨rfl, rfl⟩
set_option maxRecDepth 100000 in
set_option maxHeartbeats 4000000 in
theorem tX7_isBetter {l : Launch} {G : mx_G} {t a b : Int32} {M : mx_Mem} : mx_Met l G yX7_isBetter cX7_isBetter 3 ((some FieldType.boolean)) 0 0 [.int t, .int a, .int b] M (mx_F (some (.int (bI (if t = 0 then ¬ a ≤ b else ¬ b ≤ a)))) M) := by
  refine mx_enter (own := RX7) (L := [.int t, .int a, .int b]) (by decide +kernel) rfl rfl rfl ?_
  intro X hlX hX hR hT
  refine r_iload_n 1 hX dX7_isBetter_0 rfl ?_
  refine r_if_ne 4 17 hX dX7_isBetter_1 (fun c1 => ?_) (fun c1 => ?_)
  · refine r_iload_n 18 hX dX7_isBetter_17 rfl ?_
    refine r_iload_n 19 hX dX7_isBetter_18 rfl ?_
    refine r_icmp_ge 22 26 hX dX7_isBetter_19 (fun c2 => ?_) (fun c2 => ?_)
    · refine r_iconst 27 hX dX7_isBetter_26 (v := 0) (by decide) ?_
      refine r_zret hX hT dX7_isBetter_27 (by first | assumption | decide) ?_
      exact ⟨by simp [*, bI], rfl⟩
    · refine r_iconst 23 hX dX7_isBetter_22 (v := 1) (by decide) ?_
      refine r_goto 27 hX dX7_isBetter_23 ?_
      refine r_zret hX hT dX7_isBetter_27 (by first | assumption | decide) ?_
      exact ⟨by simp [*, bI], rfl⟩
  · refine r_iload_n 5 hX dX7_isBetter_4 rfl ?_
    refine r_iload_n 6 hX dX7_isBetter_5 rfl ?_
    refine r_icmp_le 9 13 hX dX7_isBetter_6 (fun c3 => ?_) (fun c3 => ?_)
    · refine r_iconst 14 hX dX7_isBetter_13 (v := 0) (by decide) ?_
      refine r_goto 27 hX dX7_isBetter_14 ?_
      refine r_zret hX hT dX7_isBetter_27 (by first | assumption | decide) ?_
      exact ⟨by simp [*, bI], rfl⟩
    · refine r_iconst 10 hX dX7_isBetter_9 (v := 1) (by decide) ?_
      refine r_goto 27 hX dX7_isBetter_10 ?_
      refine r_zret hX hT dX7_isBetter_27 (by first | assumption | decide) ?_
      exact ⟨by simp [*, bI], rfl⟩
set_option maxRecDepth 100000 in
set_option maxHeartbeats 4000000 in
theorem tX7_tellRow {l : Launch} {G : mx_G} {n : Int32} {M : mx_Mem} : mx_Met l G yX7_tellRow cX7_tellRow 2 (none) 0 0 [.ref 0, .int n] M (mx_F none (mI (mI M 0 13 1) 0 14 n)) := by
  refine mx_enter (own := RX7) (L := [.ref 0, .int n]) (by decide +kernel) rfl rfl rfl ?_
  intro X hlX hX hR hT
  refine r_aload_n 1 hX dX7_tellRow_0 rfl ?_
  refine r_iconst 2 hX dX7_tellRow_1 (v := 1) (by decide) ?_
  refine r_putI 5 hX dX7_tellRow_2 fX7_76 fp7_13 rfl rfl rfl ?_
  refine r_aload_n 6 hX dX7_tellRow_5 rfl ?_
  refine r_iload_n 7 hX dX7_tellRow_6 rfl ?_
  refine r_putI 10 hX dX7_tellRow_7 fX7_80 fp7_14 rfl rfl rfl ?_
  refine r_vret hX hT dX7_tellRow_10 ?_
  exact ⟨rfl, rfl⟩
set_option maxRecDepth 100000 in
set_option maxHeartbeats 4000000 in
theorem tX3_wins {l : Launch} {G : mx_G} {a b t c : Int32} {M : mx_Mem} : mx_Met l G yX3_wins cX3_wins 4 ((some FieldType.boolean)) 0 0 [.int a, .int b, .int t, .int c] M (mx_F (some (.int (bI (c ≤ a ∨ (t ≤ a ∧ 2 ≤ a - b))))) M) := by
  refine mx_enter (own := RX3) (L := [.int a, .int b, .int t, .int c]) (by decide +kernel) rfl rfl rfl ?_
  intro X hlX hX hR hT
  refine r_iload_n 1 hX dX3_wins_0 rfl ?_
  refine r_iload_n 2 hX dX3_wins_1 rfl ?_
  refine r_icmp_ge 5 17 hX dX3_wins_2 (fun c1 => ?_) (fun c1 => ?_)
  · refine r_iconst 18 hX dX3_wins_17 (v := 1) (by decide) ?_
    refine r_goto 22 hX dX3_wins_18 ?_
    refine r_zret hX hT dX3_wins_22 (by first | assumption | decide) ?_
    exact ⟨by simp [*, bI], rfl⟩
  · refine r_iload_n 6 hX dX3_wins_5 rfl ?_
    refine r_iload_n 7 hX dX3_wins_6 rfl ?_
    refine r_Icmp_lt 10 21 hX dX3_wins_7 (fun c2 => ?_) (fun c2 => ?_)
    · refine r_iconst 22 hX dX3_wins_21 (v := 0) (by decide) ?_
      refine r_zret hX hT dX3_wins_22 (by first | assumption | decide) ?_
      exact ⟨by simp [*, bI], rfl⟩
    · refine r_iload_n 11 hX dX3_wins_10 rfl ?_
      refine r_iload_n 12 hX dX3_wins_11 rfl ?_
      refine r_isub 13 hX dX3_wins_12 ?_
      refine r_iconst 14 hX dX3_wins_13 (v := 2) (by decide) ?_
      refine r_Icmp_lt 17 21 hX dX3_wins_14 (fun c3 => ?_) (fun c3 => ?_)
      · refine r_iconst 22 hX dX3_wins_21 (v := 0) (by decide) ?_
        refine r_zret hX hT dX3_wins_22 (by first | assumption | decide) ?_
        exact ⟨by simp [*, bI], rfl⟩
      · refine r_iconst 18 hX dX3_wins_17 (v := 1) (by decide) ?_
        refine r_goto 22 hX dX3_wins_18 ?_
        refine r_zret hX hT dX3_wins_22 (by first | assumption | decide) ?_
        exact ⟨by simp [*, bI], rfl⟩
set_option maxRecDepth 100000 in
set_option maxHeartbeats 4000000 in
theorem tX7_isTeam_0 {l : Launch} {G : mx_G} {M : mx_Mem} : mx_Met l G yX7_isTeam cX7_isTeam 1 ((some FieldType.boolean)) 0 0 [.int 0] M (mx_F (some (.int 1)) M) := by
  refine mx_enter (own := RX7) (L := [.int 0]) (by decide +kernel) rfl rfl rfl ?_
  intro X hlX hX hR hT
  refine r_iload_n 1 hX dX7_isTeam_0 rfl ?_
  refine r_if_eq 4 9 hX dX7_isTeam_1 (fun _ => ?_) (fun c => absurd c (by decide))
  refine r_iconst 10 hX dX7_isTeam_9 (v := 1) (by decide) ?_
  refine r_goto 14 hX dX7_isTeam_10 ?_
  refine r_zret hX hT dX7_isTeam_14 (by first | assumption | decide) ?_
  exact ⟨rfl, rfl⟩
set_option maxRecDepth 100000 in
set_option maxHeartbeats 4000000 in
theorem tX7_isTeam_1 {l : Launch} {G : mx_G} {M : mx_Mem} : mx_Met l G yX7_isTeam cX7_isTeam 1 ((some FieldType.boolean)) 0 0 [.int 1] M (mx_F (some (.int 1)) M) := by
  refine mx_enter (own := RX7) (L := [.int 1]) (by decide +kernel) rfl rfl rfl ?_
  intro X hlX hX hR hT
  refine r_iload_n 1 hX dX7_isTeam_0 rfl ?_
  refine r_if_eq 4 9 hX dX7_isTeam_1 (fun c => absurd c (by decide)) (fun _ => ?_)
  refine r_iload_n 5 hX dX7_isTeam_4 rfl ?_
  refine r_iconst 6 hX dX7_isTeam_5 (v := 1) (by decide) ?_
  refine r_icmp_ne 9 13 hX dX7_isTeam_6 (fun c => absurd c (by decide)) (fun _ => ?_)
  refine r_iconst 10 hX dX7_isTeam_9 (v := 1) (by decide) ?_
  refine r_goto 14 hX dX7_isTeam_10 ?_
  refine r_zret hX hT dX7_isTeam_14 (by first | assumption | decide) ?_
  exact ⟨rfl, rfl⟩

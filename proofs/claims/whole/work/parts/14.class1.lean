/-! Math.floorMod by 6; Numbers, Squad -/
theorem mx_x6 : ∀ b : Nat, b < 12 → 0 ≤ nI b ^^^ 6 := by decide
theorem mx_r6 (a : Nat) (ha : a < 12) : nI a - nI a / 6 * 6 = nI (a % 6) := by
  have h6 : (6 : Int32) = nI 6 := rfl
  rw [h6]
  exact pk_rem (by omega) (by omega) (by omega)
set_option maxRecDepth 100000 in
set_option maxHeartbeats 4000000 in
theorem tJ9_floorMod_7cf53 {l : Launch} {G : mx_G} {a : Nat} {M : mx_Mem} (ha : a < 12) : mx_Met l G yJ9_floorMod_7cf53 cJ9_floorMod_7cf53 3 ((some FieldType.int)) 0 0 [.int (nI a), .int 6] M (mx_F (some (.int (nI (a % 6)))) M) := by
  refine mx_enter (own := RJ9) (L := [.int (nI a), .int 6, .null]) (by decide +kernel) rfl rfl rfl ?_
  intro X hlX hX hR hT
  have e := mx_r6 a ha
  have h9 := mx_x6 a ha
  generalize nI (a % 6) = z at e h9 hT ⊢
  generalize nI a = w at e h9 hT ⊢
  refine r_iload_n 1 hX dJ9_floorMod_7cf53_0 rfl ?_
  refine r_iload_n 2 hX dJ9_floorMod_7cf53_1 rfl ?_
  refine r_irem 3 hX dJ9_floorMod_7cf53_2 (by decide) ?_
  rw [e]
  refine r_istore_n 4 hX dJ9_floorMod_7cf53_3 rfl ?_
  refine r_iload_n 5 hX dJ9_floorMod_7cf53_4 rfl ?_
  refine r_iload_n 6 hX dJ9_floorMod_7cf53_5 rfl ?_
  refine r_ixor 7 hX dJ9_floorMod_7cf53_6 ?_
  refine r_if_ge 10 18 hX dJ9_floorMod_7cf53_7 (fun c1 => ?_) (fun c1 => absurd h9 c1)
  refine r_iload_n 19 hX dJ9_floorMod_7cf53_18 rfl ?_
  refine r_iret hX hT dJ9_floorMod_7cf53_19 ?_
  exact ⟨rfl, rfl⟩
abbrev nbL : List Int32 := [5, 5, 5, 1, 0, 0]
abbrev nbH : List Int32 := [25, 30, 25, 3, 12, 4]
def nbTk (f : Nat → Int32) (w v : Int32) : Int32 := if 0 ≤ w then if 6 ≤ w then 0 else if nbL.getD w.toNatClampNeg 0 ≤ v then if v ≤ nbH.getD w.toNatClampNeg 0 then if w = 0 then if v ≤ f 1 then 1 else 0 else if w = 1 then if f 0 ≤ v then 1 else 0 else 1 else 0 else 0 else 0
set_option maxRecDepth 100000 in
set_option maxHeartbeats 4000000 in
theorem tX3_takes {l : Launch} {G : mx_G} {w v : Int32} {M : mx_Mem} : mx_Met l G yX3_takes cX3_takes 3 ((some FieldType.boolean)) 0 0 [.ref 1, .int w, .int v] M (mx_F (some (.int (bI (nbTk (M.1 2) w v = 1)))) M) := by
  refine mx_enter (own := RX3) (L := [.ref 1, .int w, .int v]) (by decide +kernel) rfl rfl rfl ?_
  intro X hlX hX hR hT
  refine r_iload_n 1 hX dX3_takes_0 rfl ?_
  refine r_If_lt 4 31 hX dX3_takes_1 (fun c1 => ?_) (fun c1 => ?_)
  · refine r_iconst 32 hX dX3_takes_31 (v := 0) (by decide) ?_
    refine r_zret hX hT dX3_takes_32 (by first | assumption | decide) ?_
    clear hT hX hR hlX
    exact ⟨by grind [nbTk, bI], rfl⟩
  · refine r_iload_n 5 hX dX3_takes_4 rfl ?_
    refine r_aload_n 6 hX dX3_takes_5 rfl ?_
    refine r_getR 9 hX dX3_takes_6 fX3_9 rfl rfl rfl ?_
    refine r_alen 10 hX dX3_takes_9 rfl rfl (v := 6) (by decide) ?_
    refine r_icmp_ge 13 31 hX dX3_takes_10 (fun c2 => ?_) (fun c2 => ?_)
    · refine r_iconst 32 hX dX3_takes_31 (v := 0) (by decide) ?_
      refine r_zret hX hT dX3_takes_32 (by first | assumption | decide) ?_
      clear hT hX hR hlX
      exact ⟨by grind [nbTk, bI], rfl⟩
    · refine r_iload_n 14 hX dX3_takes_13 rfl ?_
      refine r_gets 17 hX dX3_takes_14 sX3_15 ?_
      refine r_iload_n 18 hX dX3_takes_17 rfl ?_
      refine r_tald 19 hX dX3_takes_18 (j := 2) rfl (by first | assumption | exact vpK rfl | exact vpP (by assumption) | exact vp6 (by assumption) (by assumption) | exact vp12 (by assumption) (by assumption) | exact vp48 (by assumption) (by assumption) | exact vp100 (by assumption) (by assumption)) ?_
      refine r_Icmp_lt 22 31 hX dX3_takes_19 (fun c3 => ?_) (fun c3 => ?_)
      · refine r_iconst 32 hX dX3_takes_31 (v := 0) (by decide) ?_
        refine r_zret hX hT dX3_takes_32 (by first | assumption | decide) ?_
        clear hT hX hR hlX
        exact ⟨by grind [nbTk, bI], rfl⟩
      · refine r_iload_n 23 hX dX3_takes_22 rfl ?_
        refine r_gets 26 hX dX3_takes_23 sX3_18 ?_
        refine r_iload_n 27 hX dX3_takes_26 rfl ?_
        refine r_tald 28 hX dX3_takes_27 (j := 3) rfl (by first | assumption | exact vpK rfl | exact vpP (by assumption) | exact vp6 (by assumption) (by assumption) | exact vp12 (by assumption) (by assumption) | exact vp48 (by assumption) (by assumption) | exact vp100 (by assumption) (by assumption)) ?_
        refine r_icmp_le 31 33 hX dX3_takes_28 (fun c4 => ?_) (fun c4 => ?_)
        · refine r_iload_n 34 hX dX3_takes_33 rfl ?_
          refine r_if_ne 37 53 hX dX3_takes_34 (fun c5 => ?_) (fun c5 => ?_)
          · refine r_iload_n 54 hX dX3_takes_53 rfl ?_
            refine r_iconst 55 hX dX3_takes_54 (v := 1) (by decide) ?_
            refine r_icmp_ne 58 68 hX dX3_takes_55 (fun c6 => ?_) (fun c6 => ?_)
            · refine r_iconst 69 hX dX3_takes_68 (v := 1) (by decide) ?_
              refine r_goto 73 hX dX3_takes_69 ?_
              refine r_zret hX hT dX3_takes_73 (by first | assumption | decide) ?_
              clear hT hX hR hlX
              exact ⟨by grind [nbTk, bI], rfl⟩
            · refine r_iload_n 59 hX dX3_takes_58 rfl ?_
              refine r_aload_n 60 hX dX3_takes_59 rfl ?_
              refine r_getR 63 hX dX3_takes_60 fX3_9 rfl rfl rfl ?_
              refine r_iconst 64 hX dX3_takes_63 (v := 0) (by decide) ?_
              refine r_ialdK 65 hX dX3_takes_64 rfl rfl (vpK rfl) (j := 0) (by decide) ?_
              refine r_Icmp_lt 68 72 hX dX3_takes_65 (fun c7 => ?_) (fun c7 => ?_)
              · refine r_iconst 73 hX dX3_takes_72 (v := 0) (by decide) ?_
                refine r_zret hX hT dX3_takes_73 (by first | assumption | decide) ?_
                clear hT hX hR hlX
                exact ⟨by grind [nbTk, bI], rfl⟩
              · refine r_iconst 69 hX dX3_takes_68 (v := 1) (by decide) ?_
                refine r_goto 73 hX dX3_takes_69 ?_
                refine r_zret hX hT dX3_takes_73 (by first | assumption | decide) ?_
                clear hT hX hR hlX
                exact ⟨by grind [nbTk, bI], rfl⟩
          · refine r_iload_n 38 hX dX3_takes_37 rfl ?_
            refine r_aload_n 39 hX dX3_takes_38 rfl ?_
            refine r_getR 42 hX dX3_takes_39 fX3_9 rfl rfl rfl ?_
            refine r_iconst 43 hX dX3_takes_42 (v := 1) (by decide) ?_
            refine r_ialdK 44 hX dX3_takes_43 rfl rfl (vpK rfl) (j := 1) (by decide) ?_
            refine r_Icmp_gt 47 51 hX dX3_takes_44 (fun c8 => ?_) (fun c8 => ?_)
            · refine r_iconst 52 hX dX3_takes_51 (v := 0) (by decide) ?_
              refine r_zret hX hT dX3_takes_52 (by first | assumption | decide) ?_
              clear hT hX hR hlX
              exact ⟨by grind [nbTk, bI], rfl⟩
            · refine r_iconst 48 hX dX3_takes_47 (v := 1) (by decide) ?_
              refine r_goto 52 hX dX3_takes_48 ?_
              refine r_zret hX hT dX3_takes_52 (by first | assumption | decide) ?_
              clear hT hX hR hlX
              exact ⟨by grind [nbTk, bI], rfl⟩
        · refine r_iconst 32 hX dX3_takes_31 (v := 0) (by decide) ?_
          refine r_zret hX hT dX3_takes_32 (by first | assumption | decide) ?_
          clear hT hX hR hlX
          exact ⟨by grind [nbTk, bI], rfl⟩
set_option maxRecDepth 100000 in
set_option maxHeartbeats 4000000 in
theorem tX3_valueOf {l : Launch} {G : mx_G} {w : Int32} {M : mx_Mem} : mx_Met l G yX3_valueOf cX3_valueOf 2 ((some FieldType.int)) 0 0 [.ref 1, .int w] M (mx_F (some (.int (if 0 ≤ w ∧ ¬ 6 ≤ w then M.1 2 w.toNatClampNeg else 0))) M) := by
  refine mx_enter (own := RX3) (L := [.ref 1, .int w]) (by decide +kernel) rfl rfl rfl ?_
  intro X hlX hX hR hT
  refine r_iload_n 1 hX dX3_valueOf_0 rfl ?_
  refine r_If_lt 4 22 hX dX3_valueOf_1 (fun c1 => ?_) (fun c1 => ?_)
  · refine r_iconst 23 hX dX3_valueOf_22 (v := 0) (by decide) ?_
    refine r_iret hX hT dX3_valueOf_23 ?_
    exact ⟨by simp [*], rfl⟩
  · refine r_iload_n 5 hX dX3_valueOf_4 rfl ?_
    refine r_aload_n 6 hX dX3_valueOf_5 rfl ?_
    refine r_getR 9 hX dX3_valueOf_6 fX3_9 rfl rfl rfl ?_
    refine r_alen 10 hX dX3_valueOf_9 rfl rfl (v := 6) (by decide) ?_
    refine r_icmp_ge 13 22 hX dX3_valueOf_10 (fun c2 => ?_) (fun c2 => ?_)
    · refine r_iconst 23 hX dX3_valueOf_22 (v := 0) (by decide) ?_
      refine r_iret hX hT dX3_valueOf_23 ?_
      exact ⟨by simp [*], rfl⟩
    · refine r_aload_n 14 hX dX3_valueOf_13 rfl ?_
      refine r_getR 17 hX dX3_valueOf_14 fX3_9 rfl rfl rfl ?_
      refine r_iload_n 18 hX dX3_valueOf_17 rfl ?_
      refine r_iald 19 hX dX3_valueOf_18 rfl rfl (by first | assumption | exact vpK rfl | exact vpP (by assumption) | exact vp6 (by assumption) (by assumption) | exact vp12 (by assumption) (by assumption) | exact vp48 (by assumption) (by assumption) | exact vp100 (by assumption) (by assumption)) ?_
      refine r_goto 23 hX dX3_valueOf_19 ?_
      refine r_iret hX hT dX3_valueOf_23 ?_
      exact ⟨by simp [*], rfl⟩
set_option maxRecDepth 100000 in
set_option maxHeartbeats 4000000 in
theorem tX3_valueOf_1 {l : Launch} {G : mx_G} {M : mx_Mem} : mx_Met l G yX3_valueOf cX3_valueOf 2 ((some FieldType.int)) 0 0 [.ref 1, .int 1] M (mx_F (some (.int (M.1 2 1))) M) := by
  refine mx_enter (own := RX3) (L := [.ref 1, .int 1]) (by decide +kernel) rfl rfl rfl ?_
  intro X hlX hX hR hT
  refine r_iload_n 1 hX dX3_valueOf_0 rfl ?_
  refine r_If_lt 4 22 hX dX3_valueOf_1 (fun c => absurd c (by decide)) (fun _ => ?_)
  refine r_iload_n 5 hX dX3_valueOf_4 rfl ?_
  refine r_aload_n 6 hX dX3_valueOf_5 rfl ?_
  refine r_getR 9 hX dX3_valueOf_6 fX3_9 rfl rfl rfl ?_
  refine r_alen 10 hX dX3_valueOf_9 rfl rfl (v := 6) (by decide) ?_
  refine r_icmp_ge 13 22 hX dX3_valueOf_10 (fun c => absurd c (by decide)) (fun _ => ?_)
  refine r_aload_n 14 hX dX3_valueOf_13 rfl ?_
  refine r_getR 17 hX dX3_valueOf_14 fX3_9 rfl rfl rfl ?_
  refine r_iload_n 18 hX dX3_valueOf_17 rfl ?_
  refine r_ialdK 19 hX dX3_valueOf_18 rfl rfl (vpK rfl) (j := 1) (by decide) ?_
  refine r_goto 23 hX dX3_valueOf_19 ?_
  refine r_iret hX hT dX3_valueOf_23 ?_
  exact ⟨rfl, rfl⟩
set_option maxRecDepth 100000 in
set_option maxHeartbeats 4000000 in
theorem tX3_valueOf_3 {l : Launch} {G : mx_G} {M : mx_Mem} : mx_Met l G yX3_valueOf cX3_valueOf 2 ((some FieldType.int)) 0 0 [.ref 1, .int 3] M (mx_F (some (.int (M.1 2 3))) M) := by
  refine mx_enter (own := RX3) (L := [.ref 1, .int 3]) (by decide +kernel) rfl rfl rfl ?_
  intro X hlX hX hR hT
  refine r_iload_n 1 hX dX3_valueOf_0 rfl ?_
  refine r_If_lt 4 22 hX dX3_valueOf_1 (fun c => absurd c (by decide)) (fun _ => ?_)
  refine r_iload_n 5 hX dX3_valueOf_4 rfl ?_
  refine r_aload_n 6 hX dX3_valueOf_5 rfl ?_
  refine r_getR 9 hX dX3_valueOf_6 fX3_9 rfl rfl rfl ?_
  refine r_alen 10 hX dX3_valueOf_9 rfl rfl (v := 6) (by decide) ?_
  refine r_icmp_ge 13 22 hX dX3_valueOf_10 (fun c => absurd c (by decide)) (fun _ => ?_)
  refine r_aload_n 14 hX dX3_valueOf_13 rfl ?_
  refine r_getR 17 hX dX3_valueOf_14 fX3_9 rfl rfl rfl ?_
  refine r_iload_n 18 hX dX3_valueOf_17 rfl ?_
  refine r_ialdK 19 hX dX3_valueOf_18 rfl rfl (vpK rfl) (j := 3) (by decide) ?_
  refine r_goto 23 hX dX3_valueOf_19 ?_
  refine r_iret hX hT dX3_valueOf_23 ?_
  exact ⟨rfl, rfl⟩
set_option maxRecDepth 100000 in
set_option maxHeartbeats 4000000 in
theorem tX3_valueOf_4 {l : Launch} {G : mx_G} {M : mx_Mem} : mx_Met l G yX3_valueOf cX3_valueOf 2 ((some FieldType.int)) 0 0 [.ref 1, .int 4] M (mx_F (some (.int (M.1 2 4))) M) := by
  refine mx_enter (own := RX3) (L := [.ref 1, .int 4]) (by decide +kernel) rfl rfl rfl ?_
  intro X hlX hX hR hT
  refine r_iload_n 1 hX dX3_valueOf_0 rfl ?_
  refine r_If_lt 4 22 hX dX3_valueOf_1 (fun c => absurd c (by decide)) (fun _ => ?_)
  refine r_iload_n 5 hX dX3_valueOf_4 rfl ?_
  refine r_aload_n 6 hX dX3_valueOf_5 rfl ?_
  refine r_getR 9 hX dX3_valueOf_6 fX3_9 rfl rfl rfl ?_
  refine r_alen 10 hX dX3_valueOf_9 rfl rfl (v := 6) (by decide) ?_
  refine r_icmp_ge 13 22 hX dX3_valueOf_10 (fun c => absurd c (by decide)) (fun _ => ?_)
  refine r_aload_n 14 hX dX3_valueOf_13 rfl ?_
  refine r_getR 17 hX dX3_valueOf_14 fX3_9 rfl rfl rfl ?_
  refine r_iload_n 18 hX dX3_valueOf_17 rfl ?_
  refine r_ialdK 19 hX dX3_valueOf_18 rfl rfl (vpK rfl) (j := 4) (by decide) ?_
  refine r_goto 23 hX dX3_valueOf_19 ?_
  refine r_iret hX hT dX3_valueOf_23 ?_
  exact ⟨rfl, rfl⟩
set_option maxRecDepth 100000 in
set_option maxHeartbeats 4000000 in
theorem tX3_valueOf_5 {l : Launch} {G : mx_G} {M : mx_Mem} : mx_Met l G yX3_valueOf cX3_valueOf 2 ((some FieldType.int)) 0 0 [.ref 1, .int 5] M (mx_F (some (.int (M.1 2 5))) M) := by
  refine mx_enter (own := RX3) (L := [.ref 1, .int 5]) (by decide +kernel) rfl rfl rfl ?_
  intro X hlX hX hR hT
  refine r_iload_n 1 hX dX3_valueOf_0 rfl ?_
  refine r_If_lt 4 22 hX dX3_valueOf_1 (fun c => absurd c (by decide)) (fun _ => ?_)
  refine r_iload_n 5 hX dX3_valueOf_4 rfl ?_
  refine r_aload_n 6 hX dX3_valueOf_5 rfl ?_
  refine r_getR 9 hX dX3_valueOf_6 fX3_9 rfl rfl rfl ?_
  refine r_alen 10 hX dX3_valueOf_9 rfl rfl (v := 6) (by decide) ?_
  refine r_icmp_ge 13 22 hX dX3_valueOf_10 (fun c => absurd c (by decide)) (fun _ => ?_)
  refine r_aload_n 14 hX dX3_valueOf_13 rfl ?_
  refine r_getR 17 hX dX3_valueOf_14 fX3_9 rfl rfl rfl ?_
  refine r_iload_n 18 hX dX3_valueOf_17 rfl ?_
  refine r_ialdK 19 hX dX3_valueOf_18 rfl rfl (vpK rfl) (j := 5) (by decide) ?_
  refine r_goto 23 hX dX3_valueOf_19 ?_
  refine r_iret hX hT dX3_valueOf_23 ?_
  exact ⟨rfl, rfl⟩
set_option maxRecDepth 100000 in
set_option maxHeartbeats 4000000 in
theorem tX3_putValue {l : Launch} {G : mx_G} {w v : Int32} {M : mx_Mem} : mx_Met l G yX3_putValue cX3_putValue 3 (none) 0 0 [.ref 1, .int w, .int v] M (mx_F none (if 0 ≤ w ∧ ¬ 6 ≤ w then mI M 2 w.toNatClampNeg v else M)) := by
  refine mx_enter (own := RX3) (L := [.ref 1, .int w, .int v]) (by decide +kernel) rfl rfl rfl ?_
  intro X hlX hX hR hT
  refine r_iload_n 1 hX dX3_putValue_0 rfl ?_
  refine r_If_lt 4 20 hX dX3_putValue_1 (fun c1 => ?_) (fun c1 => ?_)
  · refine r_vret hX hT dX3_putValue_20 ?_
    exact ⟨rfl, by simp [*]⟩
  · refine r_iload_n 5 hX dX3_putValue_4 rfl ?_
    refine r_aload_n 6 hX dX3_putValue_5 rfl ?_
    refine r_getR 9 hX dX3_putValue_6 fX3_9 rfl rfl rfl ?_
    refine r_alen 10 hX dX3_putValue_9 rfl rfl (v := 6) (by decide) ?_
    refine r_icmp_ge 13 20 hX dX3_putValue_10 (fun c2 => ?_) (fun c2 => ?_)
    · refine r_vret hX hT dX3_putValue_20 ?_
      exact ⟨rfl, by simp [*]⟩
    · refine r_aload_n 14 hX dX3_putValue_13 rfl ?_
      refine r_getR 17 hX dX3_putValue_14 fX3_9 rfl rfl rfl ?_
      refine r_iload_n 18 hX dX3_putValue_17 rfl ?_
      refine r_iload_n 19 hX dX3_putValue_18 rfl ?_
      refine r_iast 20 hX dX3_putValue_19 rfl rfl (by first | assumption | exact vpK rfl | exact vpP (by assumption) | exact vp6 (by assumption) (by assumption) | exact vp12 (by assumption) (by assumption) | exact vp48 (by assumption) (by assumption) | exact vp100 (by assumption) (by assumption)) ?_
      refine r_vret hX hT dX3_putValue_20 ?_
      exact ⟨rfl, by simp [*]⟩
def tgt (f : Nat → Int32) (a b : Int32) : Int32 := if ¬ f 3 - 1 ≤ 0 ∧ a = f 3 - 1 ∧ b = f 3 - 1 then f 2 else f 0
set_option maxRecDepth 100000 in
set_option maxHeartbeats 4000000 in
theorem tX3_target {l : Launch} {G : mx_G} {a b : Int32} {M : mx_Mem} : mx_Met l G yX3_target cX3_target 5 ((some FieldType.int)) 0 0 [.ref 1, .int a, .int b] M (mx_F (some (.int (tgt (M.1 2) a b))) M) := by
  refine mx_enter (own := RX3) (L := [.ref 1, .int a, .int b, .null, .null]) (by decide +kernel) rfl rfl rfl ?_
  intro X hlX hX hR hT
  refine r_aload_n 1 hX dX3_target_0 rfl ?_
  refine r_getR 4 hX dX3_target_1 fX3_9 rfl rfl rfl ?_
  refine r_iconst 5 hX dX3_target_4 (v := 3) (by decide) ?_
  refine r_ialdK 6 hX dX3_target_5 rfl rfl (vpK rfl) (j := 3) (by decide) ?_
  refine r_iconst 7 hX dX3_target_6 (v := 1) (by decide) ?_
  refine r_isub 8 hX dX3_target_7 ?_
  refine r_istore_n 9 hX dX3_target_8 rfl ?_
  refine r_iload_n 10 hX dX3_target_9 rfl ?_
  refine r_if_le 13 27 hX dX3_target_10 (fun c1 => ?_) (fun c1 => ?_)
  · refine r_iconst 28 hX dX3_target_27 (v := 0) (by decide) ?_
    refine r_istore 30 hX dX3_target_28 rfl ?_
    refine r_iload 32 hX dX3_target_30 rfl ?_
    refine r_if_eq 35 44 hX dX3_target_32 (fun _ => ?_) (fun c => absurd c (by decide))
    refine r_aload_n 45 hX dX3_target_44 rfl ?_
    refine r_getR 48 hX dX3_target_45 fX3_9 rfl rfl rfl ?_
    refine r_iconst 49 hX dX3_target_48 (v := 0) (by decide) ?_
    refine r_ialdK 50 hX dX3_target_49 rfl rfl (vpK rfl) (j := 0) (by decide) ?_
    refine r_iret hX hT dX3_target_50 ?_
    exact ⟨by simp [*, tgt], rfl⟩
  · refine r_iload_n 14 hX dX3_target_13 rfl ?_
    refine r_iload_n 15 hX dX3_target_14 rfl ?_
    refine r_icmp_ne 18 27 hX dX3_target_15 (fun c2 => ?_) (fun c2 => ?_)
    · refine r_iconst 28 hX dX3_target_27 (v := 0) (by decide) ?_
      refine r_istore 30 hX dX3_target_28 rfl ?_
      refine r_iload 32 hX dX3_target_30 rfl ?_
      refine r_if_eq 35 44 hX dX3_target_32 (fun _ => ?_) (fun c => absurd c (by decide))
      refine r_aload_n 45 hX dX3_target_44 rfl ?_
      refine r_getR 48 hX dX3_target_45 fX3_9 rfl rfl rfl ?_
      refine r_iconst 49 hX dX3_target_48 (v := 0) (by decide) ?_
      refine r_ialdK 50 hX dX3_target_49 rfl rfl (vpK rfl) (j := 0) (by decide) ?_
      refine r_iret hX hT dX3_target_50 ?_
      exact ⟨by simp [*, tgt], rfl⟩
    · refine r_iload_n 19 hX dX3_target_18 rfl ?_
      refine r_iload_n 20 hX dX3_target_19 rfl ?_
      refine r_icmp_ne 23 27 hX dX3_target_20 (fun c3 => ?_) (fun c3 => ?_)
      · refine r_iconst 28 hX dX3_target_27 (v := 0) (by decide) ?_
        refine r_istore 30 hX dX3_target_28 rfl ?_
        refine r_iload 32 hX dX3_target_30 rfl ?_
        refine r_if_eq 35 44 hX dX3_target_32 (fun _ => ?_) (fun c => absurd c (by decide))
        refine r_aload_n 45 hX dX3_target_44 rfl ?_
        refine r_getR 48 hX dX3_target_45 fX3_9 rfl rfl rfl ?_
        refine r_iconst 49 hX dX3_target_48 (v := 0) (by decide) ?_
        refine r_ialdK 50 hX dX3_target_49 rfl rfl (vpK rfl) (j := 0) (by decide) ?_
        refine r_iret hX hT dX3_target_50 ?_
        exact ⟨by simp [*, tgt], rfl⟩
      · refine r_iconst 24 hX dX3_target_23 (v := 1) (by decide) ?_
        refine r_goto 28 hX dX3_target_24 ?_
        refine r_istore 30 hX dX3_target_28 rfl ?_
        refine r_iload 32 hX dX3_target_30 rfl ?_
        refine r_if_eq 35 44 hX dX3_target_32 (fun c => absurd c (by decide)) (fun _ => ?_)
        refine r_aload_n 36 hX dX3_target_35 rfl ?_
        refine r_getR 39 hX dX3_target_36 fX3_9 rfl rfl rfl ?_
        refine r_iconst 40 hX dX3_target_39 (v := 2) (by decide) ?_
        refine r_ialdK 41 hX dX3_target_40 rfl rfl (vpK rfl) (j := 2) (by decide) ?_
        refine r_goto 50 hX dX3_target_41 ?_
        refine r_iret hX hT dX3_target_50 ?_
        exact ⟨by simp [*, tgt], rfl⟩
def sko (f : Nat → Int32) (p w : Int32) : Int32 := if 0 ≤ p * 4 + w ∧ ¬ 48 ≤ p * 4 + w then f (p * 4 + w).toNatClampNeg else 0
set_option maxRecDepth 100000 in
set_option maxHeartbeats 4000000 in
theorem tX4_skillOf_3 {l : Launch} {G : mx_G} {p w : Int32} {M : mx_Mem} : mx_Met l G yX4_skillOf cX4_skillOf 4 ((some FieldType.int)) 0 0 [.ref 3, .int p, .int w] M (mx_F (some (.int (sko (M.1 4) p w))) M) := by
  refine mx_enter (own := RX4) (L := [.ref 3, .int p, .int w, .null]) (by decide +kernel) rfl rfl rfl ?_
  intro X hlX hX hR hT
  refine r_iload_n 1 hX dX4_skillOf_0 rfl ?_
  refine r_iconst 2 hX dX4_skillOf_1 (v := 4) (by decide) ?_
  refine r_imul 3 hX dX4_skillOf_2 ?_
  refine r_iload_n 4 hX dX4_skillOf_3 rfl ?_
  refine r_iadd 5 hX dX4_skillOf_4 ?_
  refine r_istore_n 6 hX dX4_skillOf_5 rfl ?_
  refine r_iload_n 7 hX dX4_skillOf_6 rfl ?_
  refine r_If_lt 10 28 hX dX4_skillOf_7 (fun c1 => ?_) (fun c1 => ?_)
  · refine r_iconst 29 hX dX4_skillOf_28 (v := 0) (by decide) ?_
    refine r_iret hX hT dX4_skillOf_29 ?_
    exact ⟨by simp [*, sko], rfl⟩
  · refine r_iload_n 11 hX dX4_skillOf_10 rfl ?_
    refine r_aload_n 12 hX dX4_skillOf_11 rfl ?_
    refine r_getR 15 hX dX4_skillOf_12 fX4_9 rfl rfl rfl ?_
    refine r_alen 16 hX dX4_skillOf_15 rfl rfl (v := 48) (by decide) ?_
    refine r_icmp_ge 19 28 hX dX4_skillOf_16 (fun c2 => ?_) (fun c2 => ?_)
    · refine r_iconst 29 hX dX4_skillOf_28 (v := 0) (by decide) ?_
      refine r_iret hX hT dX4_skillOf_29 ?_
      exact ⟨by simp [*, sko], rfl⟩
    · refine r_aload_n 20 hX dX4_skillOf_19 rfl ?_
      refine r_getR 23 hX dX4_skillOf_20 fX4_9 rfl rfl rfl ?_
      refine r_iload_n 24 hX dX4_skillOf_23 rfl ?_
      refine r_iald 25 hX dX4_skillOf_24 rfl rfl (by first | assumption | exact vpK rfl | exact vpP (by assumption) | exact vp6 (by assumption) (by assumption) | exact vp12 (by assumption) (by assumption) | exact vp48 (by assumption) (by assumption) | exact vp100 (by assumption) (by assumption)) ?_
      refine r_goto 29 hX dX4_skillOf_25 ?_
      refine r_iret hX hT dX4_skillOf_29 ?_
      exact ⟨by simp [*, sko], rfl⟩
set_option maxRecDepth 100000 in
set_option maxHeartbeats 4000000 in
theorem tX4_putSkill_3 {l : Launch} {G : mx_G} {p w v : Int32} {M : mx_Mem} : mx_Met l G yX4_putSkill cX4_putSkill 5 (none) 0 0 [.ref 3, .int p, .int w, .int v] M (mx_F none (if 0 ≤ p * 4 + w ∧ ¬ 48 ≤ p * 4 + w then mI M 4 (p * 4 + w).toNatClampNeg v else M)) := by
  refine mx_enter (own := RX4) (L := [.ref 3, .int p, .int w, .int v, .null]) (by decide +kernel) rfl rfl rfl ?_
  intro X hlX hX hR hT
  refine r_iload_n 1 hX dX4_putSkill_0 rfl ?_
  refine r_iconst 2 hX dX4_putSkill_1 (v := 4) (by decide) ?_
  refine r_imul 3 hX dX4_putSkill_2 ?_
  refine r_iload_n 4 hX dX4_putSkill_3 rfl ?_
  refine r_iadd 5 hX dX4_putSkill_4 ?_
  refine r_istore 7 hX dX4_putSkill_5 rfl ?_
  refine r_iload 9 hX dX4_putSkill_7 rfl ?_
  refine r_If_lt 12 30 hX dX4_putSkill_9 (fun c1 => ?_) (fun c1 => ?_)
  · refine r_vret hX hT dX4_putSkill_30 ?_
    exact ⟨rfl, by simp [*]⟩
  · refine r_iload 14 hX dX4_putSkill_12 rfl ?_
    refine r_aload_n 15 hX dX4_putSkill_14 rfl ?_
    refine r_getR 18 hX dX4_putSkill_15 fX4_9 rfl rfl rfl ?_
    refine r_alen 19 hX dX4_putSkill_18 rfl rfl (v := 48) (by decide) ?_
    refine r_icmp_ge 22 30 hX dX4_putSkill_19 (fun c2 => ?_) (fun c2 => ?_)
    · refine r_vret hX hT dX4_putSkill_30 ?_
      exact ⟨rfl, by simp [*]⟩
    · refine r_aload_n 23 hX dX4_putSkill_22 rfl ?_
      refine r_getR 26 hX dX4_putSkill_23 fX4_9 rfl rfl rfl ?_
      refine r_iload 28 hX dX4_putSkill_26 rfl ?_
      refine r_iload_n 29 hX dX4_putSkill_28 rfl ?_
      refine r_iast 30 hX dX4_putSkill_29 rfl rfl (by first | assumption | exact vpK rfl | exact vpP (by assumption) | exact vp6 (by assumption) (by assumption) | exact vp12 (by assumption) (by assumption) | exact vp48 (by assumption) (by assumption) | exact vp100 (by assumption) (by assumption)) ?_
      refine r_vret hX hT dX4_putSkill_30 ?_
      exact ⟨rfl, by simp [*]⟩
set_option maxRecDepth 100000 in
set_option maxHeartbeats 4000000 in
theorem tX4_tell_3 {l : Launch} {G : mx_G} {a b c d e f : Int32} {M : mx_Mem} : mx_Met l G yX4_tell cX4_tell 7 (none) 0 0 [.ref 3, .int a, .int b, .int c, .int d, .int e, .int f] M (mx_F none (mI (mI (mI (mI (mI (mI (mI M 5 0 a) 5 1 b) 5 2 c) 5 3 d) 5 4 e) 5 5 f) 3 3 1)) := by
  refine mx_enter (own := RX4) (L := [.ref 3, .int a, .int b, .int c, .int d, .int e, .int f]) (by decide +kernel) rfl rfl rfl ?_
  intro X hlX hX hR hT
  refine r_aload_n 1 hX dX4_tell_0 rfl ?_
  refine r_getR 4 hX dX4_tell_1 fX4_15 rfl rfl rfl ?_
  refine r_iconst 5 hX dX4_tell_4 (v := 0) (by decide) ?_
  refine r_iload_n 6 hX dX4_tell_5 rfl ?_
  refine r_iastK 7 hX dX4_tell_6 rfl rfl (vpK rfl) (j := 0) (by decide) ?_
  refine r_aload_n 8 hX dX4_tell_7 rfl ?_
  refine r_getR 11 hX dX4_tell_8 fX4_15 rfl rfl rfl ?_
  refine r_iconst 12 hX dX4_tell_11 (v := 1) (by decide) ?_
  refine r_iload_n 13 hX dX4_tell_12 rfl ?_
  refine r_iastK 14 hX dX4_tell_13 rfl rfl (vpK rfl) (j := 1) (by decide) ?_
  refine r_aload_n 15 hX dX4_tell_14 rfl ?_
  refine r_getR 18 hX dX4_tell_15 fX4_15 rfl rfl rfl ?_
  refine r_iconst 19 hX dX4_tell_18 (v := 2) (by decide) ?_
  refine r_iload_n 20 hX dX4_tell_19 rfl ?_
  refine r_iastK 21 hX dX4_tell_20 rfl rfl (vpK rfl) (j := 2) (by decide) ?_
  refine r_aload_n 22 hX dX4_tell_21 rfl ?_
  refine r_getR 25 hX dX4_tell_22 fX4_15 rfl rfl rfl ?_
  refine r_iconst 26 hX dX4_tell_25 (v := 3) (by decide) ?_
  refine r_iload 28 hX dX4_tell_26 rfl ?_
  refine r_iastK 29 hX dX4_tell_28 rfl rfl (vpK rfl) (j := 3) (by decide) ?_
  refine r_aload_n 30 hX dX4_tell_29 rfl ?_
  refine r_getR 33 hX dX4_tell_30 fX4_15 rfl rfl rfl ?_
  refine r_iconst 34 hX dX4_tell_33 (v := 4) (by decide) ?_
  refine r_iload 36 hX dX4_tell_34 rfl ?_
  refine r_iastK 37 hX dX4_tell_36 rfl rfl (vpK rfl) (j := 4) (by decide) ?_
  refine r_aload_n 38 hX dX4_tell_37 rfl ?_
  refine r_getR 41 hX dX4_tell_38 fX4_15 rfl rfl rfl ?_
  refine r_iconst 42 hX dX4_tell_41 (v := 5) (by decide) ?_
  refine r_iload 44 hX dX4_tell_42 rfl ?_
  refine r_iastK 45 hX dX4_tell_44 rfl rfl (vpK rfl) (j := 5) (by decide) ?_
  refine r_aload_n 46 hX dX4_tell_45 rfl ?_
  refine r_iconst 47 hX dX4_tell_46 (v := 1) (by decide) ?_
  refine r_putZ 50 hX dX4_tell_47 fX4_22 fp4_3 rfl rfl rfl (by first | assumption | decide) ?_
  refine r_vret hX hT dX4_tell_50 ?_
  exact ⟨rfl, rfl⟩
set_option maxRecDepth 100000 in
set_option maxHeartbeats 4000000 in
theorem tX4_isReady_3 {l : Launch} {G : mx_G} {M : mx_Mem} (hb : M.1 3 3 = 0 ∨ M.1 3 3 = 1) : mx_Met l G yX4_isReady cX4_isReady 2 ((some FieldType.boolean)) 0 0 [.ref 3] M (mx_F (some (.int (bI (M.1 3 3 = 1 ∧ ∀ k : Nat, k < 6 → M.1 5 k ≠ M.1 3 2)))) M) := by
  refine mx_enter (own := RX4) (L := [.ref 3, .null]) (by decide +kernel) rfl rfl rfl ?_
  intro X hlX hX hR hT
  refine r_iconst 1 hX dX4_isReady_0 (v := 0) (by decide) ?_
  refine r_istore_n 2 hX dX4_isReady_1 rfl ?_
  refine r_iload_n 3 hX dX4_isReady_2 rfl ?_
  refine r_bipush 5 hX dX4_isReady_3 (v := 6) (by decide) ?_
  refine r_icmp_ge 8 29 hX dX4_isReady_5 (fun c => absurd c (by decide)) (fun _ => ?_)
  refine r_aload_n 9 hX dX4_isReady_8 rfl ?_
  refine r_getR 12 hX dX4_isReady_9 fX4_15 rfl rfl rfl ?_
  refine r_iload_n 13 hX dX4_isReady_12 rfl ?_
  refine r_ialdK 14 hX dX4_isReady_13 rfl rfl (vpK rfl) (j := 0) (by decide) ?_
  refine r_aload_n 15 hX dX4_isReady_14 rfl ?_
  refine r_getI 18 hX dX4_isReady_15 fX4_18 rfl rfl rfl ?_
  refine r_icmp_ne 21 23 hX dX4_isReady_18 (fun c1 => ?_) (fun c1 => ?_)
  · refine r_iincK 26 hX dX4_isReady_23 rfl (w := 1) (by decide) rfl ?_
    refine r_goto 2 hX dX4_isReady_26 ?_
    refine r_iload_n 3 hX dX4_isReady_2 rfl ?_
    refine r_bipush 5 hX dX4_isReady_3 (v := 6) (by decide) ?_
    refine r_icmp_ge 8 29 hX dX4_isReady_5 (fun c => absurd c (by decide)) (fun _ => ?_)
    refine r_aload_n 9 hX dX4_isReady_8 rfl ?_
    refine r_getR 12 hX dX4_isReady_9 fX4_15 rfl rfl rfl ?_
    refine r_iload_n 13 hX dX4_isReady_12 rfl ?_
    refine r_ialdK 14 hX dX4_isReady_13 rfl rfl (vpK rfl) (j := 1) (by decide) ?_
    refine r_aload_n 15 hX dX4_isReady_14 rfl ?_
    refine r_getI 18 hX dX4_isReady_15 fX4_18 rfl rfl rfl ?_
    refine r_icmp_ne 21 23 hX dX4_isReady_18 (fun c2 => ?_) (fun c2 => ?_)
    · refine r_iincK 26 hX dX4_isReady_23 rfl (w := 2) (by decide) rfl ?_
      refine (show mx_WW G X 26 [_, _] _ _ from ?_)
      refine r_goto 2 hX dX4_isReady_26 ?_
      refine r_iload_n 3 hX dX4_isReady_2 rfl ?_
      refine r_bipush 5 hX dX4_isReady_3 (v := 6) (by decide) ?_
      refine r_icmp_ge 8 29 hX dX4_isReady_5 (fun c => absurd c (by decide)) (fun _ => ?_)
      refine r_aload_n 9 hX dX4_isReady_8 rfl ?_
      refine r_getR 12 hX dX4_isReady_9 fX4_15 rfl rfl rfl ?_
      refine r_iload_n 13 hX dX4_isReady_12 rfl ?_
      refine r_ialdK 14 hX dX4_isReady_13 rfl rfl (vpK rfl) (j := 2) (by decide) ?_
      refine r_aload_n 15 hX dX4_isReady_14 rfl ?_
      refine r_getI 18 hX dX4_isReady_15 fX4_18 rfl rfl rfl ?_
      refine r_icmp_ne 21 23 hX dX4_isReady_18 (fun c3 => ?_) (fun c3 => ?_)
      · refine r_iincK 26 hX dX4_isReady_23 rfl (w := 3) (by decide) rfl ?_
        refine r_goto 2 hX dX4_isReady_26 ?_
        refine r_iload_n 3 hX dX4_isReady_2 rfl ?_
        refine r_bipush 5 hX dX4_isReady_3 (v := 6) (by decide) ?_
        refine r_icmp_ge 8 29 hX dX4_isReady_5 (fun c => absurd c (by decide)) (fun _ => ?_)
        refine r_aload_n 9 hX dX4_isReady_8 rfl ?_
        refine r_getR 12 hX dX4_isReady_9 fX4_15 rfl rfl rfl ?_
        refine r_iload_n 13 hX dX4_isReady_12 rfl ?_
        refine r_ialdK 14 hX dX4_isReady_13 rfl rfl (vpK rfl) (j := 3) (by decide) ?_
        refine r_aload_n 15 hX dX4_isReady_14 rfl ?_
        refine r_getI 18 hX dX4_isReady_15 fX4_18 rfl rfl rfl ?_
        refine r_icmp_ne 21 23 hX dX4_isReady_18 (fun c4 => ?_) (fun c4 => ?_)
        · refine r_iincK 26 hX dX4_isReady_23 rfl (w := 4) (by decide) rfl ?_
          refine r_goto 2 hX dX4_isReady_26 ?_
          refine r_iload_n 3 hX dX4_isReady_2 rfl ?_
          refine r_bipush 5 hX dX4_isReady_3 (v := 6) (by decide) ?_
          refine r_icmp_ge 8 29 hX dX4_isReady_5 (fun c => absurd c (by decide)) (fun _ => ?_)
          refine r_aload_n 9 hX dX4_isReady_8 rfl ?_
          refine r_getR 12 hX dX4_isReady_9 fX4_15 rfl rfl rfl ?_
          refine r_iload_n 13 hX dX4_isReady_12 rfl ?_
          refine r_ialdK 14 hX dX4_isReady_13 rfl rfl (vpK rfl) (j := 4) (by decide) ?_
          refine r_aload_n 15 hX dX4_isReady_14 rfl ?_
          refine r_getI 18 hX dX4_isReady_15 fX4_18 rfl rfl rfl ?_
          refine r_icmp_ne 21 23 hX dX4_isReady_18 (fun c5 => ?_) (fun c5 => ?_)
          · refine r_iincK 26 hX dX4_isReady_23 rfl (w := 5) (by decide) rfl ?_
            refine (show mx_WW G X 26 [_, _] _ _ from ?_)
            refine r_goto 2 hX dX4_isReady_26 ?_
            refine r_iload_n 3 hX dX4_isReady_2 rfl ?_
            refine r_bipush 5 hX dX4_isReady_3 (v := 6) (by decide) ?_
            refine r_icmp_ge 8 29 hX dX4_isReady_5 (fun c => absurd c (by decide)) (fun _ => ?_)
            refine r_aload_n 9 hX dX4_isReady_8 rfl ?_
            refine r_getR 12 hX dX4_isReady_9 fX4_15 rfl rfl rfl ?_
            refine r_iload_n 13 hX dX4_isReady_12 rfl ?_
            refine r_ialdK 14 hX dX4_isReady_13 rfl rfl (vpK rfl) (j := 5) (by decide) ?_
            refine r_aload_n 15 hX dX4_isReady_14 rfl ?_
            refine r_getI 18 hX dX4_isReady_15 fX4_18 rfl rfl rfl ?_
            refine r_icmp_ne 21 23 hX dX4_isReady_18 (fun c6 => ?_) (fun c6 => ?_)
            · refine r_iincK 26 hX dX4_isReady_23 rfl (w := 6) (by decide) rfl ?_
              refine r_goto 2 hX dX4_isReady_26 ?_
              refine r_iload_n 3 hX dX4_isReady_2 rfl ?_
              refine r_bipush 5 hX dX4_isReady_3 (v := 6) (by decide) ?_
              refine r_icmp_ge 8 29 hX dX4_isReady_5 (fun _ => ?_) (fun c => absurd c (by decide))
              refine r_aload_n 30 hX dX4_isReady_29 rfl ?_
              refine r_getI 33 hX dX4_isReady_30 fX4_22 rfl rfl rfl ?_
              refine r_zret hX hT dX4_isReady_33 (by first | assumption | decide) ?_
              refine ⟨?_, rfl⟩
              have hk : ∀ k : Nat, k < 6 → M.1 5 k ≠ M.1 3 2 := by
                intro k hk
                match k, hk with
                | 0, _ => assumption
                | 1, _ => assumption
                | 2, _ => assumption
                | 3, _ => assumption
                | 4, _ => assumption
                | 5, _ => assumption
              rcases hb with h | h
              · rw [bI_f (fun q => by rw [h] at q; exact absurd q.1 (by decide)), h]
              · rw [bI_t ⟨h, hk⟩, h]
            · refine r_iconst 22 hX dX4_isReady_21 (v := 0) (by decide) ?_
              refine r_zret hX hT dX4_isReady_22 (by first | assumption | decide) ?_
              exact ⟨by rw [bI_f]; grind, rfl⟩
          · refine r_iconst 22 hX dX4_isReady_21 (v := 0) (by decide) ?_
            refine r_zret hX hT dX4_isReady_22 (by first | assumption | decide) ?_
            exact ⟨by rw [bI_f]; grind, rfl⟩
        · refine r_iconst 22 hX dX4_isReady_21 (v := 0) (by decide) ?_
          refine r_zret hX hT dX4_isReady_22 (by first | assumption | decide) ?_
          exact ⟨by rw [bI_f]; grind, rfl⟩
      · refine r_iconst 22 hX dX4_isReady_21 (v := 0) (by decide) ?_
        refine r_zret hX hT dX4_isReady_22 (by first | assumption | decide) ?_
        exact ⟨by rw [bI_f]; grind, rfl⟩
    · refine r_iconst 22 hX dX4_isReady_21 (v := 0) (by decide) ?_
      refine r_zret hX hT dX4_isReady_22 (by first | assumption | decide) ?_
      exact ⟨by rw [bI_f]; grind, rfl⟩
  · refine r_iconst 22 hX dX4_isReady_21 (v := 0) (by decide) ?_
    refine r_zret hX hT dX4_isReady_22 (by first | assumption | decide) ?_
    exact ⟨by rw [bI_f]; grind, rfl⟩
set_option maxRecDepth 100000 in
set_option maxHeartbeats 4000000 in
theorem tX4_skillOf_6 {l : Launch} {G : mx_G} {p w : Int32} {M : mx_Mem} : mx_Met l G yX4_skillOf cX4_skillOf 4 ((some FieldType.int)) 0 0 [.ref 6, .int p, .int w] M (mx_F (some (.int (sko (M.1 7) p w))) M) := by
  refine mx_enter (own := RX4) (L := [.ref 6, .int p, .int w, .null]) (by decide +kernel) rfl rfl rfl ?_
  intro X hlX hX hR hT
  refine r_iload_n 1 hX dX4_skillOf_0 rfl ?_
  refine r_iconst 2 hX dX4_skillOf_1 (v := 4) (by decide) ?_
  refine r_imul 3 hX dX4_skillOf_2 ?_
  refine r_iload_n 4 hX dX4_skillOf_3 rfl ?_
  refine r_iadd 5 hX dX4_skillOf_4 ?_
  refine r_istore_n 6 hX dX4_skillOf_5 rfl ?_
  refine r_iload_n 7 hX dX4_skillOf_6 rfl ?_
  refine r_If_lt 10 28 hX dX4_skillOf_7 (fun c1 => ?_) (fun c1 => ?_)
  · refine r_iconst 29 hX dX4_skillOf_28 (v := 0) (by decide) ?_
    refine r_iret hX hT dX4_skillOf_29 ?_
    exact ⟨by simp [*, sko], rfl⟩
  · refine r_iload_n 11 hX dX4_skillOf_10 rfl ?_
    refine r_aload_n 12 hX dX4_skillOf_11 rfl ?_
    refine r_getR 15 hX dX4_skillOf_12 fX4_9 rfl rfl rfl ?_
    refine r_alen 16 hX dX4_skillOf_15 rfl rfl (v := 48) (by decide) ?_
    refine r_icmp_ge 19 28 hX dX4_skillOf_16 (fun c2 => ?_) (fun c2 => ?_)
    · refine r_iconst 29 hX dX4_skillOf_28 (v := 0) (by decide) ?_
      refine r_iret hX hT dX4_skillOf_29 ?_
      exact ⟨by simp [*, sko], rfl⟩
    · refine r_aload_n 20 hX dX4_skillOf_19 rfl ?_
      refine r_getR 23 hX dX4_skillOf_20 fX4_9 rfl rfl rfl ?_
      refine r_iload_n 24 hX dX4_skillOf_23 rfl ?_
      refine r_iald 25 hX dX4_skillOf_24 rfl rfl (by first | assumption | exact vpK rfl | exact vpP (by assumption) | exact vp6 (by assumption) (by assumption) | exact vp12 (by assumption) (by assumption) | exact vp48 (by assumption) (by assumption) | exact vp100 (by assumption) (by assumption)) ?_
      refine r_goto 29 hX dX4_skillOf_25 ?_
      refine r_iret hX hT dX4_skillOf_29 ?_
      exact ⟨by simp [*, sko], rfl⟩
set_option maxRecDepth 100000 in
set_option maxHeartbeats 4000000 in
theorem tX4_putSkill_6 {l : Launch} {G : mx_G} {p w v : Int32} {M : mx_Mem} : mx_Met l G yX4_putSkill cX4_putSkill 5 (none) 0 0 [.ref 6, .int p, .int w, .int v] M (mx_F none (if 0 ≤ p * 4 + w ∧ ¬ 48 ≤ p * 4 + w then mI M 7 (p * 4 + w).toNatClampNeg v else M)) := by
  refine mx_enter (own := RX4) (L := [.ref 6, .int p, .int w, .int v, .null]) (by decide +kernel) rfl rfl rfl ?_
  intro X hlX hX hR hT
  refine r_iload_n 1 hX dX4_putSkill_0 rfl ?_
  refine r_iconst 2 hX dX4_putSkill_1 (v := 4) (by decide) ?_
  refine r_imul 3 hX dX4_putSkill_2 ?_
  refine r_iload_n 4 hX dX4_putSkill_3 rfl ?_
  refine r_iadd 5 hX dX4_putSkill_4 ?_
  refine r_istore 7 hX dX4_putSkill_5 rfl ?_
  refine r_iload 9 hX dX4_putSkill_7 rfl ?_
  refine r_If_lt 12 30 hX dX4_putSkill_9 (fun c1 => ?_) (fun c1 => ?_)
  · refine r_vret hX hT dX4_putSkill_30 ?_
    exact ⟨rfl, by simp [*]⟩
  · refine r_iload 14 hX dX4_putSkill_12 rfl ?_
    refine r_aload_n 15 hX dX4_putSkill_14 rfl ?_
    refine r_getR 18 hX dX4_putSkill_15 fX4_9 rfl rfl rfl ?_
    refine r_alen 19 hX dX4_putSkill_18 rfl rfl (v := 48) (by decide) ?_
    refine r_icmp_ge 22 30 hX dX4_putSkill_19 (fun c2 => ?_) (fun c2 => ?_)
    · refine r_vret hX hT dX4_putSkill_30 ?_
      exact ⟨rfl, by simp [*]⟩
    · refine r_aload_n 23 hX dX4_putSkill_22 rfl ?_
      refine r_getR 26 hX dX4_putSkill_23 fX4_9 rfl rfl rfl ?_
      refine r_iload 28 hX dX4_putSkill_26 rfl ?_
      refine r_iload_n 29 hX dX4_putSkill_28 rfl ?_
      refine r_iast 30 hX dX4_putSkill_29 rfl rfl (by first | assumption | exact vpK rfl | exact vpP (by assumption) | exact vp6 (by assumption) (by assumption) | exact vp12 (by assumption) (by assumption) | exact vp48 (by assumption) (by assumption) | exact vp100 (by assumption) (by assumption)) ?_
      refine r_vret hX hT dX4_putSkill_30 ?_
      exact ⟨rfl, by simp [*]⟩
set_option maxRecDepth 100000 in
set_option maxHeartbeats 4000000 in
theorem tX4_tell_6 {l : Launch} {G : mx_G} {a b c d e f : Int32} {M : mx_Mem} : mx_Met l G yX4_tell cX4_tell 7 (none) 0 0 [.ref 6, .int a, .int b, .int c, .int d, .int e, .int f] M (mx_F none (mI (mI (mI (mI (mI (mI (mI M 8 0 a) 8 1 b) 8 2 c) 8 3 d) 8 4 e) 8 5 f) 6 3 1)) := by
  refine mx_enter (own := RX4) (L := [.ref 6, .int a, .int b, .int c, .int d, .int e, .int f]) (by decide +kernel) rfl rfl rfl ?_
  intro X hlX hX hR hT
  refine r_aload_n 1 hX dX4_tell_0 rfl ?_
  refine r_getR 4 hX dX4_tell_1 fX4_15 rfl rfl rfl ?_
  refine r_iconst 5 hX dX4_tell_4 (v := 0) (by decide) ?_
  refine r_iload_n 6 hX dX4_tell_5 rfl ?_
  refine r_iastK 7 hX dX4_tell_6 rfl rfl (vpK rfl) (j := 0) (by decide) ?_
  refine r_aload_n 8 hX dX4_tell_7 rfl ?_
  refine r_getR 11 hX dX4_tell_8 fX4_15 rfl rfl rfl ?_
  refine r_iconst 12 hX dX4_tell_11 (v := 1) (by decide) ?_
  refine r_iload_n 13 hX dX4_tell_12 rfl ?_
  refine r_iastK 14 hX dX4_tell_13 rfl rfl (vpK rfl) (j := 1) (by decide) ?_
  refine r_aload_n 15 hX dX4_tell_14 rfl ?_
  refine r_getR 18 hX dX4_tell_15 fX4_15 rfl rfl rfl ?_
  refine r_iconst 19 hX dX4_tell_18 (v := 2) (by decide) ?_
  refine r_iload_n 20 hX dX4_tell_19 rfl ?_
  refine r_iastK 21 hX dX4_tell_20 rfl rfl (vpK rfl) (j := 2) (by decide) ?_
  refine r_aload_n 22 hX dX4_tell_21 rfl ?_
  refine r_getR 25 hX dX4_tell_22 fX4_15 rfl rfl rfl ?_
  refine r_iconst 26 hX dX4_tell_25 (v := 3) (by decide) ?_
  refine r_iload 28 hX dX4_tell_26 rfl ?_
  refine r_iastK 29 hX dX4_tell_28 rfl rfl (vpK rfl) (j := 3) (by decide) ?_
  refine r_aload_n 30 hX dX4_tell_29 rfl ?_
  refine r_getR 33 hX dX4_tell_30 fX4_15 rfl rfl rfl ?_
  refine r_iconst 34 hX dX4_tell_33 (v := 4) (by decide) ?_
  refine r_iload 36 hX dX4_tell_34 rfl ?_
  refine r_iastK 37 hX dX4_tell_36 rfl rfl (vpK rfl) (j := 4) (by decide) ?_
  refine r_aload_n 38 hX dX4_tell_37 rfl ?_
  refine r_getR 41 hX dX4_tell_38 fX4_15 rfl rfl rfl ?_
  refine r_iconst 42 hX dX4_tell_41 (v := 5) (by decide) ?_
  refine r_iload 44 hX dX4_tell_42 rfl ?_
  refine r_iastK 45 hX dX4_tell_44 rfl rfl (vpK rfl) (j := 5) (by decide) ?_
  refine r_aload_n 46 hX dX4_tell_45 rfl ?_
  refine r_iconst 47 hX dX4_tell_46 (v := 1) (by decide) ?_
  refine r_putZ 50 hX dX4_tell_47 fX4_22 fp4_3 rfl rfl rfl (by first | assumption | decide) ?_
  refine r_vret hX hT dX4_tell_50 ?_
  exact ⟨rfl, rfl⟩
set_option maxRecDepth 100000 in
set_option maxHeartbeats 4000000 in
theorem tX4_isReady_6 {l : Launch} {G : mx_G} {M : mx_Mem} (hb : M.1 6 3 = 0 ∨ M.1 6 3 = 1) : mx_Met l G yX4_isReady cX4_isReady 2 ((some FieldType.boolean)) 0 0 [.ref 6] M (mx_F (some (.int (bI (M.1 6 3 = 1 ∧ ∀ k : Nat, k < 6 → M.1 8 k ≠ M.1 6 2)))) M) := by
  refine mx_enter (own := RX4) (L := [.ref 6, .null]) (by decide +kernel) rfl rfl rfl ?_
  intro X hlX hX hR hT
  refine r_iconst 1 hX dX4_isReady_0 (v := 0) (by decide) ?_
  refine r_istore_n 2 hX dX4_isReady_1 rfl ?_
  refine r_iload_n 3 hX dX4_isReady_2 rfl ?_
  refine r_bipush 5 hX dX4_isReady_3 (v := 6) (by decide) ?_
  refine r_icmp_ge 8 29 hX dX4_isReady_5 (fun c => absurd c (by decide)) (fun _ => ?_)
  refine r_aload_n 9 hX dX4_isReady_8 rfl ?_
  refine r_getR 12 hX dX4_isReady_9 fX4_15 rfl rfl rfl ?_
  refine r_iload_n 13 hX dX4_isReady_12 rfl ?_
  refine r_ialdK 14 hX dX4_isReady_13 rfl rfl (vpK rfl) (j := 0) (by decide) ?_
  refine r_aload_n 15 hX dX4_isReady_14 rfl ?_
  refine r_getI 18 hX dX4_isReady_15 fX4_18 rfl rfl rfl ?_
  refine r_icmp_ne 21 23 hX dX4_isReady_18 (fun c1 => ?_) (fun c1 => ?_)
  · refine r_iincK 26 hX dX4_isReady_23 rfl (w := 1) (by decide) rfl ?_
    refine r_goto 2 hX dX4_isReady_26 ?_
    refine r_iload_n 3 hX dX4_isReady_2 rfl ?_
    refine r_bipush 5 hX dX4_isReady_3 (v := 6) (by decide) ?_
    refine r_icmp_ge 8 29 hX dX4_isReady_5 (fun c => absurd c (by decide)) (fun _ => ?_)
    refine r_aload_n 9 hX dX4_isReady_8 rfl ?_
    refine r_getR 12 hX dX4_isReady_9 fX4_15 rfl rfl rfl ?_
    refine r_iload_n 13 hX dX4_isReady_12 rfl ?_
    refine r_ialdK 14 hX dX4_isReady_13 rfl rfl (vpK rfl) (j := 1) (by decide) ?_
    refine r_aload_n 15 hX dX4_isReady_14 rfl ?_
    refine r_getI 18 hX dX4_isReady_15 fX4_18 rfl rfl rfl ?_
    refine r_icmp_ne 21 23 hX dX4_isReady_18 (fun c2 => ?_) (fun c2 => ?_)
    · refine r_iincK 26 hX dX4_isReady_23 rfl (w := 2) (by decide) rfl ?_
      refine (show mx_WW G X 26 [_, _] _ _ from ?_)
      refine r_goto 2 hX dX4_isReady_26 ?_
      refine r_iload_n 3 hX dX4_isReady_2 rfl ?_
      refine r_bipush 5 hX dX4_isReady_3 (v := 6) (by decide) ?_
      refine r_icmp_ge 8 29 hX dX4_isReady_5 (fun c => absurd c (by decide)) (fun _ => ?_)
      refine r_aload_n 9 hX dX4_isReady_8 rfl ?_
      refine r_getR 12 hX dX4_isReady_9 fX4_15 rfl rfl rfl ?_
      refine r_iload_n 13 hX dX4_isReady_12 rfl ?_
      refine r_ialdK 14 hX dX4_isReady_13 rfl rfl (vpK rfl) (j := 2) (by decide) ?_
      refine r_aload_n 15 hX dX4_isReady_14 rfl ?_
      refine r_getI 18 hX dX4_isReady_15 fX4_18 rfl rfl rfl ?_
      refine r_icmp_ne 21 23 hX dX4_isReady_18 (fun c3 => ?_) (fun c3 => ?_)
      · refine r_iincK 26 hX dX4_isReady_23 rfl (w := 3) (by decide) rfl ?_
        refine r_goto 2 hX dX4_isReady_26 ?_
        refine r_iload_n 3 hX dX4_isReady_2 rfl ?_
        refine r_bipush 5 hX dX4_isReady_3 (v := 6) (by decide) ?_
        refine r_icmp_ge 8 29 hX dX4_isReady_5 (fun c => absurd c (by decide)) (fun _ => ?_)
        refine r_aload_n 9 hX dX4_isReady_8 rfl ?_
        refine r_getR 12 hX dX4_isReady_9 fX4_15 rfl rfl rfl ?_
        refine r_iload_n 13 hX dX4_isReady_12 rfl ?_
        refine r_ialdK 14 hX dX4_isReady_13 rfl rfl (vpK rfl) (j := 3) (by decide) ?_
        refine r_aload_n 15 hX dX4_isReady_14 rfl ?_
        refine r_getI 18 hX dX4_isReady_15 fX4_18 rfl rfl rfl ?_
        refine r_icmp_ne 21 23 hX dX4_isReady_18 (fun c4 => ?_) (fun c4 => ?_)
        · refine r_iincK 26 hX dX4_isReady_23 rfl (w := 4) (by decide) rfl ?_
          refine r_goto 2 hX dX4_isReady_26 ?_
          refine r_iload_n 3 hX dX4_isReady_2 rfl ?_
          refine r_bipush 5 hX dX4_isReady_3 (v := 6) (by decide) ?_
          refine r_icmp_ge 8 29 hX dX4_isReady_5 (fun c => absurd c (by decide)) (fun _ => ?_)
          refine r_aload_n 9 hX dX4_isReady_8 rfl ?_
          refine r_getR 12 hX dX4_isReady_9 fX4_15 rfl rfl rfl ?_
          refine r_iload_n 13 hX dX4_isReady_12 rfl ?_
          refine r_ialdK 14 hX dX4_isReady_13 rfl rfl (vpK rfl) (j := 4) (by decide) ?_
          refine r_aload_n 15 hX dX4_isReady_14 rfl ?_
          refine r_getI 18 hX dX4_isReady_15 fX4_18 rfl rfl rfl ?_
          refine r_icmp_ne 21 23 hX dX4_isReady_18 (fun c5 => ?_) (fun c5 => ?_)
          · refine r_iincK 26 hX dX4_isReady_23 rfl (w := 5) (by decide) rfl ?_
            refine (show mx_WW G X 26 [_, _] _ _ from ?_)
            refine r_goto 2 hX dX4_isReady_26 ?_
            refine r_iload_n 3 hX dX4_isReady_2 rfl ?_
            refine r_bipush 5 hX dX4_isReady_3 (v := 6) (by decide) ?_
            refine r_icmp_ge 8 29 hX dX4_isReady_5 (fun c => absurd c (by decide)) (fun _ => ?_)
            refine r_aload_n 9 hX dX4_isReady_8 rfl ?_
            refine r_getR 12 hX dX4_isReady_9 fX4_15 rfl rfl rfl ?_
            refine r_iload_n 13 hX dX4_isReady_12 rfl ?_
            refine r_ialdK 14 hX dX4_isReady_13 rfl rfl (vpK rfl) (j := 5) (by decide) ?_
            refine r_aload_n 15 hX dX4_isReady_14 rfl ?_
            refine r_getI 18 hX dX4_isReady_15 fX4_18 rfl rfl rfl ?_
            refine r_icmp_ne 21 23 hX dX4_isReady_18 (fun c6 => ?_) (fun c6 => ?_)
            · refine r_iincK 26 hX dX4_isReady_23 rfl (w := 6) (by decide) rfl ?_
              refine r_goto 2 hX dX4_isReady_26 ?_
              refine r_iload_n 3 hX dX4_isReady_2 rfl ?_
              refine r_bipush 5 hX dX4_isReady_3 (v := 6) (by decide) ?_
              refine r_icmp_ge 8 29 hX dX4_isReady_5 (fun _ => ?_) (fun c => absurd c (by decide))
              refine r_aload_n 30 hX dX4_isReady_29 rfl ?_
              refine r_getI 33 hX dX4_isReady_30 fX4_22 rfl rfl rfl ?_
              refine r_zret hX hT dX4_isReady_33 (by first | assumption | decide) ?_
              refine ⟨?_, rfl⟩
              have hk : ∀ k : Nat, k < 6 → M.1 8 k ≠ M.1 6 2 := by
                intro k hk
                match k, hk with
                | 0, _ => assumption
                | 1, _ => assumption
                | 2, _ => assumption
                | 3, _ => assumption
                | 4, _ => assumption
                | 5, _ => assumption
              rcases hb with h | h
              · rw [bI_f (fun q => by rw [h] at q; exact absurd q.1 (by decide)), h]
              · rw [bI_t ⟨h, hk⟩, h]
            · refine r_iconst 22 hX dX4_isReady_21 (v := 0) (by decide) ?_
              refine r_zret hX hT dX4_isReady_22 (by first | assumption | decide) ?_
              exact ⟨by rw [bI_f]; grind, rfl⟩
          · refine r_iconst 22 hX dX4_isReady_21 (v := 0) (by decide) ?_
            refine r_zret hX hT dX4_isReady_22 (by first | assumption | decide) ?_
            exact ⟨by rw [bI_f]; grind, rfl⟩
        · refine r_iconst 22 hX dX4_isReady_21 (v := 0) (by decide) ?_
          refine r_zret hX hT dX4_isReady_22 (by first | assumption | decide) ?_
          exact ⟨by rw [bI_f]; grind, rfl⟩
      · refine r_iconst 22 hX dX4_isReady_21 (v := 0) (by decide) ?_
        refine r_zret hX hT dX4_isReady_22 (by first | assumption | decide) ?_
        exact ⟨by rw [bI_f]; grind, rfl⟩
    · refine r_iconst 22 hX dX4_isReady_21 (v := 0) (by decide) ?_
      refine r_zret hX hT dX4_isReady_22 (by first | assumption | decide) ?_
      exact ⟨by rw [bI_f]; grind, rfl⟩
  · refine r_iconst 22 hX dX4_isReady_21 (v := 0) (by decide) ?_
    refine r_zret hX hT dX4_isReady_22 (by first | assumption | decide) ?_
    exact ⟨by rw [bI_f]; grind, rfl⟩

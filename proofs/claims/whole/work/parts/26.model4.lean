/-! the model: numbers, line-ups, texts -/
theorem nbTk_aux (x y : Int32) (f : Nat → Int32) (w v : Int32) : (if 0 ≤ w then if 6 ≤ w then 0 else if x ≤ v then if v ≤ y then if w = 0 then if v ≤ f 1 then 1 else 0 else if w = 1 then if f 0 ≤ v then 1 else 0 else 1 else 0 else 0 else (0 : Int32)) = 1 ↔ (0 ≤ w ∧ ¬ 6 ≤ w) ∧ (x ≤ v ∧ v ≤ y) ∧ (w = 0 → v ≤ f 1) ∧ (w = 1 → f 0 ≤ v) := by
  grind
theorem nbTk_iff (f : Nat → Int32) (w v : Int32) : nbTk f w v = 1 ↔ (0 ≤ w ∧ ¬ 6 ≤ w) ∧ (nbL.getD w.toNatClampNeg 0 ≤ v ∧ v ≤ nbH.getD w.toNatClampNeg 0) ∧ (w = 0 → v ≤ f 1) ∧ (w = 1 → f 0 ≤ v) := nbTk_aux _ _ f w v
def mskC (p w v : Int32) : Prop := isP p ∧ (0 ≤ w ∧ w ≤ 3) ∧ (0 ≤ v ∧ v ≤ 100)
set_option maxRecDepth 100000 in
set_option maxHeartbeats 4000000 in
theorem tX8_skill_0 {l : Launch} {G : mx_G} {p w : Nat} {v : Int32} {M : mx_Mem} (hp : p < 12) (hw : w < 4) (hv : 0 ≤ v ∧ v ≤ 100) : mx_Met l G yX8_skill cX8_skill 6 ((some FieldType.int)) 2 42 [.ref 46, .int 0, .int (nI p), .int (nI w), .int v] M (mx_F (some (.int (M.1 47 ((0 + p) * 4 + w)))) (mI (th0 M) 47 ((0 + p) * 4 + w) v)) := by
  refine mx_enter (own := RX8) (L := [.ref 46, .int 0, .int (nI p), .int (nI w), .int v, .null]) (by decide +kernel) rfl rfl rfl ?_
  intro X hlX hX hR hT
  have h1 : isP (nI p) := ⟨nI_pos' (by omega), nI_ge (b := 12) (by omega) (by omega)⟩
  have h2 : 0 ≤ nI w ∧ nI w ≤ 3 := ⟨nI_pos' (by omega), nI_le (b := 3) (by omega) (by omega)⟩
  have hx : ((0 : Int32) + nI p) * 4 + nI w = nI ((0 + p) * 4 + w) := by
    rw [show (0 : Int32) = nI 0 from rfl, show (4 : Int32) = nI 4 from rfl, nI_add, pk_mul, nI_add]
  refine r_aload_n 1 hX dX8_skill_0 rfl ?_
  refine r_iconst 2 hX dX8_skill_1 (v := 0) (by decide) ?_
  refine r_putI 5 hX dX8_skill_2 fX8_63 fp8_13 rfl rfl rfl ?_
  refine r_iload_n 6 hX dX8_skill_5 rfl ?_
  refine r_cS1F 9 hX hR tX8_isTeam_0 dX8_skill_6 kX8_isTeam lX8_71 rfl rfl rfl ?_
  refine r_if_eq 12 39 hX dX8_skill_9 (fun c => absurd c (by decide)) (fun _ => ?_)
  refine r_iload_n 13 hX dX8_skill_12 rfl ?_
  refine r_cS1F 16 hX hR tX8_isPlayer dX8_skill_13 kX8_isPlayer lX8_75 rfl rfl rfl ?_
  refine r_Beq 19 39 hX dX8_skill_16 (fun c1 => absurd h1 c1) (fun c1 => ?_)
  refine r_iload_n 20 hX dX8_skill_19 rfl ?_
  refine r_iconst 21 hX dX8_skill_20 (v := 0) (by decide) ?_
  refine r_iconst 22 hX dX8_skill_21 (v := 3) (by decide) ?_
  refine r_cS3F 25 hX hR tX8_in dX8_skill_22 kX8_in lX8_67 rfl rfl rfl ?_
  refine r_Beq 28 39 hX dX8_skill_25 (fun c2 => absurd h2 c2) (fun c2 => ?_)
  refine r_iload 30 hX dX8_skill_28 rfl ?_
  refine r_iconst 31 hX dX8_skill_30 (v := 0) (by decide) ?_
  refine r_bipush 33 hX dX8_skill_31 (v := 100) (by decide) ?_
  refine r_cS3F 36 hX hR tX8_in dX8_skill_33 kX8_in lX8_67 rfl rfl rfl ?_
  refine r_Bne 39 41 hX dX8_skill_36 (fun c3 => ?_) (fun c3 => absurd hv c3)
  refine r_aload_n 42 hX dX8_skill_41 rfl ?_
  refine r_iload_n 43 hX dX8_skill_42 rfl ?_
  refine r_iload_n 44 hX dX8_skill_43 rfl ?_
  refine r_iload_n 45 hX dX8_skill_44 rfl ?_
  refine r_cV3F 48 hX hR (tX8_skillOf (t := 0) (p := p) (w := w) (by omega)) dX8_skill_45 kX8_skillOf lX8_78 rfl rfl rfl rfl rfl rfl ?_
  refine r_istore 50 hX dX8_skill_48 rfl ?_
  refine r_aload_n 51 hX dX8_skill_50 rfl ?_
  refine r_getR 54 hX dX8_skill_51 fX8_9 rfl rfl rfl ?_
  refine r_bipush 56 hX dX8_skill_54 (v := 12) (by decide) ?_
  refine r_iload_n 57 hX dX8_skill_56 rfl ?_
  refine r_imulK 58 hX dX8_skill_57 (w := 0) (by decide) ?_
  refine r_iload_n 59 hX dX8_skill_58 rfl ?_
  refine r_iadd 60 hX dX8_skill_59 ?_
  refine r_iconst 61 hX dX8_skill_60 (v := 4) (by decide) ?_
  refine r_imul 62 hX dX8_skill_61 ?_
  refine r_iload_n 63 hX dX8_skill_62 rfl ?_
  refine r_iadd 64 hX dX8_skill_63 ?_
  rw [hx]
  refine r_iload 66 hX dX8_skill_64 rfl ?_
  refine r_iastK 67 hX dX8_skill_66 rfl rfl (vp_in_nI (show (0 + p) * 4 + w < 96 by omega) (by decide)) (j := (0 + p) * 4 + w) (nI_clamp (by omega)) ?_
  refine r_iload 69 hX dX8_skill_67 rfl ?_
  refine r_iret hX hT dX8_skill_69 ?_
  exact ⟨rfl, rfl⟩
set_option maxRecDepth 100000 in
set_option maxHeartbeats 4000000 in
theorem tX8_skill_0_n {l : Launch} {G : mx_G} {p w v : Int32} {M : mx_Mem} (hc : ¬ mskC p w v) : mx_Met l G yX8_skill cX8_skill 6 ((some FieldType.int)) 2 42 [.ref 46, .int 0, .int p, .int w, .int v] M (mx_F (some (.int (-1))) (th0 M)) := by
  refine mx_enter (own := RX8) (L := [.ref 46, .int 0, .int p, .int w, .int v, .null]) (by decide +kernel) rfl rfl rfl ?_
  intro X hlX hX hR hT
  refine r_aload_n 1 hX dX8_skill_0 rfl ?_
  refine r_iconst 2 hX dX8_skill_1 (v := 0) (by decide) ?_
  refine r_putI 5 hX dX8_skill_2 fX8_63 fp8_13 rfl rfl rfl ?_
  refine r_iload_n 6 hX dX8_skill_5 rfl ?_
  refine r_cS1F 9 hX hR tX8_isTeam_0 dX8_skill_6 kX8_isTeam lX8_71 rfl rfl rfl ?_
  refine r_if_eq 12 39 hX dX8_skill_9 (fun c => absurd c (by decide)) (fun _ => ?_)
  refine r_iload_n 13 hX dX8_skill_12 rfl ?_
  refine r_cS1F 16 hX hR tX8_isPlayer dX8_skill_13 kX8_isPlayer lX8_75 rfl rfl rfl ?_
  refine r_Beq 19 39 hX dX8_skill_16 (fun c1 => ?_) (fun c1 => ?_)
  · refine r_iconst 40 hX dX8_skill_39 (v := -1) (by decide) ?_
    refine r_iret hX hT dX8_skill_40 ?_
    exact ⟨rfl, rfl⟩
  · refine r_iload_n 20 hX dX8_skill_19 rfl ?_
    refine r_iconst 21 hX dX8_skill_20 (v := 0) (by decide) ?_
    refine r_iconst 22 hX dX8_skill_21 (v := 3) (by decide) ?_
    refine r_cS3F 25 hX hR tX8_in dX8_skill_22 kX8_in lX8_67 rfl rfl rfl ?_
    refine r_Beq 28 39 hX dX8_skill_25 (fun c2 => ?_) (fun c2 => ?_)
    · refine r_iconst 40 hX dX8_skill_39 (v := -1) (by decide) ?_
      refine r_iret hX hT dX8_skill_40 ?_
      exact ⟨rfl, rfl⟩
    · refine r_iload 30 hX dX8_skill_28 rfl ?_
      refine r_iconst 31 hX dX8_skill_30 (v := 0) (by decide) ?_
      refine r_bipush 33 hX dX8_skill_31 (v := 100) (by decide) ?_
      refine r_cS3F 36 hX hR tX8_in dX8_skill_33 kX8_in lX8_67 rfl rfl rfl ?_
      refine r_Bne 39 41 hX dX8_skill_36 (fun c3 => absurd ⟨c1, c2, c3⟩ hc) (fun c3 => ?_)
      refine r_iconst 40 hX dX8_skill_39 (v := -1) (by decide) ?_
      refine r_iret hX hT dX8_skill_40 ?_
      exact ⟨rfl, rfl⟩
set_option maxRecDepth 100000 in
set_option maxHeartbeats 4000000 in
theorem tX8_free_0 {l : Launch} {G : mx_G} {p : Int32} {M : mx_Mem} (Q : Option Value → mx_Mem → Prop) (hQ : ∀ M9, ¬ Q none M9) (hI9 : ∀ v M9, Q (some v) M9 → ∃ i : Int32, v = .int i) (h : ∀ {l : Launch} {G : mx_G}, mx_Met l G yX8_doFree cX8_doFree 4 (some FieldType.int) 2 45 [.ref 46, .int 0, .int p] (th0 M) Q) : mx_Met l G yX8_free cX8_free 3 ((some FieldType.int)) 3 68 [.ref 46, .int 0, .int p] M (Q) := by
  refine mx_enter (own := RX8) (L := [.ref 46, .int 0, .int p]) (by decide +kernel) rfl rfl rfl ?_
  intro X hlX hX hR hT
  refine r_aload_n 1 hX dX8_free_0 rfl ?_
  refine r_iconst 2 hX dX8_free_1 (v := 0) (by decide) ?_
  refine r_putI 5 hX dX8_free_2 fX8_63 fp8_13 rfl rfl rfl ?_
  refine r_iload_n 6 hX dX8_free_5 rfl ?_
  refine r_cS1F 9 hX hR tX8_isTeam_0 dX8_free_6 kX8_isTeam lX8_71 rfl rfl rfl ?_
  refine r_if_eq 12 21 hX dX8_free_9 (fun c => absurd c (by decide)) (fun _ => ?_)
  refine r_aload_n 13 hX dX8_free_12 rfl ?_
  refine r_iload_n 14 hX dX8_free_13 rfl ?_
  refine r_iload_n 15 hX dX8_free_14 rfl ?_
  refine r_cV2G 18 hX hR h dX8_free_15 kX8_doFree lX8_126 rfl rfl rfl rfl rfl rfl (fun r9 M9 hp9 => ?_)
  cases r9 with
  | none => exact absurd hp9 (hQ _)
  | some v9 =>
    obtain ⟨i9, rfl⟩ := hI9 _ _ hp9
    refine r_goto 22 hX dX8_free_18 ?_
    refine r_iret hX hT dX8_free_22 ?_
    exact hp9
  skip
set_option maxRecDepth 100000 in
set_option maxHeartbeats 4000000 in
theorem tX8_skill_1 {l : Launch} {G : mx_G} {p w : Nat} {v : Int32} {M : mx_Mem} (hp : p < 12) (hw : w < 4) (hv : 0 ≤ v ∧ v ≤ 100) : mx_Met l G yX8_skill cX8_skill 6 ((some FieldType.int)) 2 42 [.ref 46, .int 1, .int (nI p), .int (nI w), .int v] M (mx_F (some (.int (M.1 47 ((12 + p) * 4 + w)))) (mI (th0 M) 47 ((12 + p) * 4 + w) v)) := by
  refine mx_enter (own := RX8) (L := [.ref 46, .int 1, .int (nI p), .int (nI w), .int v, .null]) (by decide +kernel) rfl rfl rfl ?_
  intro X hlX hX hR hT
  have h1 : isP (nI p) := ⟨nI_pos' (by omega), nI_ge (b := 12) (by omega) (by omega)⟩
  have h2 : 0 ≤ nI w ∧ nI w ≤ 3 := ⟨nI_pos' (by omega), nI_le (b := 3) (by omega) (by omega)⟩
  have hx : ((12 : Int32) + nI p) * 4 + nI w = nI ((12 + p) * 4 + w) := by
    rw [show (12 : Int32) = nI 12 from rfl, show (4 : Int32) = nI 4 from rfl, nI_add, pk_mul, nI_add]
  refine r_aload_n 1 hX dX8_skill_0 rfl ?_
  refine r_iconst 2 hX dX8_skill_1 (v := 0) (by decide) ?_
  refine r_putI 5 hX dX8_skill_2 fX8_63 fp8_13 rfl rfl rfl ?_
  refine r_iload_n 6 hX dX8_skill_5 rfl ?_
  refine r_cS1F 9 hX hR tX8_isTeam_1 dX8_skill_6 kX8_isTeam lX8_71 rfl rfl rfl ?_
  refine r_if_eq 12 39 hX dX8_skill_9 (fun c => absurd c (by decide)) (fun _ => ?_)
  refine r_iload_n 13 hX dX8_skill_12 rfl ?_
  refine r_cS1F 16 hX hR tX8_isPlayer dX8_skill_13 kX8_isPlayer lX8_75 rfl rfl rfl ?_
  refine r_Beq 19 39 hX dX8_skill_16 (fun c1 => absurd h1 c1) (fun c1 => ?_)
  refine r_iload_n 20 hX dX8_skill_19 rfl ?_
  refine r_iconst 21 hX dX8_skill_20 (v := 0) (by decide) ?_
  refine r_iconst 22 hX dX8_skill_21 (v := 3) (by decide) ?_
  refine r_cS3F 25 hX hR tX8_in dX8_skill_22 kX8_in lX8_67 rfl rfl rfl ?_
  refine r_Beq 28 39 hX dX8_skill_25 (fun c2 => absurd h2 c2) (fun c2 => ?_)
  refine r_iload 30 hX dX8_skill_28 rfl ?_
  refine r_iconst 31 hX dX8_skill_30 (v := 0) (by decide) ?_
  refine r_bipush 33 hX dX8_skill_31 (v := 100) (by decide) ?_
  refine r_cS3F 36 hX hR tX8_in dX8_skill_33 kX8_in lX8_67 rfl rfl rfl ?_
  refine r_Bne 39 41 hX dX8_skill_36 (fun c3 => ?_) (fun c3 => absurd hv c3)
  refine r_aload_n 42 hX dX8_skill_41 rfl ?_
  refine r_iload_n 43 hX dX8_skill_42 rfl ?_
  refine r_iload_n 44 hX dX8_skill_43 rfl ?_
  refine r_iload_n 45 hX dX8_skill_44 rfl ?_
  refine r_cV3F 48 hX hR (tX8_skillOf (t := 1) (p := p) (w := w) (by omega)) dX8_skill_45 kX8_skillOf lX8_78 rfl rfl rfl rfl rfl rfl ?_
  refine r_istore 50 hX dX8_skill_48 rfl ?_
  refine r_aload_n 51 hX dX8_skill_50 rfl ?_
  refine r_getR 54 hX dX8_skill_51 fX8_9 rfl rfl rfl ?_
  refine r_bipush 56 hX dX8_skill_54 (v := 12) (by decide) ?_
  refine r_iload_n 57 hX dX8_skill_56 rfl ?_
  refine r_imulK 58 hX dX8_skill_57 (w := 12) (by decide) ?_
  refine r_iload_n 59 hX dX8_skill_58 rfl ?_
  refine r_iadd 60 hX dX8_skill_59 ?_
  refine r_iconst 61 hX dX8_skill_60 (v := 4) (by decide) ?_
  refine r_imul 62 hX dX8_skill_61 ?_
  refine r_iload_n 63 hX dX8_skill_62 rfl ?_
  refine r_iadd 64 hX dX8_skill_63 ?_
  rw [hx]
  refine r_iload 66 hX dX8_skill_64 rfl ?_
  refine r_iastK 67 hX dX8_skill_66 rfl rfl (vp_in_nI (show (12 + p) * 4 + w < 96 by omega) (by decide)) (j := (12 + p) * 4 + w) (nI_clamp (by omega)) ?_
  refine r_iload 69 hX dX8_skill_67 rfl ?_
  refine r_iret hX hT dX8_skill_69 ?_
  exact ⟨rfl, rfl⟩
set_option maxRecDepth 100000 in
set_option maxHeartbeats 4000000 in
theorem tX8_skill_1_n {l : Launch} {G : mx_G} {p w v : Int32} {M : mx_Mem} (hc : ¬ mskC p w v) : mx_Met l G yX8_skill cX8_skill 6 ((some FieldType.int)) 2 42 [.ref 46, .int 1, .int p, .int w, .int v] M (mx_F (some (.int (-1))) (th0 M)) := by
  refine mx_enter (own := RX8) (L := [.ref 46, .int 1, .int p, .int w, .int v, .null]) (by decide +kernel) rfl rfl rfl ?_
  intro X hlX hX hR hT
  refine r_aload_n 1 hX dX8_skill_0 rfl ?_
  refine r_iconst 2 hX dX8_skill_1 (v := 0) (by decide) ?_
  refine r_putI 5 hX dX8_skill_2 fX8_63 fp8_13 rfl rfl rfl ?_
  refine r_iload_n 6 hX dX8_skill_5 rfl ?_
  refine r_cS1F 9 hX hR tX8_isTeam_1 dX8_skill_6 kX8_isTeam lX8_71 rfl rfl rfl ?_
  refine r_if_eq 12 39 hX dX8_skill_9 (fun c => absurd c (by decide)) (fun _ => ?_)
  refine r_iload_n 13 hX dX8_skill_12 rfl ?_
  refine r_cS1F 16 hX hR tX8_isPlayer dX8_skill_13 kX8_isPlayer lX8_75 rfl rfl rfl ?_
  refine r_Beq 19 39 hX dX8_skill_16 (fun c1 => ?_) (fun c1 => ?_)
  · refine r_iconst 40 hX dX8_skill_39 (v := -1) (by decide) ?_
    refine r_iret hX hT dX8_skill_40 ?_
    exact ⟨rfl, rfl⟩
  · refine r_iload_n 20 hX dX8_skill_19 rfl ?_
    refine r_iconst 21 hX dX8_skill_20 (v := 0) (by decide) ?_
    refine r_iconst 22 hX dX8_skill_21 (v := 3) (by decide) ?_
    refine r_cS3F 25 hX hR tX8_in dX8_skill_22 kX8_in lX8_67 rfl rfl rfl ?_
    refine r_Beq 28 39 hX dX8_skill_25 (fun c2 => ?_) (fun c2 => ?_)
    · refine r_iconst 40 hX dX8_skill_39 (v := -1) (by decide) ?_
      refine r_iret hX hT dX8_skill_40 ?_
      exact ⟨rfl, rfl⟩
    · refine r_iload 30 hX dX8_skill_28 rfl ?_
      refine r_iconst 31 hX dX8_skill_30 (v := 0) (by decide) ?_
      refine r_bipush 33 hX dX8_skill_31 (v := 100) (by decide) ?_
      refine r_cS3F 36 hX hR tX8_in dX8_skill_33 kX8_in lX8_67 rfl rfl rfl ?_
      refine r_Bne 39 41 hX dX8_skill_36 (fun c3 => absurd ⟨c1, c2, c3⟩ hc) (fun c3 => ?_)
      refine r_iconst 40 hX dX8_skill_39 (v := -1) (by decide) ?_
      refine r_iret hX hT dX8_skill_40 ?_
      exact ⟨rfl, rfl⟩
set_option maxRecDepth 100000 in
set_option maxHeartbeats 4000000 in
theorem tX8_free_1 {l : Launch} {G : mx_G} {p : Int32} {M : mx_Mem} (Q : Option Value → mx_Mem → Prop) (hQ : ∀ M9, ¬ Q none M9) (hI9 : ∀ v M9, Q (some v) M9 → ∃ i : Int32, v = .int i) (h : ∀ {l : Launch} {G : mx_G}, mx_Met l G yX8_doFree cX8_doFree 4 (some FieldType.int) 2 45 [.ref 46, .int 1, .int p] (th0 M) Q) : mx_Met l G yX8_free cX8_free 3 ((some FieldType.int)) 3 68 [.ref 46, .int 1, .int p] M (Q) := by
  refine mx_enter (own := RX8) (L := [.ref 46, .int 1, .int p]) (by decide +kernel) rfl rfl rfl ?_
  intro X hlX hX hR hT
  refine r_aload_n 1 hX dX8_free_0 rfl ?_
  refine r_iconst 2 hX dX8_free_1 (v := 0) (by decide) ?_
  refine r_putI 5 hX dX8_free_2 fX8_63 fp8_13 rfl rfl rfl ?_
  refine r_iload_n 6 hX dX8_free_5 rfl ?_
  refine r_cS1F 9 hX hR tX8_isTeam_1 dX8_free_6 kX8_isTeam lX8_71 rfl rfl rfl ?_
  refine r_if_eq 12 21 hX dX8_free_9 (fun c => absurd c (by decide)) (fun _ => ?_)
  refine r_aload_n 13 hX dX8_free_12 rfl ?_
  refine r_iload_n 14 hX dX8_free_13 rfl ?_
  refine r_iload_n 15 hX dX8_free_14 rfl ?_
  refine r_cV2G 18 hX hR h dX8_free_15 kX8_doFree lX8_126 rfl rfl rfl rfl rfl rfl (fun r9 M9 hp9 => ?_)
  cases r9 with
  | none => exact absurd hp9 (hQ _)
  | some v9 =>
    obtain ⟨i9, rfl⟩ := hI9 _ _ hp9
    refine r_goto 22 hX dX8_free_18 ?_
    refine r_iret hX hT dX8_free_22 ?_
    exact hp9
  skip
def msC (M : mx_Mem) (w v : Int32) : Prop := (0 ≤ w ∧ w ≤ 5) ∧ (nbL.getD w.toNatClampNeg 0 ≤ v ∧ v ≤ nbH.getD w.toNatClampNeg 0) ∧ M.1 52 0 = -1 ∧ (w = 0 → v ≤ M.1 49 1) ∧ (w = 1 → M.1 49 0 ≤ v)
theorem vp_in5 {w : Int32} (h : 0 ≤ w ∧ w ≤ 5) : vp_in w 6 := vp6 h.1 ((le5 w).mp h.2)
set_option maxRecDepth 100000 in
set_option maxHeartbeats 4000000 in
theorem tX8_set {l : Launch} {G : mx_G} {w v : Int32} {M : mx_Mem} : mx_Met l G yX8_set cX8_set 4 ((some FieldType.int)) 1 22 [.ref 46, .int w, .int v] M (fun r M' => (msC M w v ∧ r = some (.int (M.1 49 w.toNatClampNeg)) ∧ M' = mI (th0 M) 49 w.toNatClampNeg v) ∨ (¬ msC M w v ∧ r = some (.int (-1)) ∧ M' = th0 M)) := by
  refine mx_enter (own := RX8) (L := [.ref 46, .int w, .int v, .null]) (by decide +kernel) rfl rfl rfl ?_
  intro X hlX hX hR hT
  refine r_aload_n 1 hX dX8_set_0 rfl ?_
  refine r_iconst 2 hX dX8_set_1 (v := 0) (by decide) ?_
  refine r_putI 5 hX dX8_set_2 fX8_63 fp8_13 rfl rfl rfl ?_
  refine r_iload_n 6 hX dX8_set_5 rfl ?_
  refine r_iconst 7 hX dX8_set_6 (v := 0) (by decide) ?_
  refine r_iconst 8 hX dX8_set_7 (v := 5) (by decide) ?_
  refine r_cS3F 11 hX hR tX8_in dX8_set_8 kX8_in lX8_67 rfl rfl rfl ?_
  refine r_Beq 14 70 hX dX8_set_11 (fun c1 => ?_) (fun c1 => ?_)
  · refine r_iconst 71 hX dX8_set_70 (v := -1) (by decide) ?_
    refine r_iret hX hT dX8_set_71 ?_
    exact Or.inr ⟨fun h => by obtain ⟨h1, h2, h3, h4, h5⟩ := h; first | exact c1 h1 | exact c2 h2 | exact c3 h3 | exact c5 (h4 c4) | exact c6 (h5 c5) | exact c7 (h5 c6), rfl, rfl⟩
  · refine r_iload_n 15 hX dX8_set_14 rfl ?_
    refine r_gets 18 hX dX8_set_15 sX8_86 ?_
    refine r_iload_n 19 hX dX8_set_18 rfl ?_
    refine r_tald 20 hX dX8_set_19 (j := 8) rfl (vp_in5 c1) ?_
    refine r_gets 23 hX dX8_set_20 sX8_89 ?_
    refine r_iload_n 24 hX dX8_set_23 rfl ?_
    refine r_tald 25 hX dX8_set_24 (j := 9) rfl (vp_in5 c1) ?_
    refine r_cS3F 28 hX hR tX8_in dX8_set_25 kX8_in lX8_67 rfl rfl rfl ?_
    refine r_Beq 31 70 hX dX8_set_28 (fun c2 => ?_) (fun c2 => ?_)
    · refine r_iconst 71 hX dX8_set_70 (v := -1) (by decide) ?_
      refine r_iret hX hT dX8_set_71 ?_
      exact Or.inr ⟨fun h => by obtain ⟨h1, h2, h3, h4, h5⟩ := h; first | exact c1 h1 | exact c2 h2 | exact c3 h3 | exact c5 (h4 c4) | exact c6 (h5 c5) | exact c7 (h5 c6), rfl, rfl⟩
    · refine r_aload_n 32 hX dX8_set_31 rfl ?_
      refine r_getR 35 hX dX8_set_32 fX8_26 rfl rfl rfl ?_
      refine r_iconst 36 hX dX8_set_35 (v := 0) (by decide) ?_
      refine r_ialdK 37 hX dX8_set_36 rfl rfl (vpK rfl) (j := 0) (by decide) ?_
      refine r_iconst 38 hX dX8_set_37 (v := -1) (by decide) ?_
      refine r_icmp_ne 41 70 hX dX8_set_38 (fun c3 => ?_) (fun c3 => ?_)
      · refine r_iconst 71 hX dX8_set_70 (v := -1) (by decide) ?_
        refine r_iret hX hT dX8_set_71 ?_
        exact Or.inr ⟨fun h => by obtain ⟨h1, h2, h3, h4, h5⟩ := h; first | exact c1 h1 | exact c2 h2 | exact c3 h3 | exact c5 (h4 c4) | exact c6 (h5 c5) | exact c7 (h5 c6), rfl, rfl⟩
      · refine r_iload_n 42 hX dX8_set_41 rfl ?_
        refine r_if_ne 45 55 hX dX8_set_42 (fun c4 => ?_) (fun c4 => ?_)
        · refine r_iload_n 56 hX dX8_set_55 rfl ?_
          refine r_iconst 57 hX dX8_set_56 (v := 1) (by decide) ?_
          refine r_icmp_ne 60 72 hX dX8_set_57 (fun c5 => ?_) (fun c5 => ?_)
          · refine r_aload_n 73 hX dX8_set_72 rfl ?_
            refine r_getR 76 hX dX8_set_73 fX8_16 rfl rfl rfl ?_
            refine r_iload_n 77 hX dX8_set_76 rfl ?_
            refine r_iald 78 hX dX8_set_77 rfl rfl (vp_in5 c1) ?_
            refine r_istore_n 79 hX dX8_set_78 rfl ?_
            refine r_aload_n 80 hX dX8_set_79 rfl ?_
            refine r_getR 83 hX dX8_set_80 fX8_16 rfl rfl rfl ?_
            refine r_iload_n 84 hX dX8_set_83 rfl ?_
            refine r_iload_n 85 hX dX8_set_84 rfl ?_
            refine r_iast 86 hX dX8_set_85 rfl rfl (vp_in5 c1) ?_
            refine r_iload_n 87 hX dX8_set_86 rfl ?_
            refine r_iret hX hT dX8_set_87 ?_
            exact Or.inl ⟨⟨c1, c2, c3, by first | exact fun _ => c5 | exact fun h => absurd h c4, by first | exact fun _ => c6 | exact fun _ => c7 | exact fun h => absurd h c5 | exact fun h => absurd h c6⟩, rfl, rfl⟩
          · refine r_iload_n 61 hX dX8_set_60 rfl ?_
            refine r_aload_n 62 hX dX8_set_61 rfl ?_
            refine r_getR 65 hX dX8_set_62 fX8_16 rfl rfl rfl ?_
            refine r_iconst 66 hX dX8_set_65 (v := 0) (by decide) ?_
            refine r_ialdK 67 hX dX8_set_66 rfl rfl (vpK rfl) (j := 0) (by decide) ?_
            refine r_icmp_ge 70 72 hX dX8_set_67 (fun c6 => ?_) (fun c6 => ?_)
            · refine r_aload_n 73 hX dX8_set_72 rfl ?_
              refine r_getR 76 hX dX8_set_73 fX8_16 rfl rfl rfl ?_
              refine r_iload_n 77 hX dX8_set_76 rfl ?_
              refine r_iald 78 hX dX8_set_77 rfl rfl (vp_in5 c1) ?_
              refine r_istore_n 79 hX dX8_set_78 rfl ?_
              refine r_aload_n 80 hX dX8_set_79 rfl ?_
              refine r_getR 83 hX dX8_set_80 fX8_16 rfl rfl rfl ?_
              refine r_iload_n 84 hX dX8_set_83 rfl ?_
              refine r_iload_n 85 hX dX8_set_84 rfl ?_
              refine r_iast 86 hX dX8_set_85 rfl rfl (vp_in5 c1) ?_
              refine r_iload_n 87 hX dX8_set_86 rfl ?_
              refine r_iret hX hT dX8_set_87 ?_
              exact Or.inl ⟨⟨c1, c2, c3, by first | exact fun _ => c5 | exact fun h => absurd h c4, by first | exact fun _ => c6 | exact fun _ => c7 | exact fun h => absurd h c5 | exact fun h => absurd h c6⟩, rfl, rfl⟩
            · refine r_iconst 71 hX dX8_set_70 (v := -1) (by decide) ?_
              refine r_iret hX hT dX8_set_71 ?_
              exact Or.inr ⟨fun h => by obtain ⟨h1, h2, h3, h4, h5⟩ := h; first | exact c1 h1 | exact c2 h2 | exact c3 h3 | exact c5 (h4 c4) | exact c6 (h5 c5) | exact c7 (h5 c6), rfl, rfl⟩
        · refine r_iload_n 46 hX dX8_set_45 rfl ?_
          refine r_aload_n 47 hX dX8_set_46 rfl ?_
          refine r_getR 50 hX dX8_set_47 fX8_16 rfl rfl rfl ?_
          refine r_iconst 51 hX dX8_set_50 (v := 1) (by decide) ?_
          refine r_ialdK 52 hX dX8_set_51 rfl rfl (vpK rfl) (j := 1) (by decide) ?_
          refine r_Icmp_gt 55 70 hX dX8_set_52 (fun c5 => ?_) (fun c5 => ?_)
          · refine r_iconst 71 hX dX8_set_70 (v := -1) (by decide) ?_
            refine r_iret hX hT dX8_set_71 ?_
            exact Or.inr ⟨fun h => by obtain ⟨h1, h2, h3, h4, h5⟩ := h; first | exact c1 h1 | exact c2 h2 | exact c3 h3 | exact c5 (h4 c4) | exact c6 (h5 c5) | exact c7 (h5 c6), rfl, rfl⟩
          · refine r_iload_n 56 hX dX8_set_55 rfl ?_
            refine r_iconst 57 hX dX8_set_56 (v := 1) (by decide) ?_
            refine r_icmp_ne 60 72 hX dX8_set_57 (fun c6 => ?_) (fun c6 => ?_)
            · refine r_aload_n 73 hX dX8_set_72 rfl ?_
              refine r_getR 76 hX dX8_set_73 fX8_16 rfl rfl rfl ?_
              refine r_iload_n 77 hX dX8_set_76 rfl ?_
              refine r_iald 78 hX dX8_set_77 rfl rfl (vp_in5 c1) ?_
              refine r_istore_n 79 hX dX8_set_78 rfl ?_
              refine r_aload_n 80 hX dX8_set_79 rfl ?_
              refine r_getR 83 hX dX8_set_80 fX8_16 rfl rfl rfl ?_
              refine r_iload_n 84 hX dX8_set_83 rfl ?_
              refine r_iload_n 85 hX dX8_set_84 rfl ?_
              refine r_iast 86 hX dX8_set_85 rfl rfl (vp_in5 c1) ?_
              refine r_iload_n 87 hX dX8_set_86 rfl ?_
              refine r_iret hX hT dX8_set_87 ?_
              exact Or.inl ⟨⟨c1, c2, c3, by first | exact fun _ => c5 | exact fun h => absurd h c4, by first | exact fun _ => c6 | exact fun _ => c7 | exact fun h => absurd h c5 | exact fun h => absurd h c6⟩, rfl, rfl⟩
            · refine r_iload_n 61 hX dX8_set_60 rfl ?_
              refine r_aload_n 62 hX dX8_set_61 rfl ?_
              refine r_getR 65 hX dX8_set_62 fX8_16 rfl rfl rfl ?_
              refine r_iconst 66 hX dX8_set_65 (v := 0) (by decide) ?_
              refine r_ialdK 67 hX dX8_set_66 rfl rfl (vpK rfl) (j := 0) (by decide) ?_
              refine r_icmp_ge 70 72 hX dX8_set_67 (fun c7 => ?_) (fun c7 => ?_)
              · refine r_aload_n 73 hX dX8_set_72 rfl ?_
                refine r_getR 76 hX dX8_set_73 fX8_16 rfl rfl rfl ?_
                refine r_iload_n 77 hX dX8_set_76 rfl ?_
                refine r_iald 78 hX dX8_set_77 rfl rfl (vp_in5 c1) ?_
                refine r_istore_n 79 hX dX8_set_78 rfl ?_
                refine r_aload_n 80 hX dX8_set_79 rfl ?_
                refine r_getR 83 hX dX8_set_80 fX8_16 rfl rfl rfl ?_
                refine r_iload_n 84 hX dX8_set_83 rfl ?_
                refine r_iload_n 85 hX dX8_set_84 rfl ?_
                refine r_iast 86 hX dX8_set_85 rfl rfl (vp_in5 c1) ?_
                refine r_iload_n 87 hX dX8_set_86 rfl ?_
                refine r_iret hX hT dX8_set_87 ?_
                exact Or.inl ⟨⟨c1, c2, c3, by first | exact fun _ => c5 | exact fun h => absurd h c4, by first | exact fun _ => c6 | exact fun _ => c7 | exact fun h => absurd h c5 | exact fun h => absurd h c6⟩, rfl, rfl⟩
              · refine r_iconst 71 hX dX8_set_70 (v := -1) (by decide) ?_
                refine r_iret hX hT dX8_set_71 ?_
                exact Or.inr ⟨fun h => by obtain ⟨h1, h2, h3, h4, h5⟩ := h; first | exact c1 h1 | exact c2 h2 | exact c3 h3 | exact c5 (h4 c4) | exact c6 (h5 c5) | exact c7 (h5 c6), rfl, rfl⟩
def mcn (M : mx_Mem) (k : Nat) : Int32 := match k with
  | 0 => M.1 52 0
  | 1 => M.1 52 1
  | 2 => M.1 52 2
  | 3 => M.1 52 3
  | 4 => M.1 52 4
  | 5 => M.1 46 12
  | 6 => M.1 46 10
  | 7 => M.1 52 5
  | _ => -1
set_option maxRecDepth 100000 in
set_option maxHeartbeats 4000000 in
theorem tX8_count_0 {l : Launch} {G : mx_G} {M : mx_Mem} : mx_Met l G yX8_count cX8_count 2 ((some FieldType.int)) 0 0 [.ref 46, .int 0] M (mx_F (some (.int (mcn M 0))) (th0 M)) := by
  refine mx_enter (own := RX8) (L := [.ref 46, .int 0]) (by decide +kernel) rfl rfl rfl ?_
  intro X hlX hX hR hT
  refine r_aload_n 1 hX dX8_count_0 rfl ?_
  refine r_iconst 2 hX dX8_count_1 (v := 0) (by decide) ?_
  refine r_putI 5 hX dX8_count_2 fX8_63 fp8_13 rfl rfl rfl ?_
  refine r_iload_n 6 hX dX8_count_5 rfl ?_
  refine r_tableIn 52 hX dX8_count_6 (off := 46) (by decide) (by decide) rfl ?_
  refine r_aload_n 53 hX dX8_count_52 rfl ?_
  refine r_getR 56 hX dX8_count_53 fX8_26 rfl rfl rfl ?_
  refine r_iconst 57 hX dX8_count_56 (v := 0) (by decide) ?_
  refine r_ialdK 58 hX dX8_count_57 rfl rfl (vpK rfl) (j := 0) (by decide) ?_
  refine r_iret hX hT dX8_count_58 ?_
  exact ⟨rfl, rfl⟩
set_option maxRecDepth 100000 in
set_option maxHeartbeats 4000000 in
theorem tX8_count_1 {l : Launch} {G : mx_G} {M : mx_Mem} : mx_Met l G yX8_count cX8_count 2 ((some FieldType.int)) 0 0 [.ref 46, .int 1] M (mx_F (some (.int (mcn M 1))) (th0 M)) := by
  refine mx_enter (own := RX8) (L := [.ref 46, .int 1]) (by decide +kernel) rfl rfl rfl ?_
  intro X hlX hX hR hT
  refine r_aload_n 1 hX dX8_count_0 rfl ?_
  refine r_iconst 2 hX dX8_count_1 (v := 0) (by decide) ?_
  refine r_putI 5 hX dX8_count_2 fX8_63 fp8_13 rfl rfl rfl ?_
  refine r_iload_n 6 hX dX8_count_5 rfl ?_
  refine r_tableIn 59 hX dX8_count_6 (off := 53) (by decide) (by decide) rfl ?_
  refine r_aload_n 60 hX dX8_count_59 rfl ?_
  refine r_getR 63 hX dX8_count_60 fX8_26 rfl rfl rfl ?_
  refine r_iconst 64 hX dX8_count_63 (v := 1) (by decide) ?_
  refine r_ialdK 65 hX dX8_count_64 rfl rfl (vpK rfl) (j := 1) (by decide) ?_
  refine r_iret hX hT dX8_count_65 ?_
  exact ⟨rfl, rfl⟩
set_option maxRecDepth 100000 in
set_option maxHeartbeats 4000000 in
theorem tX8_count_2 {l : Launch} {G : mx_G} {M : mx_Mem} : mx_Met l G yX8_count cX8_count 2 ((some FieldType.int)) 0 0 [.ref 46, .int 2] M (mx_F (some (.int (mcn M 2))) (th0 M)) := by
  refine mx_enter (own := RX8) (L := [.ref 46, .int 2]) (by decide +kernel) rfl rfl rfl ?_
  intro X hlX hX hR hT
  refine r_aload_n 1 hX dX8_count_0 rfl ?_
  refine r_iconst 2 hX dX8_count_1 (v := 0) (by decide) ?_
  refine r_putI 5 hX dX8_count_2 fX8_63 fp8_13 rfl rfl rfl ?_
  refine r_iload_n 6 hX dX8_count_5 rfl ?_
  refine r_tableIn 66 hX dX8_count_6 (off := 60) (by decide) (by decide) rfl ?_
  refine r_aload_n 67 hX dX8_count_66 rfl ?_
  refine r_getR 70 hX dX8_count_67 fX8_26 rfl rfl rfl ?_
  refine r_iconst 71 hX dX8_count_70 (v := 2) (by decide) ?_
  refine r_ialdK 72 hX dX8_count_71 rfl rfl (vpK rfl) (j := 2) (by decide) ?_
  refine r_iret hX hT dX8_count_72 ?_
  exact ⟨rfl, rfl⟩
set_option maxRecDepth 100000 in
set_option maxHeartbeats 4000000 in
theorem tX8_count_3 {l : Launch} {G : mx_G} {M : mx_Mem} : mx_Met l G yX8_count cX8_count 2 ((some FieldType.int)) 0 0 [.ref 46, .int 3] M (mx_F (some (.int (mcn M 3))) (th0 M)) := by
  refine mx_enter (own := RX8) (L := [.ref 46, .int 3]) (by decide +kernel) rfl rfl rfl ?_
  intro X hlX hX hR hT
  refine r_aload_n 1 hX dX8_count_0 rfl ?_
  refine r_iconst 2 hX dX8_count_1 (v := 0) (by decide) ?_
  refine r_putI 5 hX dX8_count_2 fX8_63 fp8_13 rfl rfl rfl ?_
  refine r_iload_n 6 hX dX8_count_5 rfl ?_
  refine r_tableIn 73 hX dX8_count_6 (off := 67) (by decide) (by decide) rfl ?_
  refine r_aload_n 74 hX dX8_count_73 rfl ?_
  refine r_getR 77 hX dX8_count_74 fX8_26 rfl rfl rfl ?_
  refine r_iconst 78 hX dX8_count_77 (v := 3) (by decide) ?_
  refine r_ialdK 79 hX dX8_count_78 rfl rfl (vpK rfl) (j := 3) (by decide) ?_
  refine r_iret hX hT dX8_count_79 ?_
  exact ⟨rfl, rfl⟩
set_option maxRecDepth 100000 in
set_option maxHeartbeats 4000000 in
theorem tX8_count_4 {l : Launch} {G : mx_G} {M : mx_Mem} : mx_Met l G yX8_count cX8_count 2 ((some FieldType.int)) 0 0 [.ref 46, .int 4] M (mx_F (some (.int (mcn M 4))) (th0 M)) := by
  refine mx_enter (own := RX8) (L := [.ref 46, .int 4]) (by decide +kernel) rfl rfl rfl ?_
  intro X hlX hX hR hT
  refine r_aload_n 1 hX dX8_count_0 rfl ?_
  refine r_iconst 2 hX dX8_count_1 (v := 0) (by decide) ?_
  refine r_putI 5 hX dX8_count_2 fX8_63 fp8_13 rfl rfl rfl ?_
  refine r_iload_n 6 hX dX8_count_5 rfl ?_
  refine r_tableIn 80 hX dX8_count_6 (off := 74) (by decide) (by decide) rfl ?_
  refine r_aload_n 81 hX dX8_count_80 rfl ?_
  refine r_getR 84 hX dX8_count_81 fX8_26 rfl rfl rfl ?_
  refine r_iconst 85 hX dX8_count_84 (v := 4) (by decide) ?_
  refine r_ialdK 86 hX dX8_count_85 rfl rfl (vpK rfl) (j := 4) (by decide) ?_
  refine r_iret hX hT dX8_count_86 ?_
  exact ⟨rfl, rfl⟩
set_option maxRecDepth 100000 in
set_option maxHeartbeats 4000000 in
theorem tX8_count_5 {l : Launch} {G : mx_G} {M : mx_Mem} : mx_Met l G yX8_count cX8_count 2 ((some FieldType.int)) 0 0 [.ref 46, .int 5] M (mx_F (some (.int (mcn M 5))) (th0 M)) := by
  refine mx_enter (own := RX8) (L := [.ref 46, .int 5]) (by decide +kernel) rfl rfl rfl ?_
  intro X hlX hX hR hT
  refine r_aload_n 1 hX dX8_count_0 rfl ?_
  refine r_iconst 2 hX dX8_count_1 (v := 0) (by decide) ?_
  refine r_putI 5 hX dX8_count_2 fX8_63 fp8_13 rfl rfl rfl ?_
  refine r_iload_n 6 hX dX8_count_5 rfl ?_
  refine r_tableIn 87 hX dX8_count_6 (off := 81) (by decide) (by decide) rfl ?_
  refine r_aload_n 88 hX dX8_count_87 rfl ?_
  refine r_getI 91 hX dX8_count_88 fX8_132 rfl rfl rfl ?_
  refine r_iret hX hT dX8_count_91 ?_
  exact ⟨rfl, rfl⟩
set_option maxRecDepth 100000 in
set_option maxHeartbeats 4000000 in
theorem tX8_count_6 {l : Launch} {G : mx_G} {M : mx_Mem} : mx_Met l G yX8_count cX8_count 2 ((some FieldType.int)) 0 0 [.ref 46, .int 6] M (mx_F (some (.int (mcn M 6))) (th0 M)) := by
  refine mx_enter (own := RX8) (L := [.ref 46, .int 6]) (by decide +kernel) rfl rfl rfl ?_
  intro X hlX hX hR hT
  refine r_aload_n 1 hX dX8_count_0 rfl ?_
  refine r_iconst 2 hX dX8_count_1 (v := 0) (by decide) ?_
  refine r_putI 5 hX dX8_count_2 fX8_63 fp8_13 rfl rfl rfl ?_
  refine r_iload_n 6 hX dX8_count_5 rfl ?_
  refine r_tableIn 92 hX dX8_count_6 (off := 86) (by decide) (by decide) rfl ?_
  refine r_aload_n 93 hX dX8_count_92 rfl ?_
  refine r_getI 96 hX dX8_count_93 fX8_135 rfl rfl rfl ?_
  refine r_iret hX hT dX8_count_96 ?_
  exact ⟨rfl, rfl⟩
set_option maxRecDepth 100000 in
set_option maxHeartbeats 4000000 in
theorem tX8_count_7 {l : Launch} {G : mx_G} {M : mx_Mem} : mx_Met l G yX8_count cX8_count 2 ((some FieldType.int)) 0 0 [.ref 46, .int 7] M (mx_F (some (.int (mcn M 7))) (th0 M)) := by
  refine mx_enter (own := RX8) (L := [.ref 46, .int 7]) (by decide +kernel) rfl rfl rfl ?_
  intro X hlX hX hR hT
  refine r_aload_n 1 hX dX8_count_0 rfl ?_
  refine r_iconst 2 hX dX8_count_1 (v := 0) (by decide) ?_
  refine r_putI 5 hX dX8_count_2 fX8_63 fp8_13 rfl rfl rfl ?_
  refine r_iload_n 6 hX dX8_count_5 rfl ?_
  refine r_tableIn 97 hX dX8_count_6 (off := 91) (by decide) (by decide) rfl ?_
  refine r_aload_n 98 hX dX8_count_97 rfl ?_
  refine r_getR 101 hX dX8_count_98 fX8_26 rfl rfl rfl ?_
  refine r_iconst 102 hX dX8_count_101 (v := 5) (by decide) ?_
  refine r_ialdK 103 hX dX8_count_102 rfl rfl (vpK rfl) (j := 5) (by decide) ?_
  refine r_iret hX hT dX8_count_103 ?_
  exact ⟨rfl, rfl⟩
set_option maxRecDepth 100000 in
set_option maxHeartbeats 4000000 in
theorem tX8_count_n {l : Launch} {G : mx_G} {w : Int32} {M : mx_Mem} (hw : w.toInt < 0 ∨ (7 : Int) < w.toInt) : mx_Met l G yX8_count cX8_count 2 ((some FieldType.int)) 0 0 [.ref 46, .int w] M (mx_F (some (.int (-1))) (th0 M)) := by
  refine mx_enter (own := RX8) (L := [.ref 46, .int w]) (by decide +kernel) rfl rfl rfl ?_
  intro X hlX hX hR hT
  refine r_aload_n 1 hX dX8_count_0 rfl ?_
  refine r_iconst 2 hX dX8_count_1 (v := 0) (by decide) ?_
  refine r_putI 5 hX dX8_count_2 fX8_63 fp8_13 rfl rfl rfl ?_
  refine r_iload_n 6 hX dX8_count_5 rfl ?_
  refine r_tableOut 104 hX dX8_count_6 hw ?_
  refine r_iconst 105 hX dX8_count_104 (v := -1) (by decide) ?_
  refine r_iret hX hT dX8_count_105 ?_
  exact ⟨rfl, rfl⟩
set_option maxRecDepth 100000 in
set_option maxHeartbeats 4000000 in
theorem tX8_skill_n {l : Launch} {G : mx_G} {t a b c : Int32} {M : mx_Mem} (ht : ¬ isT t) : mx_Met l G yX8_skill cX8_skill 6 ((some FieldType.int)) 2 42 [.ref 46, .int t, .int a, .int b, .int c] M (mx_F (some (.int (-1))) (th0 M)) := by
  refine mx_enter (own := RX8) (L := [.ref 46, .int t, .int a, .int b, .int c, .null]) (by decide +kernel) rfl rfl rfl ?_
  intro X hlX hX hR hT
  refine r_aload_n 1 hX dX8_skill_0 rfl ?_
  refine r_iconst 2 hX dX8_skill_1 (v := 0) (by decide) ?_
  refine r_putI 5 hX dX8_skill_2 fX8_63 fp8_13 rfl rfl rfl ?_
  refine r_iload_n 6 hX dX8_skill_5 rfl ?_
  refine r_cS1F 9 hX hR tX8_isTeam dX8_skill_6 kX8_isTeam lX8_71 rfl rfl rfl ?_
  refine r_Beq 12 39 hX dX8_skill_9 (fun c1 => ?_) (fun c1 => absurd c1 ht)
  refine r_iconst 40 hX dX8_skill_39 (v := -1) (by decide) ?_
  refine r_iret hX hT dX8_skill_40 ?_
  exact ⟨rfl, rfl⟩
set_option maxRecDepth 100000 in
set_option maxHeartbeats 4000000 in
theorem tX8_libre_n {l : Launch} {G : mx_G} {t a : Int32} {M : mx_Mem} (ht : ¬ isT t) : mx_Met l G yX8_libre cX8_libre 4 ((some FieldType.int)) 2 42 [.ref 46, .int t, .int a] M (mx_F (some (.int (-2))) (th0 M)) := by
  refine mx_enter (own := RX8) (L := [.ref 46, .int t, .int a, .null]) (by decide +kernel) rfl rfl rfl ?_
  intro X hlX hX hR hT
  refine r_aload_n 1 hX dX8_libre_0 rfl ?_
  refine r_iconst 2 hX dX8_libre_1 (v := 0) (by decide) ?_
  refine r_putI 5 hX dX8_libre_2 fX8_63 fp8_13 rfl rfl rfl ?_
  refine r_iload_n 6 hX dX8_libre_5 rfl ?_
  refine r_cS1F 9 hX hR tX8_isTeam dX8_libre_6 kX8_isTeam lX8_71 rfl rfl rfl ?_
  refine r_Beq 12 31 hX dX8_libre_9 (fun c1 => ?_) (fun c1 => absurd c1 ht)
  refine r_bipush 33 hX dX8_libre_31 (v := -2) (by decide) ?_
  refine r_iret hX hT dX8_libre_33 ?_
  exact ⟨rfl, rfl⟩
set_option maxRecDepth 100000 in
set_option maxHeartbeats 4000000 in
theorem tX8_begin_n {l : Launch} {G : mx_G} {t  : Int32} {M : mx_Mem} (ht : ¬ isT t) : mx_Met l G yX8_begin cX8_begin 5 ((some FieldType.int)) 1 23 [.ref 46, .int t] M (mx_F (some (.int (-1))) (th0 M)) := by
  refine mx_enter (own := RX8) (L := [.ref 46, .int t, .null, .null, .null]) (by decide +kernel) rfl rfl rfl ?_
  intro X hlX hX hR hT
  refine r_aload_n 1 hX dX8_begin_0 rfl ?_
  refine r_iconst 2 hX dX8_begin_1 (v := 0) (by decide) ?_
  refine r_putI 5 hX dX8_begin_2 fX8_63 fp8_13 rfl rfl rfl ?_
  refine r_iload_n 6 hX dX8_begin_5 rfl ?_
  refine r_cS1F 9 hX hR tX8_isTeam dX8_begin_6 kX8_isTeam lX8_71 rfl rfl rfl ?_
  refine r_Beq 12 63 hX dX8_begin_9 (fun c1 => ?_) (fun c1 => absurd c1 ht)
  refine r_iconst 64 hX dX8_begin_63 (v := -1) (by decide) ?_
  refine r_iret hX hT dX8_begin_64 ?_
  exact ⟨rfl, rfl⟩
set_option maxRecDepth 100000 in
set_option maxHeartbeats 4000000 in
theorem tX8_rally_n {l : Launch} {G : mx_G} {t  : Int32} {M : mx_Mem} (ht : ¬ isT t) : mx_Met l G yX8_rally cX8_rally 2 ((some FieldType.int)) 4 85 [.ref 46, .int t] M (mx_F (some (.int (-1))) (th0 M)) := by
  refine mx_enter (own := RX8) (L := [.ref 46, .int t]) (by decide +kernel) rfl rfl rfl ?_
  intro X hlX hX hR hT
  refine r_aload_n 1 hX dX8_rally_0 rfl ?_
  refine r_iconst 2 hX dX8_rally_1 (v := 0) (by decide) ?_
  refine r_putI 5 hX dX8_rally_2 fX8_63 fp8_13 rfl rfl rfl ?_
  refine r_iload_n 6 hX dX8_rally_5 rfl ?_
  refine r_cS1F 9 hX hR tX8_isTeam dX8_rally_6 kX8_isTeam lX8_71 rfl rfl rfl ?_
  refine r_Beq 12 27 hX dX8_rally_9 (fun c1 => ?_) (fun c1 => absurd c1 ht)
  refine r_iconst 28 hX dX8_rally_27 (v := -1) (by decide) ?_
  refine r_iret hX hT dX8_rally_28 ?_
  exact ⟨rfl, rfl⟩
set_option maxRecDepth 100000 in
set_option maxHeartbeats 4000000 in
theorem tX8_may_n {l : Launch} {G : mx_G} {t a b : Int32} {M : mx_Mem} (ht : ¬ isT t) : mx_Met l G yX8_may cX8_may 4 ((some FieldType.int)) 3 70 [.ref 46, .int t, .int a, .int b] M (mx_F (some (.int (-1))) (th0 M)) := by
  refine mx_enter (own := RX8) (L := [.ref 46, .int t, .int a, .int b]) (by decide +kernel) rfl rfl rfl ?_
  intro X hlX hX hR hT
  refine r_aload_n 1 hX dX8_may_0 rfl ?_
  refine r_iconst 2 hX dX8_may_1 (v := 0) (by decide) ?_
  refine r_putI 5 hX dX8_may_2 fX8_63 fp8_13 rfl rfl rfl ?_
  refine r_iload_n 6 hX dX8_may_5 rfl ?_
  refine r_cS1F 9 hX hR tX8_isTeam dX8_may_6 kX8_isTeam lX8_71 rfl rfl rfl ?_
  refine r_Beq 12 22 hX dX8_may_9 (fun c1 => ?_) (fun c1 => absurd c1 ht)
  refine r_iconst 23 hX dX8_may_22 (v := -1) (by decide) ?_
  refine r_iret hX hT dX8_may_23 ?_
  exact ⟨rfl, rfl⟩
set_option maxRecDepth 100000 in
set_option maxHeartbeats 4000000 in
theorem tX8_change_n {l : Launch} {G : mx_G} {t a b : Int32} {M : mx_Mem} (ht : ¬ isT t) : mx_Met l G yX8_change cX8_change 4 ((some FieldType.int)) 3 70 [.ref 46, .int t, .int a, .int b] M (mx_F (some (.int (-1))) (th0 M)) := by
  refine mx_enter (own := RX8) (L := [.ref 46, .int t, .int a, .int b]) (by decide +kernel) rfl rfl rfl ?_
  intro X hlX hX hR hT
  refine r_aload_n 1 hX dX8_change_0 rfl ?_
  refine r_iconst 2 hX dX8_change_1 (v := 0) (by decide) ?_
  refine r_putI 5 hX dX8_change_2 fX8_63 fp8_13 rfl rfl rfl ?_
  refine r_iload_n 6 hX dX8_change_5 rfl ?_
  refine r_cS1F 9 hX hR tX8_isTeam dX8_change_6 kX8_isTeam lX8_71 rfl rfl rfl ?_
  refine r_Beq 12 32 hX dX8_change_9 (fun c1 => ?_) (fun c1 => absurd c1 ht)
  refine r_iconst 33 hX dX8_change_32 (v := -1) (by decide) ?_
  refine r_iret hX hT dX8_change_33 ?_
  exact ⟨rfl, rfl⟩
set_option maxRecDepth 100000 in
set_option maxHeartbeats 4000000 in
theorem tX8_free_n {l : Launch} {G : mx_G} {t a : Int32} {M : mx_Mem} (ht : ¬ isT t) : mx_Met l G yX8_free cX8_free 3 ((some FieldType.int)) 3 68 [.ref 46, .int t, .int a] M (mx_F (some (.int (-1))) (th0 M)) := by
  refine mx_enter (own := RX8) (L := [.ref 46, .int t, .int a]) (by decide +kernel) rfl rfl rfl ?_
  intro X hlX hX hR hT
  refine r_aload_n 1 hX dX8_free_0 rfl ?_
  refine r_iconst 2 hX dX8_free_1 (v := 0) (by decide) ?_
  refine r_putI 5 hX dX8_free_2 fX8_63 fp8_13 rfl rfl rfl ?_
  refine r_iload_n 6 hX dX8_free_5 rfl ?_
  refine r_cS1F 9 hX hR tX8_isTeam dX8_free_6 kX8_isTeam lX8_71 rfl rfl rfl ?_
  refine r_Beq 12 21 hX dX8_free_9 (fun c1 => ?_) (fun c1 => absurd c1 ht)
  refine r_iconst 22 hX dX8_free_21 (v := -1) (by decide) ?_
  refine r_iret hX hT dX8_free_22 ?_
  exact ⟨rfl, rfl⟩
set_option maxRecDepth 100000 in
set_option maxHeartbeats 4000000 in
theorem tX8_pause_n {l : Launch} {G : mx_G} {t  : Int32} {M : mx_Mem} (ht : ¬ isT t) : mx_Met l G yX8_pause cX8_pause 2 ((some FieldType.int)) 2 44 [.ref 46, .int t] M (mx_F (some (.int (-1))) (th0 M)) := by
  refine mx_enter (own := RX8) (L := [.ref 46, .int t]) (by decide +kernel) rfl rfl rfl ?_
  intro X hlX hX hR hT
  refine r_aload_n 1 hX dX8_pause_0 rfl ?_
  refine r_iconst 2 hX dX8_pause_1 (v := 0) (by decide) ?_
  refine r_putI 5 hX dX8_pause_2 fX8_63 fp8_13 rfl rfl rfl ?_
  refine r_iload_n 6 hX dX8_pause_5 rfl ?_
  refine r_cS1F 9 hX hR tX8_isTeam dX8_pause_6 kX8_isTeam lX8_71 rfl rfl rfl ?_
  refine r_Beq 12 20 hX dX8_pause_9 (fun c1 => ?_) (fun c1 => absurd c1 ht)
  refine r_iconst 21 hX dX8_pause_20 (v := -1) (by decide) ?_
  refine r_iret hX hT dX8_pause_21 ?_
  exact ⟨rfl, rfl⟩
set_option maxRecDepth 100000 in
set_option maxHeartbeats 4000000 in
theorem tX8_at_n {l : Launch} {G : mx_G} {t a : Int32} {M : mx_Mem} (ht : ¬ isT t) : mx_Met l G yX8_at cX8_at 3 ((some FieldType.int)) 1 22 [.ref 46, .int t, .int a] M (mx_F (some (.int (-1))) (th0 M)) := by
  refine mx_enter (own := RX8) (L := [.ref 46, .int t, .int a]) (by decide +kernel) rfl rfl rfl ?_
  intro X hlX hX hR hT
  refine r_aload_n 1 hX dX8_at_0 rfl ?_
  refine r_iconst 2 hX dX8_at_1 (v := 0) (by decide) ?_
  refine r_putI 5 hX dX8_at_2 fX8_63 fp8_13 rfl rfl rfl ?_
  refine r_iload_n 6 hX dX8_at_5 rfl ?_
  refine r_cS1F 9 hX hR tX8_isTeam dX8_at_6 kX8_isTeam lX8_71 rfl rfl rfl ?_
  refine r_Beq 12 43 hX dX8_at_9 (fun c1 => ?_) (fun c1 => absurd c1 ht)
  refine r_iconst 44 hX dX8_at_43 (v := -1) (by decide) ?_
  refine r_iret hX hT dX8_at_44 ?_
  exact ⟨rfl, rfl⟩
set_option maxRecDepth 100000 in
set_option maxHeartbeats 4000000 in
theorem tX8_of_n {l : Launch} {G : mx_G} {t a : Int32} {M : mx_Mem} (ht : ¬ isT t) : mx_Met l G yX8_of cX8_of 3 ((some FieldType.int)) 1 22 [.ref 46, .int t, .int a] M (mx_F (some (.int (-1))) (th0 M)) := by
  refine mx_enter (own := RX8) (L := [.ref 46, .int t, .int a]) (by decide +kernel) rfl rfl rfl ?_
  intro X hlX hX hR hT
  refine r_aload_n 1 hX dX8_of_0 rfl ?_
  refine r_iconst 2 hX dX8_of_1 (v := 0) (by decide) ?_
  refine r_putI 5 hX dX8_of_2 fX8_63 fp8_13 rfl rfl rfl ?_
  refine r_iload_n 6 hX dX8_of_5 rfl ?_
  refine r_cS1F 9 hX hR tX8_isTeam dX8_of_6 kX8_isTeam lX8_71 rfl rfl rfl ?_
  refine r_Beq 12 31 hX dX8_of_9 (fun c1 => ?_) (fun c1 => absurd c1 ht)
  refine r_iconst 32 hX dX8_of_31 (v := -1) (by decide) ?_
  refine r_iret hX hT dX8_of_32 ?_
  exact ⟨rfl, rfl⟩
set_option maxRecDepth 100000 in
set_option maxHeartbeats 4000000 in
theorem tX8_served_n {l : Launch} {G : mx_G} {t a : Int32} {M : mx_Mem} (ht : ¬ isT t) : mx_Met l G yX8_served cX8_served 3 ((some FieldType.int)) 2 42 [.ref 46, .int t, .int a] M (mx_F (some (.int (-1))) (th0 M)) := by
  refine mx_enter (own := RX8) (L := [.ref 46, .int t, .int a]) (by decide +kernel) rfl rfl rfl ?_
  intro X hlX hX hR hT
  refine r_aload_n 1 hX dX8_served_0 rfl ?_
  refine r_iconst 2 hX dX8_served_1 (v := 0) (by decide) ?_
  refine r_putI 5 hX dX8_served_2 fX8_63 fp8_13 rfl rfl rfl ?_
  refine r_iload_n 6 hX dX8_served_5 rfl ?_
  refine r_cS1F 9 hX hR tX8_isTeam dX8_served_6 kX8_isTeam lX8_71 rfl rfl rfl ?_
  refine r_Beq 12 31 hX dX8_served_9 (fun c1 => ?_) (fun c1 => absurd c1 ht)
  refine r_iconst 32 hX dX8_served_31 (v := -1) (by decide) ?_
  refine r_iret hX hT dX8_served_32 ?_
  exact ⟨rfl, rfl⟩
set_option maxRecDepth 100000 in
set_option maxHeartbeats 4000000 in
theorem tX8_feet_n {l : Launch} {G : mx_G} {t a b c : Int32} {M : mx_Mem} (ht : ¬ isT t) : mx_Met l G yX8_feet cX8_feet 5 ((some FieldType.boolean)) 1 22 [.ref 46, .int t, .int a, .int b, .int c] M (mx_F (some (.int 0)) (th0 M)) := by
  refine mx_enter (own := RX8) (L := [.ref 46, .int t, .int a, .int b, .int c]) (by decide +kernel) rfl rfl rfl ?_
  intro X hlX hX hR hT
  refine r_aload_n 1 hX dX8_feet_0 rfl ?_
  refine r_iconst 2 hX dX8_feet_1 (v := 0) (by decide) ?_
  refine r_putI 5 hX dX8_feet_2 fX8_63 fp8_13 rfl rfl rfl ?_
  refine r_iload_n 6 hX dX8_feet_5 rfl ?_
  refine r_cS1F 9 hX hR tX8_isTeam dX8_feet_6 kX8_isTeam lX8_71 rfl rfl rfl ?_
  refine r_Beq 12 51 hX dX8_feet_9 (fun c1 => ?_) (fun c1 => absurd c1 ht)
  refine r_iconst 52 hX dX8_feet_51 (v := 0) (by decide) ?_
  refine r_zret hX hT dX8_feet_52 (by first | assumption | decide) ?_
  exact ⟨rfl, rfl⟩
set_option maxRecDepth 100000 in
set_option maxHeartbeats 4000000 in
theorem tX8_overlap_n {l : Launch} {G : mx_G} {t  : Int32} {M : mx_Mem} (ht : ¬ isT t) : mx_Met l G yX8_overlap cX8_overlap 4 ((some FieldType.int)) 1 20 [.ref 46, .int t] M (mx_F (some (.int (-1))) (th0 M)) := by
  refine mx_enter (own := RX8) (L := [.ref 46, .int t, .null, .null]) (by decide +kernel) rfl rfl rfl ?_
  intro X hlX hX hR hT
  refine r_aload_n 1 hX dX8_overlap_0 rfl ?_
  refine r_iconst 2 hX dX8_overlap_1 (v := 0) (by decide) ?_
  refine r_putI 5 hX dX8_overlap_2 fX8_63 fp8_13 rfl rfl rfl ?_
  refine r_iload_n 6 hX dX8_overlap_5 rfl ?_
  refine r_cS1F 9 hX hR tX8_isTeam dX8_overlap_6 kX8_isTeam lX8_71 rfl rfl rfl ?_
  refine r_Beq 12 19 hX dX8_overlap_9 (fun c1 => ?_) (fun c1 => absurd c1 ht)
  refine r_iconst 20 hX dX8_overlap_19 (v := -1) (by decide) ?_
  refine r_iret hX hT dX8_overlap_20 ?_
  exact ⟨rfl, rfl⟩

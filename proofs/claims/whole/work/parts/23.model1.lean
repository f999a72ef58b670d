/-! the model: small ones -/
theorem mx_back {P : Nat → Prop} (N : Nat) (h : ∀ i, i < N → P (i + 1) → P i) (hN : P N) : P 0 := by
  have key : ∀ d, d ≤ N → P (N - d) := by
    intro d
    induction d with
    | zero => intro _; exact hN
    | succ d ih =>
      intro hd
      have h1 := ih (by omega)
      refine h (N - (d + 1)) (by omega) ?_
      rw [show N - (d + 1) + 1 = N - d by omega]
      exact h1
  have := key N (Nat.le_refl N)
  rwa [Nat.sub_self] at this
theorem le11 (p : Int32) : p ≤ 11 ↔ ¬ 12 ≤ p := by
  rw [Int32.le_iff_toInt_le, Int32.le_iff_toInt_le]
  have h1 : (11 : Int32).toInt = 11 := rfl
  have h2 : (12 : Int32).toInt = 12 := rfl
  omega
theorem le5 (p : Int32) : p ≤ 5 ↔ ¬ 6 ≤ p := by
  rw [Int32.le_iff_toInt_le, Int32.le_iff_toInt_le]
  have h1 : (5 : Int32).toInt = 5 := rfl
  have h2 : (6 : Int32).toInt = 6 := rfl
  omega
theorem le3 (p : Int32) : p ≤ 3 ↔ ¬ 4 ≤ p := by
  rw [Int32.le_iff_toInt_le, Int32.le_iff_toInt_le]
  have h1 : (3 : Int32).toInt = 3 := rfl
  have h2 : (4 : Int32).toInt = 4 := rfl
  omega
set_option maxRecDepth 100000 in
set_option maxHeartbeats 4000000 in
theorem tX8_in {l : Launch} {G : mx_G} {v a b : Int32} {M : mx_Mem} : mx_Met l G yX8_in cX8_in 3 ((some FieldType.boolean)) 0 0 [.int v, .int a, .int b] M (mx_F (some (.int (bI (a ≤ v ∧ v ≤ b)))) M) := by
  refine mx_enter (own := RX8) (L := [.int v, .int a, .int b]) (by decide +kernel) rfl rfl rfl ?_
  intro X hlX hX hR hT
  refine r_iload_n 1 hX dX8_in_0 rfl ?_
  refine r_iload_n 2 hX dX8_in_1 rfl ?_
  refine r_Icmp_lt 5 14 hX dX8_in_2 (fun c1 => ?_) (fun c1 => ?_)
  · refine r_iconst 15 hX dX8_in_14 (v := 0) (by decide) ?_
    refine r_zret hX hT dX8_in_15 (by first | assumption | decide) ?_
    exact ⟨by simp [*, bI], rfl⟩
  · refine r_iload_n 6 hX dX8_in_5 rfl ?_
    refine r_iload_n 7 hX dX8_in_6 rfl ?_
    refine r_Icmp_gt 10 14 hX dX8_in_7 (fun c2 => ?_) (fun c2 => ?_)
    · refine r_iconst 15 hX dX8_in_14 (v := 0) (by decide) ?_
      refine r_zret hX hT dX8_in_15 (by first | assumption | decide) ?_
      exact ⟨by simp [*, bI], rfl⟩
    · refine r_iconst 11 hX dX8_in_10 (v := 1) (by decide) ?_
      refine r_goto 15 hX dX8_in_11 ?_
      refine r_zret hX hT dX8_in_15 (by first | assumption | decide) ?_
      exact ⟨by simp [*, bI], rfl⟩
set_option maxRecDepth 100000 in
set_option maxHeartbeats 4000000 in
theorem tX8_isTeam {l : Launch} {G : mx_G} {t : Int32} {M : mx_Mem} : mx_Met l G yX8_isTeam cX8_isTeam 1 ((some FieldType.boolean)) 0 0 [.int t] M (mx_F (some (.int (bI (isT t)))) M) := by
  refine mx_enter (own := RX8) (L := [.int t]) (by decide +kernel) rfl rfl rfl ?_
  intro X hlX hX hR hT
  refine r_iload_n 1 hX dX8_isTeam_0 rfl ?_
  refine r_if_eq 4 9 hX dX8_isTeam_1 (fun c1 => ?_) (fun c1 => ?_)
  · refine r_iconst 10 hX dX8_isTeam_9 (v := 1) (by decide) ?_
    refine r_goto 14 hX dX8_isTeam_10 ?_
    refine r_zret hX hT dX8_isTeam_14 (by first | assumption | decide) ?_
    exact ⟨by simp [*, bI], rfl⟩
  · refine r_iload_n 5 hX dX8_isTeam_4 rfl ?_
    refine r_iconst 6 hX dX8_isTeam_5 (v := 1) (by decide) ?_
    refine r_icmp_ne 9 13 hX dX8_isTeam_6 (fun c2 => ?_) (fun c2 => ?_)
    · refine r_iconst 14 hX dX8_isTeam_13 (v := 0) (by decide) ?_
      refine r_zret hX hT dX8_isTeam_14 (by first | assumption | decide) ?_
      exact ⟨by simp [*, bI], rfl⟩
    · refine r_iconst 10 hX dX8_isTeam_9 (v := 1) (by decide) ?_
      refine r_goto 14 hX dX8_isTeam_10 ?_
      refine r_zret hX hT dX8_isTeam_14 (by first | assumption | decide) ?_
      exact ⟨by simp [*, bI], rfl⟩
set_option maxRecDepth 100000 in
set_option maxHeartbeats 4000000 in
theorem tX8_isTeam_0 {l : Launch} {G : mx_G} {M : mx_Mem} : mx_Met l G yX8_isTeam cX8_isTeam 1 ((some FieldType.boolean)) 0 0 [.int 0] M (mx_F (some (.int 1)) M) := by
  refine mx_enter (own := RX8) (L := [.int 0]) (by decide +kernel) rfl rfl rfl ?_
  intro X hlX hX hR hT
  refine r_iload_n 1 hX dX8_isTeam_0 rfl ?_
  refine r_if_eq 4 9 hX dX8_isTeam_1 (fun _ => ?_) (fun c => absurd c (by decide))
  refine r_iconst 10 hX dX8_isTeam_9 (v := 1) (by decide) ?_
  refine r_goto 14 hX dX8_isTeam_10 ?_
  refine r_zret hX hT dX8_isTeam_14 (by first | assumption | decide) ?_
  exact ⟨rfl, rfl⟩
set_option maxRecDepth 100000 in
set_option maxHeartbeats 4000000 in
theorem tX8_isTeam_1 {l : Launch} {G : mx_G} {M : mx_Mem} : mx_Met l G yX8_isTeam cX8_isTeam 1 ((some FieldType.boolean)) 0 0 [.int 1] M (mx_F (some (.int 1)) M) := by
  refine mx_enter (own := RX8) (L := [.int 1]) (by decide +kernel) rfl rfl rfl ?_
  intro X hlX hX hR hT
  refine r_iload_n 1 hX dX8_isTeam_0 rfl ?_
  refine r_if_eq 4 9 hX dX8_isTeam_1 (fun c => absurd c (by decide)) (fun _ => ?_)
  refine r_iload_n 5 hX dX8_isTeam_4 rfl ?_
  refine r_iconst 6 hX dX8_isTeam_5 (v := 1) (by decide) ?_
  refine r_icmp_ne 9 13 hX dX8_isTeam_6 (fun c => absurd c (by decide)) (fun _ => ?_)
  refine r_iconst 10 hX dX8_isTeam_9 (v := 1) (by decide) ?_
  refine r_goto 14 hX dX8_isTeam_10 ?_
  refine r_zret hX hT dX8_isTeam_14 (by first | assumption | decide) ?_
  exact ⟨rfl, rfl⟩
set_option maxRecDepth 100000 in
set_option maxHeartbeats 4000000 in
theorem tX8_isPlayer {l : Launch} {G : mx_G} {p : Int32} {M : mx_Mem} : mx_Met l G yX8_isPlayer cX8_isPlayer 1 ((some FieldType.boolean)) 1 22 [.int p] M (mx_F (some (.int (bI (isP p)))) M) := by
  refine mx_enter (own := RX8) (L := [.int p]) (by decide +kernel) rfl rfl rfl ?_
  intro X hlX hX hR hT
  refine r_iload_n 1 hX dX8_isPlayer_0 rfl ?_
  refine r_iconst 2 hX dX8_isPlayer_1 (v := 0) (by decide) ?_
  refine r_bipush 4 hX dX8_isPlayer_2 (v := 11) (by decide) ?_
  refine r_cS3F 7 hX hR tX8_in dX8_isPlayer_4 kX8_in lX8_67 rfl rfl rfl ?_
  refine r_zret hX hT dX8_isPlayer_7 bIb ?_
  refine ⟨?_, rfl⟩
  simp only [bI, le11]
theorem gix (t k n : Nat) (h : 6 + 50 * t + k = n) : (6 : Int32) + 50 * nI t + nI k = nI n := by
  rw [show (6 : Int32) = nI 6 from rfl, show (50 : Int32) = nI 50 from rfl, pk_mul, nI_add, nI_add, h]
set_option maxRecDepth 100000 in
set_option maxHeartbeats 4000000 in
theorem tX8_get {l : Launch} {G : mx_G} {t k n : Nat} {M : mx_Mem} (h : 6 + 50 * t + k = n) (hn : n < 106) : mx_Met l G yX8_get cX8_get 3 ((some FieldType.int)) 0 0 [.ref 46, .int (nI t), .int (nI k)] M (mx_F (some (.int (M.1 52 n))) M) := by
  refine mx_enter (own := RX8) (L := [.ref 46, .int (nI t), .int (nI k)]) (by decide +kernel) rfl rfl rfl ?_
  intro X hlX hX hR hT
  refine r_aload_n 1 hX dX8_get_0 rfl ?_
  refine r_getR 4 hX dX8_get_1 fX8_26 rfl rfl rfl ?_
  refine r_bipush 6 hX dX8_get_4 (v := 6) (by decide) ?_
  refine r_bipush 8 hX dX8_get_6 (v := 50) (by decide) ?_
  refine r_iload_n 9 hX dX8_get_8 rfl ?_
  refine r_imul 10 hX dX8_get_9 ?_
  refine r_iadd 11 hX dX8_get_10 ?_
  refine r_iload_n 12 hX dX8_get_11 rfl ?_
  refine r_iadd 13 hX dX8_get_12 ?_
  rw [gix t k n h]
  refine r_ialdK 14 hX dX8_get_13 rfl rfl (vp_in_nI hn (by decide)) (j := n) (nI_clamp (by omega)) ?_
  refine r_iret hX hT dX8_get_14 ?_
  exact ⟨rfl, rfl⟩
set_option maxRecDepth 100000 in
set_option maxHeartbeats 4000000 in
theorem tX8_put {l : Launch} {G : mx_G} {t k n : Nat} {v : Int32} {M : mx_Mem} (h : 6 + 50 * t + k = n) (hn : n < 106) : mx_Met l G yX8_put cX8_put 4 (none) 0 0 [.ref 46, .int (nI t), .int (nI k), .int v] M (mx_F none (mI M 52 n v)) := by
  refine mx_enter (own := RX8) (L := [.ref 46, .int (nI t), .int (nI k), .int v]) (by decide +kernel) rfl rfl rfl ?_
  intro X hlX hX hR hT
  refine r_aload_n 1 hX dX8_put_0 rfl ?_
  refine r_getR 4 hX dX8_put_1 fX8_26 rfl rfl rfl ?_
  refine r_bipush 6 hX dX8_put_4 (v := 6) (by decide) ?_
  refine r_bipush 8 hX dX8_put_6 (v := 50) (by decide) ?_
  refine r_iload_n 9 hX dX8_put_8 rfl ?_
  refine r_imul 10 hX dX8_put_9 ?_
  refine r_iadd 11 hX dX8_put_10 ?_
  refine r_iload_n 12 hX dX8_put_11 rfl ?_
  refine r_iadd 13 hX dX8_put_12 ?_
  rw [gix t k n h]
  refine r_iload_n 14 hX dX8_put_13 rfl ?_
  refine r_iastK 15 hX dX8_put_14 rfl rfl (vp_in_nI hn (by decide)) (j := n) (nI_clamp (by omega)) ?_
  refine r_vret hX hT dX8_put_15 ?_
  exact ⟨rfl, rfl⟩
set_option maxRecDepth 100000 in
set_option maxHeartbeats 4000000 in
theorem tX8_isOn {l : Launch} {G : mx_G} {M : mx_Mem} : mx_Met l G yX8_isOn cX8_isOn 1 ((some FieldType.boolean)) 0 0 [.ref 46] M (mx_F (some (.int (bI (M.1 52 1 = 1)))) M) := by
  refine mx_enter (own := RX8) (L := [.ref 46]) (by decide +kernel) rfl rfl rfl ?_
  intro X hlX hX hR hT
  refine r_aload_n 1 hX dX8_isOn_0 rfl ?_
  refine r_getR 4 hX dX8_isOn_1 fX8_26 rfl rfl rfl ?_
  refine r_iconst 5 hX dX8_isOn_4 (v := 1) (by decide) ?_
  refine r_ialdK 6 hX dX8_isOn_5 rfl rfl (vpK rfl) (j := 1) (by decide) ?_
  refine r_iconst 7 hX dX8_isOn_6 (v := 1) (by decide) ?_
  refine r_icmp_ne 10 14 hX dX8_isOn_7 (fun c1 => ?_) (fun c1 => ?_)
  · refine r_iconst 15 hX dX8_isOn_14 (v := 0) (by decide) ?_
    refine r_zret hX hT dX8_isOn_15 (by first | assumption | decide) ?_
    exact ⟨by simp [*, bI], rfl⟩
  · refine r_iconst 11 hX dX8_isOn_10 (v := 1) (by decide) ?_
    refine r_goto 15 hX dX8_isOn_11 ?_
    refine r_zret hX hT dX8_isOn_15 (by first | assumption | decide) ?_
    exact ⟨by simp [*, bI], rfl⟩
set_option maxRecDepth 100000 in
set_option maxHeartbeats 4000000 in
theorem tX8_thrown {l : Launch} {G : mx_G} {M : mx_Mem} : mx_Met l G yX8_thrown cX8_thrown 1 ((some FieldType.int)) 0 0 [.ref 46] M (mx_F (some (.int (M.1 46 13))) M) := by
  refine mx_enter (own := RX8) (L := [.ref 46]) (by decide +kernel) rfl rfl rfl ?_
  intro X hlX hX hR hT
  refine r_aload_n 1 hX dX8_thrown_0 rfl ?_
  refine r_getI 4 hX dX8_thrown_1 fX8_63 rfl rfl rfl ?_
  refine r_iret hX hT dX8_thrown_4 ?_
  exact ⟨rfl, rfl⟩
abbrev th0 (M : mx_Mem) : mx_Mem := mI M 46 13 0
theorem skx (t p w : Nat) : ((12 : Int32) * nI t + nI p) * 4 + nI w = nI ((12 * t + p) * 4 + w) := by
  rw [show (12 : Int32) = nI 12 from rfl, show (4 : Int32) = nI 4 from rfl, pk_mul, nI_add, pk_mul, nI_add]
set_option maxRecDepth 100000 in
set_option maxHeartbeats 4000000 in
theorem tX8_skillOf {l : Launch} {G : mx_G} {t p w : Nat} {M : mx_Mem} (hn : (12 * t + p) * 4 + w < 96) : mx_Met l G yX8_skillOf cX8_skillOf 4 ((some FieldType.int)) 0 0 [.ref 46, .int (nI t), .int (nI p), .int (nI w)] M (mx_F (some (.int (M.1 47 ((12 * t + p) * 4 + w)))) M) := by
  refine mx_enter (own := RX8) (L := [.ref 46, .int (nI t), .int (nI p), .int (nI w)]) (by decide +kernel) rfl rfl rfl ?_
  intro X hlX hX hR hT
  refine r_aload_n 1 hX dX8_skillOf_0 rfl ?_
  refine r_getR 4 hX dX8_skillOf_1 fX8_9 rfl rfl rfl ?_
  refine r_bipush 6 hX dX8_skillOf_4 (v := 12) (by decide) ?_
  refine r_iload_n 7 hX dX8_skillOf_6 rfl ?_
  refine r_imul 8 hX dX8_skillOf_7 ?_
  refine r_iload_n 9 hX dX8_skillOf_8 rfl ?_
  refine r_iadd 10 hX dX8_skillOf_9 ?_
  refine r_iconst 11 hX dX8_skillOf_10 (v := 4) (by decide) ?_
  refine r_imul 12 hX dX8_skillOf_11 ?_
  refine r_iload_n 13 hX dX8_skillOf_12 rfl ?_
  refine r_iadd 14 hX dX8_skillOf_13 ?_
  rw [skx t p w]
  refine r_ialdK 15 hX dX8_skillOf_14 rfl rfl (vp_in_nI hn (by decide)) (j := (12 * t + p) * 4 + w) (nI_clamp (by omega)) ?_
  refine r_iret hX hT dX8_skillOf_15 ?_
  exact ⟨rfl, rfl⟩
theorem isP_n {p : Int32} (h : isP p) : ∃ k : Nat, k < 12 ∧ p = nI k := vp_in_of (vpP h) (by decide)
set_option maxRecDepth 100000 in
set_option maxHeartbeats 4000000 in
theorem tX8_libre_0 {l : Launch} {G : mx_G} {p : Int32} {M : mx_Mem} : mx_Met l G yX8_libre cX8_libre 4 ((some FieldType.int)) 2 42 [.ref 46, .int 0, .int p] M (fun r M' => (((p = -1 ∨ isP p) ∧ ¬ M.1 52 1 = 1) ∧ r = some (.int (M.1 48 0)) ∧ M' = mI (th0 M) 48 0 p) ∨ (¬ ((p = -1 ∨ isP p) ∧ ¬ M.1 52 1 = 1) ∧ r = some (.int (-2)) ∧ M' = th0 M)) := by
  refine mx_enter (own := RX8) (L := [.ref 46, .int 0, .int p, .null]) (by decide +kernel) rfl rfl rfl ?_
  intro X hlX hX hR hT
  refine r_aload_n 1 hX dX8_libre_0 rfl ?_
  refine r_iconst 2 hX dX8_libre_1 (v := 0) (by decide) ?_
  refine r_putI 5 hX dX8_libre_2 fX8_63 fp8_13 rfl rfl rfl ?_
  refine r_iload_n 6 hX dX8_libre_5 rfl ?_
  refine r_cS1F 9 hX hR tX8_isTeam_0 dX8_libre_6 kX8_isTeam lX8_71 rfl rfl rfl ?_
  refine r_if_eq 12 31 hX dX8_libre_9 (fun c => absurd c (by decide)) (fun _ => ?_)
  refine r_iload_n 13 hX dX8_libre_12 rfl ?_
  refine r_iconst 14 hX dX8_libre_13 (v := -1) (by decide) ?_
  refine r_icmp_eq 17 24 hX dX8_libre_14 (fun c1 => ?_) (fun c1 => ?_)
  · refine r_aload_n 25 hX dX8_libre_24 rfl ?_
    refine r_cV0F 28 hX hR tX8_isOn dX8_libre_25 kX8_isOn lX8_82 rfl rfl rfl rfl rfl rfl ?_
    refine r_Beq 31 34 hX dX8_libre_28 (fun c2 => ?_) (fun c2 => ?_)
    · refine r_aload_n 35 hX dX8_libre_34 rfl ?_
      refine r_getR 38 hX dX8_libre_35 fX8_13 rfl rfl rfl ?_
      refine r_iload_n 39 hX dX8_libre_38 rfl ?_
      refine r_ialdK 40 hX dX8_libre_39 rfl rfl (vpK rfl) (j := 0) (by decide) ?_
      refine r_istore_n 41 hX dX8_libre_40 rfl ?_
      refine r_aload_n 42 hX dX8_libre_41 rfl ?_
      refine r_getR 45 hX dX8_libre_42 fX8_13 rfl rfl rfl ?_
      refine r_iload_n 46 hX dX8_libre_45 rfl ?_
      refine r_iload_n 47 hX dX8_libre_46 rfl ?_
      refine r_iastK 48 hX dX8_libre_47 rfl rfl (vpK rfl) (j := 0) (by decide) ?_
      refine r_iload_n 49 hX dX8_libre_48 rfl ?_
      refine r_iret hX hT dX8_libre_49 ?_
      exact Or.inl ⟨by have e9 : (th0 M).1 52 1 = M.1 52 1 := rfl; clear hT hX hR hlX; grind, rfl, rfl⟩
    · refine r_bipush 33 hX dX8_libre_31 (v := -2) (by decide) ?_
      refine r_iret hX hT dX8_libre_33 ?_
      exact Or.inr ⟨by have e9 : (th0 M).1 52 1 = M.1 52 1 := rfl; clear hT hX hR hlX; grind, rfl, rfl⟩
  · refine r_iload_n 18 hX dX8_libre_17 rfl ?_
    refine r_cS1F 21 hX hR tX8_isPlayer dX8_libre_18 kX8_isPlayer lX8_75 rfl rfl rfl ?_
    refine r_Beq 24 31 hX dX8_libre_21 (fun c3 => ?_) (fun c3 => ?_)
    · refine r_bipush 33 hX dX8_libre_31 (v := -2) (by decide) ?_
      refine r_iret hX hT dX8_libre_33 ?_
      exact Or.inr ⟨by have e9 : (th0 M).1 52 1 = M.1 52 1 := rfl; clear hT hX hR hlX; grind, rfl, rfl⟩
    · refine r_aload_n 25 hX dX8_libre_24 rfl ?_
      refine r_cV0F 28 hX hR tX8_isOn dX8_libre_25 kX8_isOn lX8_82 rfl rfl rfl rfl rfl rfl ?_
      refine r_Beq 31 34 hX dX8_libre_28 (fun c4 => ?_) (fun c4 => ?_)
      · refine r_aload_n 35 hX dX8_libre_34 rfl ?_
        refine r_getR 38 hX dX8_libre_35 fX8_13 rfl rfl rfl ?_
        refine r_iload_n 39 hX dX8_libre_38 rfl ?_
        refine r_ialdK 40 hX dX8_libre_39 rfl rfl (vpK rfl) (j := 0) (by decide) ?_
        refine r_istore_n 41 hX dX8_libre_40 rfl ?_
        refine r_aload_n 42 hX dX8_libre_41 rfl ?_
        refine r_getR 45 hX dX8_libre_42 fX8_13 rfl rfl rfl ?_
        refine r_iload_n 46 hX dX8_libre_45 rfl ?_
        refine r_iload_n 47 hX dX8_libre_46 rfl ?_
        refine r_iastK 48 hX dX8_libre_47 rfl rfl (vpK rfl) (j := 0) (by decide) ?_
        refine r_iload_n 49 hX dX8_libre_48 rfl ?_
        refine r_iret hX hT dX8_libre_49 ?_
        exact Or.inl ⟨by have e9 : (th0 M).1 52 1 = M.1 52 1 := rfl; clear hT hX hR hlX; grind, rfl, rfl⟩
      · refine r_bipush 33 hX dX8_libre_31 (v := -2) (by decide) ?_
        refine r_iret hX hT dX8_libre_33 ?_
        exact Or.inr ⟨by have e9 : (th0 M).1 52 1 = M.1 52 1 := rfl; clear hT hX hR hlX; grind, rfl, rfl⟩
set_option maxRecDepth 100000 in
set_option maxHeartbeats 4000000 in
theorem tX8_hasFree_0 {l : Launch} {G : mx_G} {M : mx_Mem} : mx_Met l G yX8_hasFree cX8_hasFree 3 ((some FieldType.boolean)) 0 0 [.ref 46, .int 0] M (mx_F (some (.int (bI (∃ k : Nat, k < 6 ∧ M.1 50 (0 + k) = M.1 48 0)))) M) := by
  refine mx_enter (own := RX8) (L := [.ref 46, .int 0, .null]) (by decide +kernel) rfl rfl rfl ?_
  intro X hlX hX hR hT
  refine r_iconst 1 hX dX8_hasFree_0 (v := 0) (by decide) ?_
  refine r_istore_n 2 hX dX8_hasFree_1 rfl ?_
  refine r_iload_n 3 hX dX8_hasFree_2 rfl ?_
  refine r_bipush 5 hX dX8_hasFree_3 (v := 6) (by decide) ?_
  refine r_icmp_ge 8 36 hX dX8_hasFree_5 (fun c => absurd c (by decide)) (fun _ => ?_)
  refine r_aload_n 9 hX dX8_hasFree_8 rfl ?_
  refine r_getR 12 hX dX8_hasFree_9 fX8_19 rfl rfl rfl ?_
  refine r_bipush 14 hX dX8_hasFree_12 (v := 6) (by decide) ?_
  refine r_iload_n 15 hX dX8_hasFree_14 rfl ?_
  refine r_imulK 16 hX dX8_hasFree_15 (w := 0) (by decide) ?_
  refine r_iload_n 17 hX dX8_hasFree_16 rfl ?_
  refine r_iaddK 18 hX dX8_hasFree_17 (w := 0) (by decide) ?_
  refine r_ialdK 19 hX dX8_hasFree_18 rfl rfl (vpK rfl) (j := 0) (by decide) ?_
  refine r_aload_n 20 hX dX8_hasFree_19 rfl ?_
  refine r_getR 23 hX dX8_hasFree_20 fX8_13 rfl rfl rfl ?_
  refine r_iload_n 24 hX dX8_hasFree_23 rfl ?_
  refine r_ialdK 25 hX dX8_hasFree_24 rfl rfl (vpK rfl) (j := 0) (by decide) ?_
  refine r_icmp_ne 28 30 hX dX8_hasFree_25 (fun c1 => ?_) (fun c1 => ?_)
  · refine r_iincK 33 hX dX8_hasFree_30 rfl (w := 1) (by decide) rfl ?_
    refine r_goto 2 hX dX8_hasFree_33 ?_
    refine r_iload_n 3 hX dX8_hasFree_2 rfl ?_
    refine r_bipush 5 hX dX8_hasFree_3 (v := 6) (by decide) ?_
    refine r_icmp_ge 8 36 hX dX8_hasFree_5 (fun c => absurd c (by decide)) (fun _ => ?_)
    refine r_aload_n 9 hX dX8_hasFree_8 rfl ?_
    refine r_getR 12 hX dX8_hasFree_9 fX8_19 rfl rfl rfl ?_
    refine r_bipush 14 hX dX8_hasFree_12 (v := 6) (by decide) ?_
    refine r_iload_n 15 hX dX8_hasFree_14 rfl ?_
    refine r_imulK 16 hX dX8_hasFree_15 (w := 0) (by decide) ?_
    refine r_iload_n 17 hX dX8_hasFree_16 rfl ?_
    refine r_iaddK 18 hX dX8_hasFree_17 (w := 1) (by decide) ?_
    refine r_ialdK 19 hX dX8_hasFree_18 rfl rfl (vpK rfl) (j := 1) (by decide) ?_
    refine r_aload_n 20 hX dX8_hasFree_19 rfl ?_
    refine r_getR 23 hX dX8_hasFree_20 fX8_13 rfl rfl rfl ?_
    refine r_iload_n 24 hX dX8_hasFree_23 rfl ?_
    refine r_ialdK 25 hX dX8_hasFree_24 rfl rfl (vpK rfl) (j := 0) (by decide) ?_
    refine r_icmp_ne 28 30 hX dX8_hasFree_25 (fun c2 => ?_) (fun c2 => ?_)
    · refine r_iincK 33 hX dX8_hasFree_30 rfl (w := 2) (by decide) rfl ?_
      refine (show mx_WW G X 33 [_, _, _] _ _ from ?_)
      refine r_goto 2 hX dX8_hasFree_33 ?_
      refine r_iload_n 3 hX dX8_hasFree_2 rfl ?_
      refine r_bipush 5 hX dX8_hasFree_3 (v := 6) (by decide) ?_
      refine r_icmp_ge 8 36 hX dX8_hasFree_5 (fun c => absurd c (by decide)) (fun _ => ?_)
      refine r_aload_n 9 hX dX8_hasFree_8 rfl ?_
      refine r_getR 12 hX dX8_hasFree_9 fX8_19 rfl rfl rfl ?_
      refine r_bipush 14 hX dX8_hasFree_12 (v := 6) (by decide) ?_
      refine r_iload_n 15 hX dX8_hasFree_14 rfl ?_
      refine r_imulK 16 hX dX8_hasFree_15 (w := 0) (by decide) ?_
      refine r_iload_n 17 hX dX8_hasFree_16 rfl ?_
      refine r_iaddK 18 hX dX8_hasFree_17 (w := 2) (by decide) ?_
      refine r_ialdK 19 hX dX8_hasFree_18 rfl rfl (vpK rfl) (j := 2) (by decide) ?_
      refine r_aload_n 20 hX dX8_hasFree_19 rfl ?_
      refine r_getR 23 hX dX8_hasFree_20 fX8_13 rfl rfl rfl ?_
      refine r_iload_n 24 hX dX8_hasFree_23 rfl ?_
      refine r_ialdK 25 hX dX8_hasFree_24 rfl rfl (vpK rfl) (j := 0) (by decide) ?_
      refine r_icmp_ne 28 30 hX dX8_hasFree_25 (fun c3 => ?_) (fun c3 => ?_)
      · refine r_iincK 33 hX dX8_hasFree_30 rfl (w := 3) (by decide) rfl ?_
        refine r_goto 2 hX dX8_hasFree_33 ?_
        refine r_iload_n 3 hX dX8_hasFree_2 rfl ?_
        refine r_bipush 5 hX dX8_hasFree_3 (v := 6) (by decide) ?_
        refine r_icmp_ge 8 36 hX dX8_hasFree_5 (fun c => absurd c (by decide)) (fun _ => ?_)
        refine r_aload_n 9 hX dX8_hasFree_8 rfl ?_
        refine r_getR 12 hX dX8_hasFree_9 fX8_19 rfl rfl rfl ?_
        refine r_bipush 14 hX dX8_hasFree_12 (v := 6) (by decide) ?_
        refine r_iload_n 15 hX dX8_hasFree_14 rfl ?_
        refine r_imulK 16 hX dX8_hasFree_15 (w := 0) (by decide) ?_
        refine r_iload_n 17 hX dX8_hasFree_16 rfl ?_
        refine r_iaddK 18 hX dX8_hasFree_17 (w := 3) (by decide) ?_
        refine r_ialdK 19 hX dX8_hasFree_18 rfl rfl (vpK rfl) (j := 3) (by decide) ?_
        refine r_aload_n 20 hX dX8_hasFree_19 rfl ?_
        refine r_getR 23 hX dX8_hasFree_20 fX8_13 rfl rfl rfl ?_
        refine r_iload_n 24 hX dX8_hasFree_23 rfl ?_
        refine r_ialdK 25 hX dX8_hasFree_24 rfl rfl (vpK rfl) (j := 0) (by decide) ?_
        refine r_icmp_ne 28 30 hX dX8_hasFree_25 (fun c4 => ?_) (fun c4 => ?_)
        · refine r_iincK 33 hX dX8_hasFree_30 rfl (w := 4) (by decide) rfl ?_
          refine r_goto 2 hX dX8_hasFree_33 ?_
          refine r_iload_n 3 hX dX8_hasFree_2 rfl ?_
          refine r_bipush 5 hX dX8_hasFree_3 (v := 6) (by decide) ?_
          refine r_icmp_ge 8 36 hX dX8_hasFree_5 (fun c => absurd c (by decide)) (fun _ => ?_)
          refine r_aload_n 9 hX dX8_hasFree_8 rfl ?_
          refine r_getR 12 hX dX8_hasFree_9 fX8_19 rfl rfl rfl ?_
          refine r_bipush 14 hX dX8_hasFree_12 (v := 6) (by decide) ?_
          refine r_iload_n 15 hX dX8_hasFree_14 rfl ?_
          refine r_imulK 16 hX dX8_hasFree_15 (w := 0) (by decide) ?_
          refine r_iload_n 17 hX dX8_hasFree_16 rfl ?_
          refine r_iaddK 18 hX dX8_hasFree_17 (w := 4) (by decide) ?_
          refine r_ialdK 19 hX dX8_hasFree_18 rfl rfl (vpK rfl) (j := 4) (by decide) ?_
          refine r_aload_n 20 hX dX8_hasFree_19 rfl ?_
          refine r_getR 23 hX dX8_hasFree_20 fX8_13 rfl rfl rfl ?_
          refine r_iload_n 24 hX dX8_hasFree_23 rfl ?_
          refine r_ialdK 25 hX dX8_hasFree_24 rfl rfl (vpK rfl) (j := 0) (by decide) ?_
          refine r_icmp_ne 28 30 hX dX8_hasFree_25 (fun c5 => ?_) (fun c5 => ?_)
          · refine r_iincK 33 hX dX8_hasFree_30 rfl (w := 5) (by decide) rfl ?_
            refine (show mx_WW G X 33 [_, _, _] _ _ from ?_)
            refine r_goto 2 hX dX8_hasFree_33 ?_
            refine r_iload_n 3 hX dX8_hasFree_2 rfl ?_
            refine r_bipush 5 hX dX8_hasFree_3 (v := 6) (by decide) ?_
            refine r_icmp_ge 8 36 hX dX8_hasFree_5 (fun c => absurd c (by decide)) (fun _ => ?_)
            refine r_aload_n 9 hX dX8_hasFree_8 rfl ?_
            refine r_getR 12 hX dX8_hasFree_9 fX8_19 rfl rfl rfl ?_
            refine r_bipush 14 hX dX8_hasFree_12 (v := 6) (by decide) ?_
            refine r_iload_n 15 hX dX8_hasFree_14 rfl ?_
            refine r_imulK 16 hX dX8_hasFree_15 (w := 0) (by decide) ?_
            refine r_iload_n 17 hX dX8_hasFree_16 rfl ?_
            refine r_iaddK 18 hX dX8_hasFree_17 (w := 5) (by decide) ?_
            refine r_ialdK 19 hX dX8_hasFree_18 rfl rfl (vpK rfl) (j := 5) (by decide) ?_
            refine r_aload_n 20 hX dX8_hasFree_19 rfl ?_
            refine r_getR 23 hX dX8_hasFree_20 fX8_13 rfl rfl rfl ?_
            refine r_iload_n 24 hX dX8_hasFree_23 rfl ?_
            refine r_ialdK 25 hX dX8_hasFree_24 rfl rfl (vpK rfl) (j := 0) (by decide) ?_
            refine r_icmp_ne 28 30 hX dX8_hasFree_25 (fun c6 => ?_) (fun c6 => ?_)
            · refine r_iincK 33 hX dX8_hasFree_30 rfl (w := 6) (by decide) rfl ?_
              refine r_goto 2 hX dX8_hasFree_33 ?_
              refine r_iload_n 3 hX dX8_hasFree_2 rfl ?_
              refine r_bipush 5 hX dX8_hasFree_3 (v := 6) (by decide) ?_
              refine r_icmp_ge 8 36 hX dX8_hasFree_5 (fun _ => ?_) (fun c => absurd c (by decide))
              refine r_iconst 37 hX dX8_hasFree_36 (v := 0) (by decide) ?_
              refine r_zret hX hT dX8_hasFree_37 (by first | assumption | decide) ?_
              refine ⟨?_, rfl⟩
              rw [bI_f]
              rintro ⟨k, hk, h9⟩
              match k, hk with
              | 0, _ => contradiction
              | 1, _ => contradiction
              | 2, _ => contradiction
              | 3, _ => contradiction
              | 4, _ => contradiction
              | 5, _ => contradiction
            · refine r_iconst 29 hX dX8_hasFree_28 (v := 1) (by decide) ?_
              refine r_zret hX hT dX8_hasFree_29 (by first | assumption | decide) ?_
              exact ⟨by rw [bI_t ⟨5, by decide, by assumption⟩], rfl⟩
          · refine r_iconst 29 hX dX8_hasFree_28 (v := 1) (by decide) ?_
            refine r_zret hX hT dX8_hasFree_29 (by first | assumption | decide) ?_
            exact ⟨by rw [bI_t ⟨4, by decide, by assumption⟩], rfl⟩
        · refine r_iconst 29 hX dX8_hasFree_28 (v := 1) (by decide) ?_
          refine r_zret hX hT dX8_hasFree_29 (by first | assumption | decide) ?_
          exact ⟨by rw [bI_t ⟨3, by decide, by assumption⟩], rfl⟩
      · refine r_iconst 29 hX dX8_hasFree_28 (v := 1) (by decide) ?_
        refine r_zret hX hT dX8_hasFree_29 (by first | assumption | decide) ?_
        exact ⟨by rw [bI_t ⟨2, by decide, by assumption⟩], rfl⟩
    · refine r_iconst 29 hX dX8_hasFree_28 (v := 1) (by decide) ?_
      refine r_zret hX hT dX8_hasFree_29 (by first | assumption | decide) ?_
      exact ⟨by rw [bI_t ⟨1, by decide, by assumption⟩], rfl⟩
  · refine r_iconst 29 hX dX8_hasFree_28 (v := 1) (by decide) ?_
    refine r_zret hX hT dX8_hasFree_29 (by first | assumption | decide) ?_
    exact ⟨by rw [bI_t ⟨0, by decide, by assumption⟩], rfl⟩
set_option maxRecDepth 100000 in
set_option maxHeartbeats 4000000 in
theorem tX8_libre_1 {l : Launch} {G : mx_G} {p : Int32} {M : mx_Mem} : mx_Met l G yX8_libre cX8_libre 4 ((some FieldType.int)) 2 42 [.ref 46, .int 1, .int p] M (fun r M' => (((p = -1 ∨ isP p) ∧ ¬ M.1 52 1 = 1) ∧ r = some (.int (M.1 48 1)) ∧ M' = mI (th0 M) 48 1 p) ∨ (¬ ((p = -1 ∨ isP p) ∧ ¬ M.1 52 1 = 1) ∧ r = some (.int (-2)) ∧ M' = th0 M)) := by
  refine mx_enter (own := RX8) (L := [.ref 46, .int 1, .int p, .null]) (by decide +kernel) rfl rfl rfl ?_
  intro X hlX hX hR hT
  refine r_aload_n 1 hX dX8_libre_0 rfl ?_
  refine r_iconst 2 hX dX8_libre_1 (v := 0) (by decide) ?_
  refine r_putI 5 hX dX8_libre_2 fX8_63 fp8_13 rfl rfl rfl ?_
  refine r_iload_n 6 hX dX8_libre_5 rfl ?_
  refine r_cS1F 9 hX hR tX8_isTeam_1 dX8_libre_6 kX8_isTeam lX8_71 rfl rfl rfl ?_
  refine r_if_eq 12 31 hX dX8_libre_9 (fun c => absurd c (by decide)) (fun _ => ?_)
  refine r_iload_n 13 hX dX8_libre_12 rfl ?_
  refine r_iconst 14 hX dX8_libre_13 (v := -1) (by decide) ?_
  refine r_icmp_eq 17 24 hX dX8_libre_14 (fun c1 => ?_) (fun c1 => ?_)
  · refine r_aload_n 25 hX dX8_libre_24 rfl ?_
    refine r_cV0F 28 hX hR tX8_isOn dX8_libre_25 kX8_isOn lX8_82 rfl rfl rfl rfl rfl rfl ?_
    refine r_Beq 31 34 hX dX8_libre_28 (fun c2 => ?_) (fun c2 => ?_)
    · refine r_aload_n 35 hX dX8_libre_34 rfl ?_
      refine r_getR 38 hX dX8_libre_35 fX8_13 rfl rfl rfl ?_
      refine r_iload_n 39 hX dX8_libre_38 rfl ?_
      refine r_ialdK 40 hX dX8_libre_39 rfl rfl (vpK rfl) (j := 1) (by decide) ?_
      refine r_istore_n 41 hX dX8_libre_40 rfl ?_
      refine r_aload_n 42 hX dX8_libre_41 rfl ?_
      refine r_getR 45 hX dX8_libre_42 fX8_13 rfl rfl rfl ?_
      refine r_iload_n 46 hX dX8_libre_45 rfl ?_
      refine r_iload_n 47 hX dX8_libre_46 rfl ?_
      refine r_iastK 48 hX dX8_libre_47 rfl rfl (vpK rfl) (j := 1) (by decide) ?_
      refine r_iload_n 49 hX dX8_libre_48 rfl ?_
      refine r_iret hX hT dX8_libre_49 ?_
      exact Or.inl ⟨by have e9 : (th0 M).1 52 1 = M.1 52 1 := rfl; clear hT hX hR hlX; grind, rfl, rfl⟩
    · refine r_bipush 33 hX dX8_libre_31 (v := -2) (by decide) ?_
      refine r_iret hX hT dX8_libre_33 ?_
      exact Or.inr ⟨by have e9 : (th0 M).1 52 1 = M.1 52 1 := rfl; clear hT hX hR hlX; grind, rfl, rfl⟩
  · refine r_iload_n 18 hX dX8_libre_17 rfl ?_
    refine r_cS1F 21 hX hR tX8_isPlayer dX8_libre_18 kX8_isPlayer lX8_75 rfl rfl rfl ?_
    refine r_Beq 24 31 hX dX8_libre_21 (fun c3 => ?_) (fun c3 => ?_)
    · refine r_bipush 33 hX dX8_libre_31 (v := -2) (by decide) ?_
      refine r_iret hX hT dX8_libre_33 ?_
      exact Or.inr ⟨by have e9 : (th0 M).1 52 1 = M.1 52 1 := rfl; clear hT hX hR hlX; grind, rfl, rfl⟩
    · refine r_aload_n 25 hX dX8_libre_24 rfl ?_
      refine r_cV0F 28 hX hR tX8_isOn dX8_libre_25 kX8_isOn lX8_82 rfl rfl rfl rfl rfl rfl ?_
      refine r_Beq 31 34 hX dX8_libre_28 (fun c4 => ?_) (fun c4 => ?_)
      · refine r_aload_n 35 hX dX8_libre_34 rfl ?_
        refine r_getR 38 hX dX8_libre_35 fX8_13 rfl rfl rfl ?_
        refine r_iload_n 39 hX dX8_libre_38 rfl ?_
        refine r_ialdK 40 hX dX8_libre_39 rfl rfl (vpK rfl) (j := 1) (by decide) ?_
        refine r_istore_n 41 hX dX8_libre_40 rfl ?_
        refine r_aload_n 42 hX dX8_libre_41 rfl ?_
        refine r_getR 45 hX dX8_libre_42 fX8_13 rfl rfl rfl ?_
        refine r_iload_n 46 hX dX8_libre_45 rfl ?_
        refine r_iload_n 47 hX dX8_libre_46 rfl ?_
        refine r_iastK 48 hX dX8_libre_47 rfl rfl (vpK rfl) (j := 1) (by decide) ?_
        refine r_iload_n 49 hX dX8_libre_48 rfl ?_
        refine r_iret hX hT dX8_libre_49 ?_
        exact Or.inl ⟨by have e9 : (th0 M).1 52 1 = M.1 52 1 := rfl; clear hT hX hR hlX; grind, rfl, rfl⟩
      · refine r_bipush 33 hX dX8_libre_31 (v := -2) (by decide) ?_
        refine r_iret hX hT dX8_libre_33 ?_
        exact Or.inr ⟨by have e9 : (th0 M).1 52 1 = M.1 52 1 := rfl; clear hT hX hR hlX; grind, rfl, rfl⟩
set_option maxRecDepth 100000 in
set_option maxHeartbeats 4000000 in
theorem tX8_hasFree_1 {l : Launch} {G : mx_G} {M : mx_Mem} : mx_Met l G yX8_hasFree cX8_hasFree 3 ((some FieldType.boolean)) 0 0 [.ref 46, .int 1] M (mx_F (some (.int (bI (∃ k : Nat, k < 6 ∧ M.1 50 (6 + k) = M.1 48 1)))) M) := by
  refine mx_enter (own := RX8) (L := [.ref 46, .int 1, .null]) (by decide +kernel) rfl rfl rfl ?_
  intro X hlX hX hR hT
  refine r_iconst 1 hX dX8_hasFree_0 (v := 0) (by decide) ?_
  refine r_istore_n 2 hX dX8_hasFree_1 rfl ?_
  refine r_iload_n 3 hX dX8_hasFree_2 rfl ?_
  refine r_bipush 5 hX dX8_hasFree_3 (v := 6) (by decide) ?_
  refine r_icmp_ge 8 36 hX dX8_hasFree_5 (fun c => absurd c (by decide)) (fun _ => ?_)
  refine r_aload_n 9 hX dX8_hasFree_8 rfl ?_
  refine r_getR 12 hX dX8_hasFree_9 fX8_19 rfl rfl rfl ?_
  refine r_bipush 14 hX dX8_hasFree_12 (v := 6) (by decide) ?_
  refine r_iload_n 15 hX dX8_hasFree_14 rfl ?_
  refine r_imulK 16 hX dX8_hasFree_15 (w := 6) (by decide) ?_
  refine r_iload_n 17 hX dX8_hasFree_16 rfl ?_
  refine r_iaddK 18 hX dX8_hasFree_17 (w := 6) (by decide) ?_
  refine r_ialdK 19 hX dX8_hasFree_18 rfl rfl (vpK rfl) (j := 6) (by decide) ?_
  refine r_aload_n 20 hX dX8_hasFree_19 rfl ?_
  refine r_getR 23 hX dX8_hasFree_20 fX8_13 rfl rfl rfl ?_
  refine r_iload_n 24 hX dX8_hasFree_23 rfl ?_
  refine r_ialdK 25 hX dX8_hasFree_24 rfl rfl (vpK rfl) (j := 1) (by decide) ?_
  refine r_icmp_ne 28 30 hX dX8_hasFree_25 (fun c1 => ?_) (fun c1 => ?_)
  · refine r_iincK 33 hX dX8_hasFree_30 rfl (w := 1) (by decide) rfl ?_
    refine r_goto 2 hX dX8_hasFree_33 ?_
    refine r_iload_n 3 hX dX8_hasFree_2 rfl ?_
    refine r_bipush 5 hX dX8_hasFree_3 (v := 6) (by decide) ?_
    refine r_icmp_ge 8 36 hX dX8_hasFree_5 (fun c => absurd c (by decide)) (fun _ => ?_)
    refine r_aload_n 9 hX dX8_hasFree_8 rfl ?_
    refine r_getR 12 hX dX8_hasFree_9 fX8_19 rfl rfl rfl ?_
    refine r_bipush 14 hX dX8_hasFree_12 (v := 6) (by decide) ?_
    refine r_iload_n 15 hX dX8_hasFree_14 rfl ?_
    refine r_imulK 16 hX dX8_hasFree_15 (w := 6) (by decide) ?_
    refine r_iload_n 17 hX dX8_hasFree_16 rfl ?_
    refine r_iaddK 18 hX dX8_hasFree_17 (w := 7) (by decide) ?_
    refine r_ialdK 19 hX dX8_hasFree_18 rfl rfl (vpK rfl) (j := 7) (by decide) ?_
    refine r_aload_n 20 hX dX8_hasFree_19 rfl ?_
    refine r_getR 23 hX dX8_hasFree_20 fX8_13 rfl rfl rfl ?_
    refine r_iload_n 24 hX dX8_hasFree_23 rfl ?_
    refine r_ialdK 25 hX dX8_hasFree_24 rfl rfl (vpK rfl) (j := 1) (by decide) ?_
    refine r_icmp_ne 28 30 hX dX8_hasFree_25 (fun c2 => ?_) (fun c2 => ?_)
    · refine r_iincK 33 hX dX8_hasFree_30 rfl (w := 2) (by decide) rfl ?_
      refine (show mx_WW G X 33 [_, _, _] _ _ from ?_)
      refine r_goto 2 hX dX8_hasFree_33 ?_
      refine r_iload_n 3 hX dX8_hasFree_2 rfl ?_
      refine r_bipush 5 hX dX8_hasFree_3 (v := 6) (by decide) ?_
      refine r_icmp_ge 8 36 hX dX8_hasFree_5 (fun c => absurd c (by decide)) (fun _ => ?_)
      refine r_aload_n 9 hX dX8_hasFree_8 rfl ?_
      refine r_getR 12 hX dX8_hasFree_9 fX8_19 rfl rfl rfl ?_
      refine r_bipush 14 hX dX8_hasFree_12 (v := 6) (by decide) ?_
      refine r_iload_n 15 hX dX8_hasFree_14 rfl ?_
      refine r_imulK 16 hX dX8_hasFree_15 (w := 6) (by decide) ?_
      refine r_iload_n 17 hX dX8_hasFree_16 rfl ?_
      refine r_iaddK 18 hX dX8_hasFree_17 (w := 8) (by decide) ?_
      refine r_ialdK 19 hX dX8_hasFree_18 rfl rfl (vpK rfl) (j := 8) (by decide) ?_
      refine r_aload_n 20 hX dX8_hasFree_19 rfl ?_
      refine r_getR 23 hX dX8_hasFree_20 fX8_13 rfl rfl rfl ?_
      refine r_iload_n 24 hX dX8_hasFree_23 rfl ?_
      refine r_ialdK 25 hX dX8_hasFree_24 rfl rfl (vpK rfl) (j := 1) (by decide) ?_
      refine r_icmp_ne 28 30 hX dX8_hasFree_25 (fun c3 => ?_) (fun c3 => ?_)
      · refine r_iincK 33 hX dX8_hasFree_30 rfl (w := 3) (by decide) rfl ?_
        refine r_goto 2 hX dX8_hasFree_33 ?_
        refine r_iload_n 3 hX dX8_hasFree_2 rfl ?_
        refine r_bipush 5 hX dX8_hasFree_3 (v := 6) (by decide) ?_
        refine r_icmp_ge 8 36 hX dX8_hasFree_5 (fun c => absurd c (by decide)) (fun _ => ?_)
        refine r_aload_n 9 hX dX8_hasFree_8 rfl ?_
        refine r_getR 12 hX dX8_hasFree_9 fX8_19 rfl rfl rfl ?_
        refine r_bipush 14 hX dX8_hasFree_12 (v := 6) (by decide) ?_
        refine r_iload_n 15 hX dX8_hasFree_14 rfl ?_
        refine r_imulK 16 hX dX8_hasFree_15 (w := 6) (by decide) ?_
        refine r_iload_n 17 hX dX8_hasFree_16 rfl ?_
        refine r_iaddK 18 hX dX8_hasFree_17 (w := 9) (by decide) ?_
        refine r_ialdK 19 hX dX8_hasFree_18 rfl rfl (vpK rfl) (j := 9) (by decide) ?_
        refine r_aload_n 20 hX dX8_hasFree_19 rfl ?_
        refine r_getR 23 hX dX8_hasFree_20 fX8_13 rfl rfl rfl ?_
        refine r_iload_n 24 hX dX8_hasFree_23 rfl ?_
        refine r_ialdK 25 hX dX8_hasFree_24 rfl rfl (vpK rfl) (j := 1) (by decide) ?_
        refine r_icmp_ne 28 30 hX dX8_hasFree_25 (fun c4 => ?_) (fun c4 => ?_)
        · refine r_iincK 33 hX dX8_hasFree_30 rfl (w := 4) (by decide) rfl ?_
          refine r_goto 2 hX dX8_hasFree_33 ?_
          refine r_iload_n 3 hX dX8_hasFree_2 rfl ?_
          refine r_bipush 5 hX dX8_hasFree_3 (v := 6) (by decide) ?_
          refine r_icmp_ge 8 36 hX dX8_hasFree_5 (fun c => absurd c (by decide)) (fun _ => ?_)
          refine r_aload_n 9 hX dX8_hasFree_8 rfl ?_
          refine r_getR 12 hX dX8_hasFree_9 fX8_19 rfl rfl rfl ?_
          refine r_bipush 14 hX dX8_hasFree_12 (v := 6) (by decide) ?_
          refine r_iload_n 15 hX dX8_hasFree_14 rfl ?_
          refine r_imulK 16 hX dX8_hasFree_15 (w := 6) (by decide) ?_
          refine r_iload_n 17 hX dX8_hasFree_16 rfl ?_
          refine r_iaddK 18 hX dX8_hasFree_17 (w := 10) (by decide) ?_
          refine r_ialdK 19 hX dX8_hasFree_18 rfl rfl (vpK rfl) (j := 10) (by decide) ?_
          refine r_aload_n 20 hX dX8_hasFree_19 rfl ?_
          refine r_getR 23 hX dX8_hasFree_20 fX8_13 rfl rfl rfl ?_
          refine r_iload_n 24 hX dX8_hasFree_23 rfl ?_
          refine r_ialdK 25 hX dX8_hasFree_24 rfl rfl (vpK rfl) (j := 1) (by decide) ?_
          refine r_icmp_ne 28 30 hX dX8_hasFree_25 (fun c5 => ?_) (fun c5 => ?_)
          · refine r_iincK 33 hX dX8_hasFree_30 rfl (w := 5) (by decide) rfl ?_
            refine (show mx_WW G X 33 [_, _, _] _ _ from ?_)
            refine r_goto 2 hX dX8_hasFree_33 ?_
            refine r_iload_n 3 hX dX8_hasFree_2 rfl ?_
            refine r_bipush 5 hX dX8_hasFree_3 (v := 6) (by decide) ?_
            refine r_icmp_ge 8 36 hX dX8_hasFree_5 (fun c => absurd c (by decide)) (fun _ => ?_)
            refine r_aload_n 9 hX dX8_hasFree_8 rfl ?_
            refine r_getR 12 hX dX8_hasFree_9 fX8_19 rfl rfl rfl ?_
            refine r_bipush 14 hX dX8_hasFree_12 (v := 6) (by decide) ?_
            refine r_iload_n 15 hX dX8_hasFree_14 rfl ?_
            refine r_imulK 16 hX dX8_hasFree_15 (w := 6) (by decide) ?_
            refine r_iload_n 17 hX dX8_hasFree_16 rfl ?_
            refine r_iaddK 18 hX dX8_hasFree_17 (w := 11) (by decide) ?_
            refine r_ialdK 19 hX dX8_hasFree_18 rfl rfl (vpK rfl) (j := 11) (by decide) ?_
            refine r_aload_n 20 hX dX8_hasFree_19 rfl ?_
            refine r_getR 23 hX dX8_hasFree_20 fX8_13 rfl rfl rfl ?_
            refine r_iload_n 24 hX dX8_hasFree_23 rfl ?_
            refine r_ialdK 25 hX dX8_hasFree_24 rfl rfl (vpK rfl) (j := 1) (by decide) ?_
            refine r_icmp_ne 28 30 hX dX8_hasFree_25 (fun c6 => ?_) (fun c6 => ?_)
            · refine r_iincK 33 hX dX8_hasFree_30 rfl (w := 6) (by decide) rfl ?_
              refine r_goto 2 hX dX8_hasFree_33 ?_
              refine r_iload_n 3 hX dX8_hasFree_2 rfl ?_
              refine r_bipush 5 hX dX8_hasFree_3 (v := 6) (by decide) ?_
              refine r_icmp_ge 8 36 hX dX8_hasFree_5 (fun _ => ?_) (fun c => absurd c (by decide))
              refine r_iconst 37 hX dX8_hasFree_36 (v := 0) (by decide) ?_
              refine r_zret hX hT dX8_hasFree_37 (by first | assumption | decide) ?_
              refine ⟨?_, rfl⟩
              rw [bI_f]
              rintro ⟨k, hk, h9⟩
              match k, hk with
              | 0, _ => contradiction
              | 1, _ => contradiction
              | 2, _ => contradiction
              | 3, _ => contradiction
              | 4, _ => contradiction
              | 5, _ => contradiction
            · refine r_iconst 29 hX dX8_hasFree_28 (v := 1) (by decide) ?_
              refine r_zret hX hT dX8_hasFree_29 (by first | assumption | decide) ?_
              exact ⟨by rw [bI_t ⟨5, by decide, by assumption⟩], rfl⟩
          · refine r_iconst 29 hX dX8_hasFree_28 (v := 1) (by decide) ?_
            refine r_zret hX hT dX8_hasFree_29 (by first | assumption | decide) ?_
            exact ⟨by rw [bI_t ⟨4, by decide, by assumption⟩], rfl⟩
        · refine r_iconst 29 hX dX8_hasFree_28 (v := 1) (by decide) ?_
          refine r_zret hX hT dX8_hasFree_29 (by first | assumption | decide) ?_
          exact ⟨by rw [bI_t ⟨3, by decide, by assumption⟩], rfl⟩
      · refine r_iconst 29 hX dX8_hasFree_28 (v := 1) (by decide) ?_
        refine r_zret hX hT dX8_hasFree_29 (by first | assumption | decide) ?_
        exact ⟨by rw [bI_t ⟨2, by decide, by assumption⟩], rfl⟩
    · refine r_iconst 29 hX dX8_hasFree_28 (v := 1) (by decide) ?_
      refine r_zret hX hT dX8_hasFree_29 (by first | assumption | decide) ?_
      exact ⟨by rw [bI_t ⟨1, by decide, by assumption⟩], rfl⟩
  · refine r_iconst 29 hX dX8_hasFree_28 (v := 1) (by decide) ?_
    refine r_zret hX hT dX8_hasFree_29 (by first | assumption | decide) ?_
    exact ⟨by rw [bI_t ⟨0, by decide, by assumption⟩], rfl⟩
def tgM (M : mx_Mem) : Int32 := if ¬ M.1 49 3 ≤ 1 ∧ M.1 52 7 = M.1 49 3 - 1 ∧ M.1 52 57 = M.1 49 3 - 1 then M.1 49 2 else M.1 49 0
set_option maxRecDepth 100000 in
set_option maxHeartbeats 4000000 in
theorem tX8_isLastSet {l : Launch} {G : mx_G} {M : mx_Mem} : mx_Met l G yX8_isLastSet cX8_isLastSet 1 ((some FieldType.boolean)) 1 22 [.ref 46] M (mx_F (some (.int (bI (¬ M.1 49 3 ≤ 1 ∧ M.1 52 7 = M.1 49 3 - 1 ∧ M.1 52 57 = M.1 49 3 - 1)))) M) := by
  refine mx_enter (own := RX8) (L := [.ref 46]) (by decide +kernel) rfl rfl rfl ?_
  intro X hlX hX hR hT
  refine r_aload_n 1 hX dX8_isLastSet_0 rfl ?_
  refine r_getR 4 hX dX8_isLastSet_1 fX8_16 rfl rfl rfl ?_
  refine r_iconst 5 hX dX8_isLastSet_4 (v := 3) (by decide) ?_
  refine r_ialdK 6 hX dX8_isLastSet_5 rfl rfl (vpK rfl) (j := 3) (by decide) ?_
  refine r_iconst 7 hX dX8_isLastSet_6 (v := 1) (by decide) ?_
  refine r_icmp_le 10 48 hX dX8_isLastSet_7 (fun c1 => ?_) (fun c1 => ?_)
  · refine r_iconst 49 hX dX8_isLastSet_48 (v := 0) (by decide) ?_
    refine r_zret hX hT dX8_isLastSet_49 (by first | assumption | decide) ?_
    exact ⟨by simp [*, bI], rfl⟩
  · refine r_aload_n 11 hX dX8_isLastSet_10 rfl ?_
    refine r_iconst 12 hX dX8_isLastSet_11 (v := 0) (by decide) ?_
    refine r_iconst 13 hX dX8_isLastSet_12 (v := 1) (by decide) ?_
    refine r_cV2F 16 hX hR (tX8_get (t := 0) (k := 1) (n := 7) rfl (by decide)) dX8_isLastSet_13 kX8_get lX8_95 rfl rfl rfl rfl rfl rfl ?_
    refine r_aload_n 17 hX dX8_isLastSet_16 rfl ?_
    refine r_getR 20 hX dX8_isLastSet_17 fX8_16 rfl rfl rfl ?_
    refine r_iconst 21 hX dX8_isLastSet_20 (v := 3) (by decide) ?_
    refine r_ialdK 22 hX dX8_isLastSet_21 rfl rfl (vpK rfl) (j := 3) (by decide) ?_
    refine r_iconst 23 hX dX8_isLastSet_22 (v := 1) (by decide) ?_
    refine r_isub 24 hX dX8_isLastSet_23 ?_
    refine r_icmp_ne 27 48 hX dX8_isLastSet_24 (fun c2 => ?_) (fun c2 => ?_)
    · refine r_iconst 49 hX dX8_isLastSet_48 (v := 0) (by decide) ?_
      refine r_zret hX hT dX8_isLastSet_49 (by first | assumption | decide) ?_
      exact ⟨by simp [*, bI], rfl⟩
    · refine r_aload_n 28 hX dX8_isLastSet_27 rfl ?_
      refine r_iconst 29 hX dX8_isLastSet_28 (v := 1) (by decide) ?_
      refine r_iconst 30 hX dX8_isLastSet_29 (v := 1) (by decide) ?_
      refine r_cV2F 33 hX hR (tX8_get (t := 1) (k := 1) (n := 57) rfl (by decide)) dX8_isLastSet_30 kX8_get lX8_95 rfl rfl rfl rfl rfl rfl ?_
      refine r_aload_n 34 hX dX8_isLastSet_33 rfl ?_
      refine r_getR 37 hX dX8_isLastSet_34 fX8_16 rfl rfl rfl ?_
      refine r_iconst 38 hX dX8_isLastSet_37 (v := 3) (by decide) ?_
      refine r_ialdK 39 hX dX8_isLastSet_38 rfl rfl (vpK rfl) (j := 3) (by decide) ?_
      refine r_iconst 40 hX dX8_isLastSet_39 (v := 1) (by decide) ?_
      refine r_isub 41 hX dX8_isLastSet_40 ?_
      refine r_icmp_ne 44 48 hX dX8_isLastSet_41 (fun c3 => ?_) (fun c3 => ?_)
      · refine r_iconst 49 hX dX8_isLastSet_48 (v := 0) (by decide) ?_
        refine r_zret hX hT dX8_isLastSet_49 (by first | assumption | decide) ?_
        exact ⟨by simp [*, bI], rfl⟩
      · refine r_iconst 45 hX dX8_isLastSet_44 (v := 1) (by decide) ?_
        refine r_goto 49 hX dX8_isLastSet_45 ?_
        refine r_zret hX hT dX8_isLastSet_49 (by first | assumption | decide) ?_
        exact ⟨by simp [*, bI], rfl⟩
set_option maxRecDepth 100000 in
set_option maxHeartbeats 4000000 in
theorem tX8_goal {l : Launch} {G : mx_G} {M : mx_Mem} : mx_Met l G yX8_goal cX8_goal 1 ((some FieldType.int)) 2 42 [.ref 46] M (mx_F (some (.int (tgM M))) M) := by
  refine mx_enter (own := RX8) (L := [.ref 46]) (by decide +kernel) rfl rfl rfl ?_
  intro X hlX hX hR hT
  refine r_aload_n 1 hX dX8_goal_0 rfl ?_
  refine r_cV0F 4 hX hR tX8_isLastSet dX8_goal_1 kX8_isLastSet lX8_99 rfl rfl rfl rfl rfl rfl ?_
  refine r_Beq 7 16 hX dX8_goal_4 (fun c1 => ?_) (fun c1 => ?_)
  · refine r_aload_n 17 hX dX8_goal_16 rfl ?_
    refine r_getR 20 hX dX8_goal_17 fX8_16 rfl rfl rfl ?_
    refine r_iconst 21 hX dX8_goal_20 (v := 0) (by decide) ?_
    refine r_ialdK 22 hX dX8_goal_21 rfl rfl (vpK rfl) (j := 0) (by decide) ?_
    refine r_iret hX hT dX8_goal_22 ?_
    unfold tgM
    first | (rw [if_pos c1]; exact ⟨rfl, rfl⟩) | (rw [if_neg c1]; exact ⟨rfl, rfl⟩)
  · refine r_aload_n 8 hX dX8_goal_7 rfl ?_
    refine r_getR 11 hX dX8_goal_8 fX8_16 rfl rfl rfl ?_
    refine r_iconst 12 hX dX8_goal_11 (v := 2) (by decide) ?_
    refine r_ialdK 13 hX dX8_goal_12 rfl rfl (vpK rfl) (j := 2) (by decide) ?_
    refine r_goto 22 hX dX8_goal_13 ?_
    refine r_iret hX hT dX8_goal_22 ?_
    unfold tgM
    first | (rw [if_pos c1]; exact ⟨rfl, rfl⟩) | (rw [if_neg c1]; exact ⟨rfl, rfl⟩)
set_option maxRecDepth 100000 in
set_option maxHeartbeats 4000000 in
theorem tX8_wins {l : Launch} {G : mx_G} {a b g : Int32} {M : mx_Mem} : mx_Met l G yX8_wins cX8_wins 4 ((some FieldType.boolean)) 0 0 [.ref 46, .int a, .int b, .int g] M (mx_F (some (.int (bI ((g ≤ a ∧ 2 ≤ a - b) ∨ M.1 49 1 ≤ a)))) M) := by
  refine mx_enter (own := RX8) (L := [.ref 46, .int a, .int b, .int g]) (by decide +kernel) rfl rfl rfl ?_
  intro X hlX hX hR hT
  refine r_iload_n 1 hX dX8_wins_0 rfl ?_
  refine r_iload_n 2 hX dX8_wins_1 rfl ?_
  refine r_Icmp_lt 5 12 hX dX8_wins_2 (fun c1 => ?_) (fun c1 => ?_)
  · refine r_iload_n 13 hX dX8_wins_12 rfl ?_
    refine r_aload_n 14 hX dX8_wins_13 rfl ?_
    refine r_getR 17 hX dX8_wins_14 fX8_16 rfl rfl rfl ?_
    refine r_iconst 18 hX dX8_wins_17 (v := 1) (by decide) ?_
    refine r_ialdK 19 hX dX8_wins_18 rfl rfl (vpK rfl) (j := 1) (by decide) ?_
    refine r_Icmp_lt 22 26 hX dX8_wins_19 (fun c2 => ?_) (fun c2 => ?_)
    · refine r_iconst 27 hX dX8_wins_26 (v := 0) (by decide) ?_
      refine r_zret hX hT dX8_wins_27 (by first | assumption | decide) ?_
      exact ⟨by simp [*, bI], rfl⟩
    · refine r_iconst 23 hX dX8_wins_22 (v := 1) (by decide) ?_
      refine r_goto 27 hX dX8_wins_23 ?_
      refine r_zret hX hT dX8_wins_27 (by first | assumption | decide) ?_
      exact ⟨by simp [*, bI], rfl⟩
  · refine r_iload_n 6 hX dX8_wins_5 rfl ?_
    refine r_iload_n 7 hX dX8_wins_6 rfl ?_
    refine r_isub 8 hX dX8_wins_7 ?_
    refine r_iconst 9 hX dX8_wins_8 (v := 2) (by decide) ?_
    refine r_icmp_ge 12 22 hX dX8_wins_9 (fun c3 => ?_) (fun c3 => ?_)
    · refine r_iconst 23 hX dX8_wins_22 (v := 1) (by decide) ?_
      refine r_goto 27 hX dX8_wins_23 ?_
      refine r_zret hX hT dX8_wins_27 (by first | assumption | decide) ?_
      exact ⟨by simp [*, bI], rfl⟩
    · refine r_iload_n 13 hX dX8_wins_12 rfl ?_
      refine r_aload_n 14 hX dX8_wins_13 rfl ?_
      refine r_getR 17 hX dX8_wins_14 fX8_16 rfl rfl rfl ?_
      refine r_iconst 18 hX dX8_wins_17 (v := 1) (by decide) ?_
      refine r_ialdK 19 hX dX8_wins_18 rfl rfl (vpK rfl) (j := 1) (by decide) ?_
      refine r_Icmp_lt 22 26 hX dX8_wins_19 (fun c4 => ?_) (fun c4 => ?_)
      · refine r_iconst 27 hX dX8_wins_26 (v := 0) (by decide) ?_
        refine r_zret hX hT dX8_wins_27 (by first | assumption | decide) ?_
        exact ⟨by simp [*, bI], rfl⟩
      · refine r_iconst 23 hX dX8_wins_22 (v := 1) (by decide) ?_
        refine r_goto 27 hX dX8_wins_23 ?_
        refine r_zret hX hT dX8_wins_27 (by first | assumption | decide) ?_
        exact ⟨by simp [*, bI], rfl⟩

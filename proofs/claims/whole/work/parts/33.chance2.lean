/-! chances of the class: the rows -/
def avg (c a b : Nat) : Nat := (c * a + (1000 - c) * b) / 1000
theorem avg_sum {c a b : Nat} (hc : c ≤ 1000) (ha : a ≤ 1000000000) (hb : b ≤ 1000000000) : c * a + (1000 - c) * b ≤ 1000 * 1000000000 := by
  have h1 : c * a ≤ c * 1000000000 := Nat.mul_le_mul_left c ha
  have h2 : (1000 - c) * b ≤ (1000 - c) * 1000000000 := Nat.mul_le_mul_left _ hb
  omega
theorem avg_le {c a b : Nat} (hc : c ≤ 1000) (ha : a ≤ 1000000000) (hb : b ≤ 1000000000) : avg c a b ≤ 1000000000 := by
  have := avg_sum hc ha hb
  unfold avg
  omega
theorem avg_m {c a b : Nat} (hc : c ≤ 1000) (ha : a ≤ 1000000000) (hb : b ≤ 1000000000) : (((nI c).toInt64 * (nI a).toInt64 + (1000 - (nI c).toInt64) * (nI b).toInt64) / 1000).toInt32 = nI (avg c a b) := by
  have := avg_sum hc ha hb
  rw [nI_l (by omega), nI_l (by omega), nI_l (by omega), show (1000 : Int64) = lN 1000 from rfl, lN_mul, lN_sub hc, lN_mul, lN_add, pk_lDiv (by omega) (by omega) (by omega), lN_i]
  rfl
abbrev wnN (tg cap a b : Nat) : Prop := cap ≤ a ∨ (tg ≤ a ∧ b + 2 ≤ a)
theorem wn_iff {tg cap a b : Nat} (h1 : tg ≤ 100) (h2 : cap ≤ 100) (ha : a ≤ 100) (hb : b ≤ 100) : (nI cap ≤ nI a ∨ (nI tg ≤ nI a ∧ 2 ≤ nI a - nI b)) ↔ wnN tg cap a b := by
  rw [nI_leI (by omega) (by omega), nI_leI (by omega) (by omega)]
  have e : (2 : Int32) ≤ nI a - nI b ↔ b + 2 ≤ a := by
    rw [Int32.le_iff_toInt_le, pk_sub_toInt (by omega) (by omega)]
    have : (2 : Int32).toInt = 2 := rfl
    omega
  rw [e]
/-- SET CHANCE in parts of 10^9: fuel, both scores, the phase -/
def vF (tg cap : Nat) (ch : Nat → Nat) (f : Nat) : Nat → Nat → Nat → Nat → Nat
  | 0, _, _, _ => 0
  | k + 1, a, b, ph => if wnN tg cap a b then 1000000000 else if wnN tg cap b a then 0 else if (f + ph) % 2 = 0 then avg (ch ph) (vF tg cap ch f k (a + 1) b ph) (vF tg cap ch f k a (b + 1) ((ph + 1) % 12)) else avg (ch ph) (vF tg cap ch f k a (b + 1) ph) (vF tg cap ch f k (a + 1) b ((ph + 1) % 12))
def VV (tg cap : Nat) (ch : Nat → Nat) (f a b ph : Nat) : Nat := vF tg cap ch f (62 - (a + b)) a b ph
theorem VV_step (tg cap : Nat) (ch : Nat → Nat) (f a b ph : Nat) (h : a + b ≤ 61) : VV tg cap ch f a b ph = if wnN tg cap a b then 1000000000 else if wnN tg cap b a then 0 else if (f + ph) % 2 = 0 then avg (ch ph) (VV tg cap ch f (a + 1) b ph) (VV tg cap ch f a (b + 1) ((ph + 1) % 12)) else avg (ch ph) (VV tg cap ch f a (b + 1) ph) (VV tg cap ch f (a + 1) b ((ph + 1) % 12)) := by
  unfold VV
  rw [show 62 - (a + b) = (61 - (a + b)) + 1 by omega, vF, show 62 - (a + 1 + b) = 61 - (a + b) by omega, show 62 - (a + (b + 1)) = 61 - (a + b) by omega]
theorem vF_le (tg cap : Nat) (ch : Nat → Nat) (f : Nat) (hc : ∀ n, ch n ≤ 1000) : ∀ k a b ph, vF tg cap ch f k a b ph ≤ 1000000000
  | 0, _, _, _ => by simp [vF]
  | k + 1, a, b, ph => by
    rw [vF]
    repeat' split
    · exact Nat.le_refl _
    · omega
    · exact avg_le (hc _) (vF_le tg cap ch f hc k _ _ _) (vF_le tg cap ch f hc k _ _ _)
    · exact avg_le (hc _) (vF_le tg cap ch f hc k _ _ _) (vF_le tg cap ch f hc k _ _ _)
theorem shR (a : Nat) : mx_sh (44 + a % 2) = .inl (.int, 372) := by
  rcases Nat.mod_two_eq_zero_or_one a with h | h <;> rw [h] <;> rfl
theorem bltR (a : Nat) : Nat.blt (44 + a % 2) 61 = true := by
  rcases Nat.mod_two_eq_zero_or_one a with h | h <;> rw [h] <;> rfl
theorem and1 (a : Nat) (h : a < 1000) : nI a &&& 1 = nI (a % 2) := pk_andN (by omega) 1 rfl
theorem rwR (a : Nat) : mx_row (nI (a % 2)).toNatClampNeg = 44 + a % 2 := by rw [nI_clamp (by omega)]; rfl
set_option maxRecDepth 100000 in
set_option maxHeartbeats 4000000 in
theorem tX0_valueAt {l : Launch} {G : mx_G} {a b ph : Nat} {M : mx_Mem} (ha : a < 100) (hb : b ≤ 30) (hp : ph < 12) : mx_Met l G yX0_valueAt cX0_valueAt 4 ((some FieldType.int)) 0 0 [.ref 39, .int (nI a), .int (nI b), .int (nI ph)] M (mx_F (some (.int (M.1 (44 + a % 2) (b * 12 + ph)))) M) := by
  refine mx_enter (own := RX0) (L := [.ref 39, .int (nI a), .int (nI b), .int (nI ph)]) (by decide +kernel) rfl rfl rfl ?_
  intro X hlX hX hR hT
  have g1 : 0 ≤ nI a := nI_pos' (by omega)
  have g2 : 0 ≤ nI b := nI_pos' (by omega)
  have g3 : nI b ≤ 30 := nI_le (b := 30) hb (by decide)
  have g4 : 0 ≤ nI ph := nI_pos' (by omega)
  have g5 : ¬ 12 ≤ nI ph := nI_ge (b := 12) hp (by decide)
  have g6 : nI b * 12 + nI ph = nI (b * 12 + ph) := by rw [show (12 : Int32) = nI 12 from rfl, pk_mul, nI_add]
  refine r_iload_n 1 hX dX0_valueAt_0 rfl ?_
  refine r_If_lt 4 24 hX dX0_valueAt_1 (fun c1 => absurd g1 c1) (fun c1 => ?_)
  refine r_iload_n 5 hX dX0_valueAt_4 rfl ?_
  refine r_If_lt 8 24 hX dX0_valueAt_5 (fun c2 => absurd g2 c2) (fun c2 => ?_)
  refine r_iload_n 9 hX dX0_valueAt_8 rfl ?_
  refine r_bipush 11 hX dX0_valueAt_9 (v := 30) (by decide) ?_
  refine r_Icmp_gt 14 24 hX dX0_valueAt_11 (fun c3 => absurd g3 c3) (fun c3 => ?_)
  refine r_iload_n 15 hX dX0_valueAt_14 rfl ?_
  refine r_If_lt 18 24 hX dX0_valueAt_15 (fun c4 => absurd g4 c4) (fun c4 => ?_)
  refine r_iload_n 19 hX dX0_valueAt_18 rfl ?_
  refine r_bipush 21 hX dX0_valueAt_19 (v := 12) (by decide) ?_
  refine r_Icmp_lt 24 26 hX dX0_valueAt_21 (fun c5 => ?_) (fun c5 => absurd c5 g5)
  refine r_aload_n 27 hX dX0_valueAt_26 rfl ?_
  refine r_getR 30 hX dX0_valueAt_27 fX0_23 rfl rfl rfl ?_
  refine r_iload_n 31 hX dX0_valueAt_30 rfl ?_
  refine r_iconst 32 hX dX0_valueAt_31 (v := 1) (by decide) ?_
  refine r_iand 33 hX dX0_valueAt_32 ?_
  rw [and1 a (by omega)]
  refine r_aaldK 34 hX dX0_valueAt_33 rfl rfl (vp_in_nI (show a % 2 < 2 by omega) (by decide)) (rwR a) ?_
  refine r_iload_n 35 hX dX0_valueAt_34 rfl ?_
  refine r_bipush 37 hX dX0_valueAt_35 (v := 12) (by decide) ?_
  refine r_imul 38 hX dX0_valueAt_37 ?_
  refine r_iload_n 39 hX dX0_valueAt_38 rfl ?_
  refine r_iadd 40 hX dX0_valueAt_39 ?_
  rw [g6]
  refine r_ialdK 41 hX dX0_valueAt_40 (shR a) (bltR a) (vp_in_nI (show b * 12 + ph < 372 by omega) (by decide)) (j := b * 12 + ph) (nI_clamp (by omega)) ?_
  refine r_iret hX hT dX0_valueAt_41 ?_
  exact ⟨rfl, rfl⟩
set_option maxRecDepth 100000 in
set_option maxHeartbeats 4000000 in
theorem tX0_weightOfRally_0 {l : Launch} {G : mx_G} {a b : Nat} {M : mx_Mem} (hf : M.1 39 4 = 0) (ha : a < 40) (hb : b + 1 ≤ 30) : mx_Met l G yX0_weightOfRally cX0_weightOfRally 4 ((some FieldType.int)) 1 23 [.ref 39, .int (nI a), .int (nI b)] M (mx_F (some (.int (M.1 (44 + (a + 1) % 2) (b * 12 + 0) - M.1 (44 + a % 2) ((b + 1) * 12 + 1)))) M) := by
  refine mx_enter (own := RX0) (L := [.ref 39, .int (nI a), .int (nI b), .null]) (by decide +kernel) rfl rfl rfl ?_
  intro X hlX hX hR hT
  refine r_aload_n 1 hX dX0_weightOfRally_0 rfl ?_
  refine r_getI 4 hX dX0_weightOfRally_1 fX0_26 rfl rfl rfl ?_
  rw [hf]
  refine r_if_ne 7 11 hX dX0_weightOfRally_4 (fun c => absurd c (by decide)) (fun _ => ?_)
  refine r_iconst 8 hX dX0_weightOfRally_7 (v := 0) (by decide) ?_
  refine r_goto 12 hX dX0_weightOfRally_8 ?_
  refine r_istore_n 13 hX dX0_weightOfRally_12 rfl ?_
  refine r_aload_n 14 hX dX0_weightOfRally_13 rfl ?_
  refine r_iload_n 15 hX dX0_weightOfRally_14 rfl ?_
  refine r_iconst 16 hX dX0_weightOfRally_15 (v := 1) (by decide) ?_
  refine r_iadd 17 hX dX0_weightOfRally_16 ?_
  rw [nI_1]
  refine r_iload_n 18 hX dX0_weightOfRally_17 rfl ?_
  refine r_iload_n 19 hX dX0_weightOfRally_18 rfl ?_
  refine r_cV3F 22 hX hR (tX0_valueAt (a := a + 1) (b := b) (ph := 0) (by omega) (by omega) (by decide)) dX0_weightOfRally_19 kX0_valueAt lX0_76 rfl rfl rfl rfl rfl rfl ?_
  refine r_aload_n 23 hX dX0_weightOfRally_22 rfl ?_
  refine r_iload_n 24 hX dX0_weightOfRally_23 rfl ?_
  refine r_iload_n 25 hX dX0_weightOfRally_24 rfl ?_
  refine r_iconst 26 hX dX0_weightOfRally_25 (v := 1) (by decide) ?_
  refine r_iadd 27 hX dX0_weightOfRally_26 ?_
  rw [nI_1]
  refine r_iconst 28 hX dX0_weightOfRally_27 (v := 1) (by decide) ?_
  refine r_iload_n 29 hX dX0_weightOfRally_28 rfl ?_
  refine r_isubK 30 hX dX0_weightOfRally_29 (w := 1) (by decide) ?_
  refine r_cV3F 33 hX hR (tX0_valueAt (a := a) (b := b + 1) (ph := 1) (by omega) (by omega) (by decide)) dX0_weightOfRally_30 kX0_valueAt lX0_76 rfl rfl rfl rfl rfl rfl ?_
  refine r_isub 34 hX dX0_weightOfRally_33 ?_
  refine r_iret hX hT dX0_weightOfRally_34 ?_
  exact ⟨rfl, rfl⟩
set_option maxRecDepth 100000 in
set_option maxHeartbeats 4000000 in
theorem tX0_weightOfRally_1 {l : Launch} {G : mx_G} {a b : Nat} {M : mx_Mem} (hf : M.1 39 4 = 1) (ha : a < 40) (hb : b + 1 ≤ 30) : mx_Met l G yX0_weightOfRally cX0_weightOfRally 4 ((some FieldType.int)) 1 23 [.ref 39, .int (nI a), .int (nI b)] M (mx_F (some (.int (M.1 (44 + (a + 1) % 2) (b * 12 + 1) - M.1 (44 + a % 2) ((b + 1) * 12 + 0)))) M) := by
  refine mx_enter (own := RX0) (L := [.ref 39, .int (nI a), .int (nI b), .null]) (by decide +kernel) rfl rfl rfl ?_
  intro X hlX hX hR hT
  refine r_aload_n 1 hX dX0_weightOfRally_0 rfl ?_
  refine r_getI 4 hX dX0_weightOfRally_1 fX0_26 rfl rfl rfl ?_
  rw [hf]
  refine r_if_ne 7 11 hX dX0_weightOfRally_4 (fun _ => ?_) (fun c => absurd c (by decide))
  refine r_iconst 12 hX dX0_weightOfRally_11 (v := 1) (by decide) ?_
  refine r_istore_n 13 hX dX0_weightOfRally_12 rfl ?_
  refine r_aload_n 14 hX dX0_weightOfRally_13 rfl ?_
  refine r_iload_n 15 hX dX0_weightOfRally_14 rfl ?_
  refine r_iconst 16 hX dX0_weightOfRally_15 (v := 1) (by decide) ?_
  refine r_iadd 17 hX dX0_weightOfRally_16 ?_
  rw [nI_1]
  refine r_iload_n 18 hX dX0_weightOfRally_17 rfl ?_
  refine r_iload_n 19 hX dX0_weightOfRally_18 rfl ?_
  refine r_cV3F 22 hX hR (tX0_valueAt (a := a + 1) (b := b) (ph := 1) (by omega) (by omega) (by decide)) dX0_weightOfRally_19 kX0_valueAt lX0_76 rfl rfl rfl rfl rfl rfl ?_
  refine r_aload_n 23 hX dX0_weightOfRally_22 rfl ?_
  refine r_iload_n 24 hX dX0_weightOfRally_23 rfl ?_
  refine r_iload_n 25 hX dX0_weightOfRally_24 rfl ?_
  refine r_iconst 26 hX dX0_weightOfRally_25 (v := 1) (by decide) ?_
  refine r_iadd 27 hX dX0_weightOfRally_26 ?_
  rw [nI_1]
  refine r_iconst 28 hX dX0_weightOfRally_27 (v := 1) (by decide) ?_
  refine r_iload_n 29 hX dX0_weightOfRally_28 rfl ?_
  refine r_isubK 30 hX dX0_weightOfRally_29 (w := 0) (by decide) ?_
  refine r_cV3F 33 hX hR (tX0_valueAt (a := a) (b := b + 1) (ph := 0) (by omega) (by omega) (by decide)) dX0_weightOfRally_30 kX0_valueAt lX0_76 rfl rfl rfl rfl rfl rfl ?_
  refine r_isub 34 hX dX0_weightOfRally_33 ?_
  refine r_iret hX hT dX0_weightOfRally_34 ?_
  exact ⟨rfl, rfl⟩
def fsM (M : mx_Mem) (k s : Nat) (v : Int32) : Nat → mx_Mem
  | 0 => M
  | n + 1 => mI (fsM M k s v n) k (s + n) v
set_option maxRecDepth 100000 in
set_option maxHeartbeats 4000000 in
theorem tX0_fillScore {l : Launch} {G : mx_G} {a b : Nat} {v : Int32} {M : mx_Mem} (ha : a < 100) (hb : b ≤ 30) : mx_Met l G yX0_fillScore cX0_fillScore 7 (none) 0 0 [.ref 39, .int (nI a), .int (nI b), .int v] M (mx_F none (fsM M (44 + a % 2) (b * 12) v 12)) := by
  refine mx_enter (own := RX0) (L := [.ref 39, .int (nI a), .int (nI b), .int v, .null, .null, .null]) (by decide +kernel) rfl rfl rfl ?_
  intro X hlX hX hR hT
  have g6 : nI b * 12 = nI (b * 12) := by rw [show (12 : Int32) = nI 12 from rfl, pk_mul]
  refine r_aload_n 1 hX dX0_fillScore_0 rfl ?_
  refine r_getR 4 hX dX0_fillScore_1 fX0_23 rfl rfl rfl ?_
  refine r_iload_n 5 hX dX0_fillScore_4 rfl ?_
  refine r_iconst 6 hX dX0_fillScore_5 (v := 1) (by decide) ?_
  refine r_iand 7 hX dX0_fillScore_6 ?_
  rw [and1 a (by omega)]
  refine r_aaldK 8 hX dX0_fillScore_7 rfl rfl (vp_in_nI (show a % 2 < 2 by omega) (by decide)) (rwR a) ?_
  refine r_astore 10 hX dX0_fillScore_8 rfl ?_
  refine r_iload_n 11 hX dX0_fillScore_10 rfl ?_
  refine r_bipush 13 hX dX0_fillScore_11 (v := 12) (by decide) ?_
  refine r_imul 14 hX dX0_fillScore_13 ?_
  rw [g6]
  refine r_istore 16 hX dX0_fillScore_14 rfl ?_
  refine r_iconst 17 hX dX0_fillScore_16 (v := 0) (by decide) ?_
  refine r_istore 19 hX dX0_fillScore_17 rfl ?_
  refine (show mx_WW G X 19 [_, _, _, _, _, _, _] _ _ from ?_)
  refine r_iload 21 hX dX0_fillScore_19 rfl ?_
  refine r_bipush 23 hX dX0_fillScore_21 (v := 12) (by decide) ?_
  refine r_icmp_ge 26 41 hX dX0_fillScore_23 (fun c => absurd c (by decide)) (fun _ => ?_)
  refine r_aload 28 hX dX0_fillScore_26 rfl ?_
  refine r_iload 30 hX dX0_fillScore_28 rfl ?_
  refine r_iload 32 hX dX0_fillScore_30 rfl ?_
  refine r_iadd 33 hX dX0_fillScore_32 ?_
  refine mx_top (show nI (b * 12) + 0 = nI (b * 12 + 0) from nI_add (b * 12) 0) ?_
  refine r_iload_n 34 hX dX0_fillScore_33 rfl ?_
  refine r_iastK 35 hX dX0_fillScore_34 (shR a) (bltR a) (vp_in_nI (show b * 12 + 0 < 372 by omega) (by decide)) (j := b * 12 + 0) (nI_clamp (by omega)) ?_
  refine r_iincK 38 hX dX0_fillScore_35 rfl (w := 1) (by decide) rfl ?_
  refine r_goto 19 hX dX0_fillScore_38 ?_
  refine r_iload 21 hX dX0_fillScore_19 rfl ?_
  refine r_bipush 23 hX dX0_fillScore_21 (v := 12) (by decide) ?_
  refine r_icmp_ge 26 41 hX dX0_fillScore_23 (fun c => absurd c (by decide)) (fun _ => ?_)
  refine r_aload 28 hX dX0_fillScore_26 rfl ?_
  refine r_iload 30 hX dX0_fillScore_28 rfl ?_
  refine r_iload 32 hX dX0_fillScore_30 rfl ?_
  refine r_iadd 33 hX dX0_fillScore_32 ?_
  refine mx_top (show nI (b * 12) + 1 = nI (b * 12 + 1) from nI_add (b * 12) 1) ?_
  refine r_iload_n 34 hX dX0_fillScore_33 rfl ?_
  refine r_iastK 35 hX dX0_fillScore_34 (shR a) (bltR a) (vp_in_nI (show b * 12 + 1 < 372 by omega) (by decide)) (j := b * 12 + 1) (nI_clamp (by omega)) ?_
  refine r_iincK 38 hX dX0_fillScore_35 rfl (w := 2) (by decide) rfl ?_
  refine r_goto 19 hX dX0_fillScore_38 ?_
  refine r_iload 21 hX dX0_fillScore_19 rfl ?_
  refine r_bipush 23 hX dX0_fillScore_21 (v := 12) (by decide) ?_
  refine r_icmp_ge 26 41 hX dX0_fillScore_23 (fun c => absurd c (by decide)) (fun _ => ?_)
  refine r_aload 28 hX dX0_fillScore_26 rfl ?_
  refine r_iload 30 hX dX0_fillScore_28 rfl ?_
  refine r_iload 32 hX dX0_fillScore_30 rfl ?_
  refine r_iadd 33 hX dX0_fillScore_32 ?_
  refine mx_top (show nI (b * 12) + 2 = nI (b * 12 + 2) from nI_add (b * 12) 2) ?_
  refine r_iload_n 34 hX dX0_fillScore_33 rfl ?_
  refine r_iastK 35 hX dX0_fillScore_34 (shR a) (bltR a) (vp_in_nI (show b * 12 + 2 < 372 by omega) (by decide)) (j := b * 12 + 2) (nI_clamp (by omega)) ?_
  refine r_iincK 38 hX dX0_fillScore_35 rfl (w := 3) (by decide) rfl ?_
  refine (show mx_WW G X 38 [_, _, _, _, _, _, _] _ _ from ?_)
  refine r_goto 19 hX dX0_fillScore_38 ?_
  refine r_iload 21 hX dX0_fillScore_19 rfl ?_
  refine r_bipush 23 hX dX0_fillScore_21 (v := 12) (by decide) ?_
  refine r_icmp_ge 26 41 hX dX0_fillScore_23 (fun c => absurd c (by decide)) (fun _ => ?_)
  refine r_aload 28 hX dX0_fillScore_26 rfl ?_
  refine r_iload 30 hX dX0_fillScore_28 rfl ?_
  refine r_iload 32 hX dX0_fillScore_30 rfl ?_
  refine r_iadd 33 hX dX0_fillScore_32 ?_
  refine mx_top (show nI (b * 12) + 3 = nI (b * 12 + 3) from nI_add (b * 12) 3) ?_
  refine r_iload_n 34 hX dX0_fillScore_33 rfl ?_
  refine r_iastK 35 hX dX0_fillScore_34 (shR a) (bltR a) (vp_in_nI (show b * 12 + 3 < 372 by omega) (by decide)) (j := b * 12 + 3) (nI_clamp (by omega)) ?_
  refine r_iincK 38 hX dX0_fillScore_35 rfl (w := 4) (by decide) rfl ?_
  refine r_goto 19 hX dX0_fillScore_38 ?_
  refine r_iload 21 hX dX0_fillScore_19 rfl ?_
  refine r_bipush 23 hX dX0_fillScore_21 (v := 12) (by decide) ?_
  refine r_icmp_ge 26 41 hX dX0_fillScore_23 (fun c => absurd c (by decide)) (fun _ => ?_)
  refine r_aload 28 hX dX0_fillScore_26 rfl ?_
  refine r_iload 30 hX dX0_fillScore_28 rfl ?_
  refine r_iload 32 hX dX0_fillScore_30 rfl ?_
  refine r_iadd 33 hX dX0_fillScore_32 ?_
  refine mx_top (show nI (b * 12) + 4 = nI (b * 12 + 4) from nI_add (b * 12) 4) ?_
  refine r_iload_n 34 hX dX0_fillScore_33 rfl ?_
  refine r_iastK 35 hX dX0_fillScore_34 (shR a) (bltR a) (vp_in_nI (show b * 12 + 4 < 372 by omega) (by decide)) (j := b * 12 + 4) (nI_clamp (by omega)) ?_
  refine r_iincK 38 hX dX0_fillScore_35 rfl (w := 5) (by decide) rfl ?_
  refine r_goto 19 hX dX0_fillScore_38 ?_
  refine r_iload 21 hX dX0_fillScore_19 rfl ?_
  refine r_bipush 23 hX dX0_fillScore_21 (v := 12) (by decide) ?_
  refine r_icmp_ge 26 41 hX dX0_fillScore_23 (fun c => absurd c (by decide)) (fun _ => ?_)
  refine r_aload 28 hX dX0_fillScore_26 rfl ?_
  refine r_iload 30 hX dX0_fillScore_28 rfl ?_
  refine r_iload 32 hX dX0_fillScore_30 rfl ?_
  refine r_iadd 33 hX dX0_fillScore_32 ?_
  refine mx_top (show nI (b * 12) + 5 = nI (b * 12 + 5) from nI_add (b * 12) 5) ?_
  refine r_iload_n 34 hX dX0_fillScore_33 rfl ?_
  refine r_iastK 35 hX dX0_fillScore_34 (shR a) (bltR a) (vp_in_nI (show b * 12 + 5 < 372 by omega) (by decide)) (j := b * 12 + 5) (nI_clamp (by omega)) ?_
  refine r_iincK 38 hX dX0_fillScore_35 rfl (w := 6) (by decide) rfl ?_
  refine (show mx_WW G X 38 [_, _, _, _, _, _, _] _ _ from ?_)
  refine r_goto 19 hX dX0_fillScore_38 ?_
  refine r_iload 21 hX dX0_fillScore_19 rfl ?_
  refine r_bipush 23 hX dX0_fillScore_21 (v := 12) (by decide) ?_
  refine r_icmp_ge 26 41 hX dX0_fillScore_23 (fun c => absurd c (by decide)) (fun _ => ?_)
  refine r_aload 28 hX dX0_fillScore_26 rfl ?_
  refine r_iload 30 hX dX0_fillScore_28 rfl ?_
  refine r_iload 32 hX dX0_fillScore_30 rfl ?_
  refine r_iadd 33 hX dX0_fillScore_32 ?_
  refine mx_top (show nI (b * 12) + 6 = nI (b * 12 + 6) from nI_add (b * 12) 6) ?_
  refine r_iload_n 34 hX dX0_fillScore_33 rfl ?_
  refine r_iastK 35 hX dX0_fillScore_34 (shR a) (bltR a) (vp_in_nI (show b * 12 + 6 < 372 by omega) (by decide)) (j := b * 12 + 6) (nI_clamp (by omega)) ?_
  refine r_iincK 38 hX dX0_fillScore_35 rfl (w := 7) (by decide) rfl ?_
  refine r_goto 19 hX dX0_fillScore_38 ?_
  refine r_iload 21 hX dX0_fillScore_19 rfl ?_
  refine r_bipush 23 hX dX0_fillScore_21 (v := 12) (by decide) ?_
  refine r_icmp_ge 26 41 hX dX0_fillScore_23 (fun c => absurd c (by decide)) (fun _ => ?_)
  refine r_aload 28 hX dX0_fillScore_26 rfl ?_
  refine r_iload 30 hX dX0_fillScore_28 rfl ?_
  refine r_iload 32 hX dX0_fillScore_30 rfl ?_
  refine r_iadd 33 hX dX0_fillScore_32 ?_
  refine mx_top (show nI (b * 12) + 7 = nI (b * 12 + 7) from nI_add (b * 12) 7) ?_
  refine r_iload_n 34 hX dX0_fillScore_33 rfl ?_
  refine r_iastK 35 hX dX0_fillScore_34 (shR a) (bltR a) (vp_in_nI (show b * 12 + 7 < 372 by omega) (by decide)) (j := b * 12 + 7) (nI_clamp (by omega)) ?_
  refine r_iincK 38 hX dX0_fillScore_35 rfl (w := 8) (by decide) rfl ?_
  refine r_goto 19 hX dX0_fillScore_38 ?_
  refine r_iload 21 hX dX0_fillScore_19 rfl ?_
  refine r_bipush 23 hX dX0_fillScore_21 (v := 12) (by decide) ?_
  refine r_icmp_ge 26 41 hX dX0_fillScore_23 (fun c => absurd c (by decide)) (fun _ => ?_)
  refine r_aload 28 hX dX0_fillScore_26 rfl ?_
  refine r_iload 30 hX dX0_fillScore_28 rfl ?_
  refine r_iload 32 hX dX0_fillScore_30 rfl ?_
  refine r_iadd 33 hX dX0_fillScore_32 ?_
  refine mx_top (show nI (b * 12) + 8 = nI (b * 12 + 8) from nI_add (b * 12) 8) ?_
  refine r_iload_n 34 hX dX0_fillScore_33 rfl ?_
  refine r_iastK 35 hX dX0_fillScore_34 (shR a) (bltR a) (vp_in_nI (show b * 12 + 8 < 372 by omega) (by decide)) (j := b * 12 + 8) (nI_clamp (by omega)) ?_
  refine r_iincK 38 hX dX0_fillScore_35 rfl (w := 9) (by decide) rfl ?_
  refine (show mx_WW G X 38 [_, _, _, _, _, _, _] _ _ from ?_)
  refine r_goto 19 hX dX0_fillScore_38 ?_
  refine r_iload 21 hX dX0_fillScore_19 rfl ?_
  refine r_bipush 23 hX dX0_fillScore_21 (v := 12) (by decide) ?_
  refine r_icmp_ge 26 41 hX dX0_fillScore_23 (fun c => absurd c (by decide)) (fun _ => ?_)
  refine r_aload 28 hX dX0_fillScore_26 rfl ?_
  refine r_iload 30 hX dX0_fillScore_28 rfl ?_
  refine r_iload 32 hX dX0_fillScore_30 rfl ?_
  refine r_iadd 33 hX dX0_fillScore_32 ?_
  refine mx_top (show nI (b * 12) + 9 = nI (b * 12 + 9) from nI_add (b * 12) 9) ?_
  refine r_iload_n 34 hX dX0_fillScore_33 rfl ?_
  refine r_iastK 35 hX dX0_fillScore_34 (shR a) (bltR a) (vp_in_nI (show b * 12 + 9 < 372 by omega) (by decide)) (j := b * 12 + 9) (nI_clamp (by omega)) ?_
  refine r_iincK 38 hX dX0_fillScore_35 rfl (w := 10) (by decide) rfl ?_
  refine r_goto 19 hX dX0_fillScore_38 ?_
  refine r_iload 21 hX dX0_fillScore_19 rfl ?_
  refine r_bipush 23 hX dX0_fillScore_21 (v := 12) (by decide) ?_
  refine r_icmp_ge 26 41 hX dX0_fillScore_23 (fun c => absurd c (by decide)) (fun _ => ?_)
  refine r_aload 28 hX dX0_fillScore_26 rfl ?_
  refine r_iload 30 hX dX0_fillScore_28 rfl ?_
  refine r_iload 32 hX dX0_fillScore_30 rfl ?_
  refine r_iadd 33 hX dX0_fillScore_32 ?_
  refine mx_top (show nI (b * 12) + 10 = nI (b * 12 + 10) from nI_add (b * 12) 10) ?_
  refine r_iload_n 34 hX dX0_fillScore_33 rfl ?_
  refine r_iastK 35 hX dX0_fillScore_34 (shR a) (bltR a) (vp_in_nI (show b * 12 + 10 < 372 by omega) (by decide)) (j := b * 12 + 10) (nI_clamp (by omega)) ?_
  refine r_iincK 38 hX dX0_fillScore_35 rfl (w := 11) (by decide) rfl ?_
  refine r_goto 19 hX dX0_fillScore_38 ?_
  refine r_iload 21 hX dX0_fillScore_19 rfl ?_
  refine r_bipush 23 hX dX0_fillScore_21 (v := 12) (by decide) ?_
  refine r_icmp_ge 26 41 hX dX0_fillScore_23 (fun c => absurd c (by decide)) (fun _ => ?_)
  refine r_aload 28 hX dX0_fillScore_26 rfl ?_
  refine r_iload 30 hX dX0_fillScore_28 rfl ?_
  refine r_iload 32 hX dX0_fillScore_30 rfl ?_
  refine r_iadd 33 hX dX0_fillScore_32 ?_
  refine mx_top (show nI (b * 12) + 11 = nI (b * 12 + 11) from nI_add (b * 12) 11) ?_
  refine r_iload_n 34 hX dX0_fillScore_33 rfl ?_
  refine r_iastK 35 hX dX0_fillScore_34 (shR a) (bltR a) (vp_in_nI (show b * 12 + 11 < 372 by omega) (by decide)) (j := b * 12 + 11) (nI_clamp (by omega)) ?_
  refine r_iincK 38 hX dX0_fillScore_35 rfl (w := 12) (by decide) rfl ?_
  refine (show mx_WW G X 38 [_, _, _, _, _, _, _] _ _ from ?_)
  refine r_goto 19 hX dX0_fillScore_38 ?_
  refine r_iload 21 hX dX0_fillScore_19 rfl ?_
  refine r_bipush 23 hX dX0_fillScore_21 (v := 12) (by decide) ?_
  refine r_icmp_ge 26 41 hX dX0_fillScore_23 (fun _ => ?_) (fun c => absurd c (by decide))
  refine r_vret hX hT dX0_fillScore_41 ?_
  exact ⟨rfl, rfl⟩

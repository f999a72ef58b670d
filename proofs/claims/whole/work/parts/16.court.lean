/-! Court: what it answers and does, by its cells -/
def plc (f : Nat → Int32) (p : Int32) : Int32 := if f 0 = p then 0 else if f 1 = p then 1 else if f 2 = p then 2 else if f 3 = p then 3 else if f 4 = p then 4 else if f 5 = p then 5 else -1
def ss1 (M : mx_Mem) (c : Nat) : Nat → mx_Mem
  | 0 => M
  | n + 1 => mI (mI (ss1 M c n) (c + 2) n 0) (c + 3) n (-1)
def ss2 (M : mx_Mem) (c : Nat) (f : Nat → Int32) : Nat → mx_Mem
  | 0 => M
  | n + 1 => mI (mI (ss2 M c f n) (c + 1) n (f n)) (c + 2) (f n).toNatClampNeg 1
def ss3 (M : mx_Mem) (c : Nat) (z : Int32) : mx_Mem := mI (mI (mI (mI (mI (mI (mI M c 4 z) c 5 (-1)) c 6 0) c 7 0) c 9 0) c 10 0) c 11 0
def bgS (M : mx_Mem) (c s : Nat) : mx_Mem := ss3 (ss2 (ss1 M c 12) c (M.1 (s + 2)) 6) c (M.1 s 2)
theorem ss1_ne (M : mx_Mem) {c k : Nat} (h2 : k ≠ c + 2) (h3 : k ≠ c + 3) : ∀ n, (ss1 M c n).1 k = M.1 k
  | 0 => rfl
  | n + 1 => by
    funext j
    rw [ss1, mI_ne _ _ _ _ h3, mI_ne _ _ _ _ h2, ss1_ne M h2 h3 n]
theorem ss2_ne (M : mx_Mem) (f : Nat → Int32) {c k : Nat} (h1 : k ≠ c + 1) (h2 : k ≠ c + 2) : ∀ n, (ss2 M c f n).1 k = M.1 k
  | 0 => rfl
  | n + 1 => by
    funext j
    rw [ss2, mI_ne _ _ _ _ h2, mI_ne _ _ _ _ h1, ss2_ne M f h1 h2 n]
theorem ss3_ne (M : mx_Mem) (z : Int32) {c k : Nat} (h : k ≠ c) : (ss3 M c z).1 k = M.1 k := by
  funext j
  simp only [ss3, mI_ne _ _ _ _ h]
theorem bgS_ne (M : mx_Mem) {c s k : Nat} (h : (k ≠ c ∧ k ≠ c + 1) ∧ k ≠ c + 2 ∧ k ≠ c + 3) : (bgS M c s).1 k = M.1 k := by
  rw [bgS, ss3_ne _ _ h.1.1, ss2_ne _ _ h.1.2 h.2.1, ss1_ne _ h.2.1 h.2.2]
def mCo (M : mx_Mem) (a b : Nat) : mx_Mem :=
  let N := mR (mR (mR (mR M (a + 1) (va_cpy (M.1 (b + 1)) (M.1 (a + 1)) 0 0 6)) (a + 2) (va_cpy (M.1 (b + 2)) (M.1 (a + 2)) 0 0 12)) (a + 3) (va_cpy (M.1 (b + 3)) (M.1 (a + 3)) 0 0 12)) (a + 4) (va_cpy (M.1 (b + 4)) (M.1 (a + 4)) 0 0 12)
  mI (mI (mI (mI (mI (mI (mI (mI N a 4 (M.1 b 4)) a 5 (M.1 b 5)) a 6 (M.1 b 6)) a 7 (M.1 b 7)) a 8 (M.1 b 8)) a 9 (M.1 b 9)) a 10 (M.1 b 10)) a 11 (M.1 b 11)
def tnO (M : mx_Mem) (c : Nat) : mx_Mem := mI (mI (mI (mI (mI (mI M (c + 1) 0 (M.1 (c + 1) 1)) (c + 1) 1 (M.1 (c + 1) 2)) (c + 1) 2 (M.1 (c + 1) 3)) (c + 1) 3 (M.1 (c + 1) 4)) (c + 1) 4 (M.1 (c + 1) 5)) (c + 1) 5 (M.1 (c + 1) 0)
def tnM (M : mx_Mem) (c : Nat) : mx_Mem :=
  let N := mI (tnO M c) c 11 (M.1 c 11 + 1)
  if M.1 c 5 = -1 then N else mI N c 5 (if M.1 c 5 - 1 = 3 then -1 else M.1 c 5 - 1)
def prI (M : mx_Mem) (c : Nat) (a b : Int32) : Prop := isP a ∧ isP b ∧ if M.1 (c + 2) a.toNatClampNeg = 1 then M.1 (c + 2) b.toNatClampNeg = 0 else M.1 (c + 2) a.toNatClampNeg = 3 ∧ M.1 (c + 3) a.toNatClampNeg = b
def arP (M : mx_Mem) (c : Nat) (a b : Int32) : Int32 := if isP a ∧ isP b then (if M.1 (c + 2) a.toNatClampNeg = 1 then (if M.1 (c + 2) b.toNatClampNeg = 0 then 1 else 0) else (if M.1 (c + 2) a.toNatClampNeg = 3 ∧ M.1 (c + 3) a.toNatClampNeg = b then 1 else 0)) else 0
set_option maxRecDepth 100000 in
set_option maxHeartbeats 4000000 in
theorem tX2_startSet_9 {l : Launch} {G : mx_G} {M : mx_Mem} (hp : ∀ k : Nat, k < 6 → isP (M.1 5 k)) : mx_Met l G yX2_startSet cX2_startSet 4 (none) 1 20 [.ref 9, .ref 3] M (mx_F none (bgS M 9 3)) := by
  refine mx_enter (own := RX2) (L := [.ref 9, .ref 3, .null, .null]) (by decide +kernel) rfl rfl rfl ?_
  intro X hlX hX hR hT
  refine r_iconst 1 hX dX2_startSet_0 (v := 0) (by decide) ?_
  refine r_istore_n 2 hX dX2_startSet_1 rfl ?_
  refine r_iload_n 3 hX dX2_startSet_2 rfl ?_
  refine r_bipush 5 hX dX2_startSet_3 (v := 12) (by decide) ?_
  refine r_icmp_ge 8 28 hX dX2_startSet_5 (fun c => absurd c (by decide)) (fun _ => ?_)
  refine r_aload_n 9 hX dX2_startSet_8 rfl ?_
  refine r_getR 12 hX dX2_startSet_9 fX2_15 rfl rfl rfl ?_
  refine r_iload_n 13 hX dX2_startSet_12 rfl ?_
  refine r_iconst 14 hX dX2_startSet_13 (v := 0) (by decide) ?_
  refine r_iastK 15 hX dX2_startSet_14 rfl rfl (vpK rfl) (j := 0) (by decide) ?_
  refine r_aload_n 16 hX dX2_startSet_15 rfl ?_
  refine r_getR 19 hX dX2_startSet_16 fX2_18 rfl rfl rfl ?_
  refine r_iload_n 20 hX dX2_startSet_19 rfl ?_
  refine r_iconst 21 hX dX2_startSet_20 (v := -1) (by decide) ?_
  refine r_iastK 22 hX dX2_startSet_21 rfl rfl (vpK rfl) (j := 0) (by decide) ?_
  refine r_iincK 25 hX dX2_startSet_22 rfl (w := 1) (by decide) rfl ?_
  refine r_goto 2 hX dX2_startSet_25 ?_
  refine r_iload_n 3 hX dX2_startSet_2 rfl ?_
  refine r_bipush 5 hX dX2_startSet_3 (v := 12) (by decide) ?_
  refine r_icmp_ge 8 28 hX dX2_startSet_5 (fun c => absurd c (by decide)) (fun _ => ?_)
  refine r_aload_n 9 hX dX2_startSet_8 rfl ?_
  refine r_getR 12 hX dX2_startSet_9 fX2_15 rfl rfl rfl ?_
  refine r_iload_n 13 hX dX2_startSet_12 rfl ?_
  refine r_iconst 14 hX dX2_startSet_13 (v := 0) (by decide) ?_
  refine r_iastK 15 hX dX2_startSet_14 rfl rfl (vpK rfl) (j := 1) (by decide) ?_
  refine r_aload_n 16 hX dX2_startSet_15 rfl ?_
  refine r_getR 19 hX dX2_startSet_16 fX2_18 rfl rfl rfl ?_
  refine r_iload_n 20 hX dX2_startSet_19 rfl ?_
  refine r_iconst 21 hX dX2_startSet_20 (v := -1) (by decide) ?_
  refine r_iastK 22 hX dX2_startSet_21 rfl rfl (vpK rfl) (j := 1) (by decide) ?_
  refine r_iincK 25 hX dX2_startSet_22 rfl (w := 2) (by decide) rfl ?_
  refine (show mx_WW G X 25 [_, _, _, _] _ _ from ?_)
  refine r_goto 2 hX dX2_startSet_25 ?_
  refine r_iload_n 3 hX dX2_startSet_2 rfl ?_
  refine r_bipush 5 hX dX2_startSet_3 (v := 12) (by decide) ?_
  refine r_icmp_ge 8 28 hX dX2_startSet_5 (fun c => absurd c (by decide)) (fun _ => ?_)
  refine r_aload_n 9 hX dX2_startSet_8 rfl ?_
  refine r_getR 12 hX dX2_startSet_9 fX2_15 rfl rfl rfl ?_
  refine r_iload_n 13 hX dX2_startSet_12 rfl ?_
  refine r_iconst 14 hX dX2_startSet_13 (v := 0) (by decide) ?_
  refine r_iastK 15 hX dX2_startSet_14 rfl rfl (vpK rfl) (j := 2) (by decide) ?_
  refine r_aload_n 16 hX dX2_startSet_15 rfl ?_
  refine r_getR 19 hX dX2_startSet_16 fX2_18 rfl rfl rfl ?_
  refine r_iload_n 20 hX dX2_startSet_19 rfl ?_
  refine r_iconst 21 hX dX2_startSet_20 (v := -1) (by decide) ?_
  refine r_iastK 22 hX dX2_startSet_21 rfl rfl (vpK rfl) (j := 2) (by decide) ?_
  refine r_iincK 25 hX dX2_startSet_22 rfl (w := 3) (by decide) rfl ?_
  refine r_goto 2 hX dX2_startSet_25 ?_
  refine r_iload_n 3 hX dX2_startSet_2 rfl ?_
  refine r_bipush 5 hX dX2_startSet_3 (v := 12) (by decide) ?_
  refine r_icmp_ge 8 28 hX dX2_startSet_5 (fun c => absurd c (by decide)) (fun _ => ?_)
  refine r_aload_n 9 hX dX2_startSet_8 rfl ?_
  refine r_getR 12 hX dX2_startSet_9 fX2_15 rfl rfl rfl ?_
  refine r_iload_n 13 hX dX2_startSet_12 rfl ?_
  refine r_iconst 14 hX dX2_startSet_13 (v := 0) (by decide) ?_
  refine r_iastK 15 hX dX2_startSet_14 rfl rfl (vpK rfl) (j := 3) (by decide) ?_
  refine r_aload_n 16 hX dX2_startSet_15 rfl ?_
  refine r_getR 19 hX dX2_startSet_16 fX2_18 rfl rfl rfl ?_
  refine r_iload_n 20 hX dX2_startSet_19 rfl ?_
  refine r_iconst 21 hX dX2_startSet_20 (v := -1) (by decide) ?_
  refine r_iastK 22 hX dX2_startSet_21 rfl rfl (vpK rfl) (j := 3) (by decide) ?_
  refine r_iincK 25 hX dX2_startSet_22 rfl (w := 4) (by decide) rfl ?_
  refine r_goto 2 hX dX2_startSet_25 ?_
  refine r_iload_n 3 hX dX2_startSet_2 rfl ?_
  refine r_bipush 5 hX dX2_startSet_3 (v := 12) (by decide) ?_
  refine r_icmp_ge 8 28 hX dX2_startSet_5 (fun c => absurd c (by decide)) (fun _ => ?_)
  refine r_aload_n 9 hX dX2_startSet_8 rfl ?_
  refine r_getR 12 hX dX2_startSet_9 fX2_15 rfl rfl rfl ?_
  refine r_iload_n 13 hX dX2_startSet_12 rfl ?_
  refine r_iconst 14 hX dX2_startSet_13 (v := 0) (by decide) ?_
  refine r_iastK 15 hX dX2_startSet_14 rfl rfl (vpK rfl) (j := 4) (by decide) ?_
  refine r_aload_n 16 hX dX2_startSet_15 rfl ?_
  refine r_getR 19 hX dX2_startSet_16 fX2_18 rfl rfl rfl ?_
  refine r_iload_n 20 hX dX2_startSet_19 rfl ?_
  refine r_iconst 21 hX dX2_startSet_20 (v := -1) (by decide) ?_
  refine r_iastK 22 hX dX2_startSet_21 rfl rfl (vpK rfl) (j := 4) (by decide) ?_
  refine r_iincK 25 hX dX2_startSet_22 rfl (w := 5) (by decide) rfl ?_
  refine (show mx_WW G X 25 [_, _, _, _] _ _ from ?_)
  refine r_goto 2 hX dX2_startSet_25 ?_
  refine r_iload_n 3 hX dX2_startSet_2 rfl ?_
  refine r_bipush 5 hX dX2_startSet_3 (v := 12) (by decide) ?_
  refine r_icmp_ge 8 28 hX dX2_startSet_5 (fun c => absurd c (by decide)) (fun _ => ?_)
  refine r_aload_n 9 hX dX2_startSet_8 rfl ?_
  refine r_getR 12 hX dX2_startSet_9 fX2_15 rfl rfl rfl ?_
  refine r_iload_n 13 hX dX2_startSet_12 rfl ?_
  refine r_iconst 14 hX dX2_startSet_13 (v := 0) (by decide) ?_
  refine r_iastK 15 hX dX2_startSet_14 rfl rfl (vpK rfl) (j := 5) (by decide) ?_
  refine r_aload_n 16 hX dX2_startSet_15 rfl ?_
  refine r_getR 19 hX dX2_startSet_16 fX2_18 rfl rfl rfl ?_
  refine r_iload_n 20 hX dX2_startSet_19 rfl ?_
  refine r_iconst 21 hX dX2_startSet_20 (v := -1) (by decide) ?_
  refine r_iastK 22 hX dX2_startSet_21 rfl rfl (vpK rfl) (j := 5) (by decide) ?_
  refine r_iincK 25 hX dX2_startSet_22 rfl (w := 6) (by decide) rfl ?_
  refine r_goto 2 hX dX2_startSet_25 ?_
  refine r_iload_n 3 hX dX2_startSet_2 rfl ?_
  refine r_bipush 5 hX dX2_startSet_3 (v := 12) (by decide) ?_
  refine r_icmp_ge 8 28 hX dX2_startSet_5 (fun c => absurd c (by decide)) (fun _ => ?_)
  refine r_aload_n 9 hX dX2_startSet_8 rfl ?_
  refine r_getR 12 hX dX2_startSet_9 fX2_15 rfl rfl rfl ?_
  refine r_iload_n 13 hX dX2_startSet_12 rfl ?_
  refine r_iconst 14 hX dX2_startSet_13 (v := 0) (by decide) ?_
  refine r_iastK 15 hX dX2_startSet_14 rfl rfl (vpK rfl) (j := 6) (by decide) ?_
  refine r_aload_n 16 hX dX2_startSet_15 rfl ?_
  refine r_getR 19 hX dX2_startSet_16 fX2_18 rfl rfl rfl ?_
  refine r_iload_n 20 hX dX2_startSet_19 rfl ?_
  refine r_iconst 21 hX dX2_startSet_20 (v := -1) (by decide) ?_
  refine r_iastK 22 hX dX2_startSet_21 rfl rfl (vpK rfl) (j := 6) (by decide) ?_
  refine r_iincK 25 hX dX2_startSet_22 rfl (w := 7) (by decide) rfl ?_
  refine r_goto 2 hX dX2_startSet_25 ?_
  refine r_iload_n 3 hX dX2_startSet_2 rfl ?_
  refine r_bipush 5 hX dX2_startSet_3 (v := 12) (by decide) ?_
  refine r_icmp_ge 8 28 hX dX2_startSet_5 (fun c => absurd c (by decide)) (fun _ => ?_)
  refine r_aload_n 9 hX dX2_startSet_8 rfl ?_
  refine r_getR 12 hX dX2_startSet_9 fX2_15 rfl rfl rfl ?_
  refine r_iload_n 13 hX dX2_startSet_12 rfl ?_
  refine r_iconst 14 hX dX2_startSet_13 (v := 0) (by decide) ?_
  refine r_iastK 15 hX dX2_startSet_14 rfl rfl (vpK rfl) (j := 7) (by decide) ?_
  refine r_aload_n 16 hX dX2_startSet_15 rfl ?_
  refine r_getR 19 hX dX2_startSet_16 fX2_18 rfl rfl rfl ?_
  refine r_iload_n 20 hX dX2_startSet_19 rfl ?_
  refine r_iconst 21 hX dX2_startSet_20 (v := -1) (by decide) ?_
  refine r_iastK 22 hX dX2_startSet_21 rfl rfl (vpK rfl) (j := 7) (by decide) ?_
  refine r_iincK 25 hX dX2_startSet_22 rfl (w := 8) (by decide) rfl ?_
  refine (show mx_WW G X 25 [_, _, _, _] _ _ from ?_)
  refine r_goto 2 hX dX2_startSet_25 ?_
  refine r_iload_n 3 hX dX2_startSet_2 rfl ?_
  refine r_bipush 5 hX dX2_startSet_3 (v := 12) (by decide) ?_
  refine r_icmp_ge 8 28 hX dX2_startSet_5 (fun c => absurd c (by decide)) (fun _ => ?_)
  refine r_aload_n 9 hX dX2_startSet_8 rfl ?_
  refine r_getR 12 hX dX2_startSet_9 fX2_15 rfl rfl rfl ?_
  refine r_iload_n 13 hX dX2_startSet_12 rfl ?_
  refine r_iconst 14 hX dX2_startSet_13 (v := 0) (by decide) ?_
  refine r_iastK 15 hX dX2_startSet_14 rfl rfl (vpK rfl) (j := 8) (by decide) ?_
  refine r_aload_n 16 hX dX2_startSet_15 rfl ?_
  refine r_getR 19 hX dX2_startSet_16 fX2_18 rfl rfl rfl ?_
  refine r_iload_n 20 hX dX2_startSet_19 rfl ?_
  refine r_iconst 21 hX dX2_startSet_20 (v := -1) (by decide) ?_
  refine r_iastK 22 hX dX2_startSet_21 rfl rfl (vpK rfl) (j := 8) (by decide) ?_
  refine r_iincK 25 hX dX2_startSet_22 rfl (w := 9) (by decide) rfl ?_
  refine r_goto 2 hX dX2_startSet_25 ?_
  refine r_iload_n 3 hX dX2_startSet_2 rfl ?_
  refine r_bipush 5 hX dX2_startSet_3 (v := 12) (by decide) ?_
  refine r_icmp_ge 8 28 hX dX2_startSet_5 (fun c => absurd c (by decide)) (fun _ => ?_)
  refine r_aload_n 9 hX dX2_startSet_8 rfl ?_
  refine r_getR 12 hX dX2_startSet_9 fX2_15 rfl rfl rfl ?_
  refine r_iload_n 13 hX dX2_startSet_12 rfl ?_
  refine r_iconst 14 hX dX2_startSet_13 (v := 0) (by decide) ?_
  refine r_iastK 15 hX dX2_startSet_14 rfl rfl (vpK rfl) (j := 9) (by decide) ?_
  refine r_aload_n 16 hX dX2_startSet_15 rfl ?_
  refine r_getR 19 hX dX2_startSet_16 fX2_18 rfl rfl rfl ?_
  refine r_iload_n 20 hX dX2_startSet_19 rfl ?_
  refine r_iconst 21 hX dX2_startSet_20 (v := -1) (by decide) ?_
  refine r_iastK 22 hX dX2_startSet_21 rfl rfl (vpK rfl) (j := 9) (by decide) ?_
  refine r_iincK 25 hX dX2_startSet_22 rfl (w := 10) (by decide) rfl ?_
  refine r_goto 2 hX dX2_startSet_25 ?_
  refine r_iload_n 3 hX dX2_startSet_2 rfl ?_
  refine r_bipush 5 hX dX2_startSet_3 (v := 12) (by decide) ?_
  refine r_icmp_ge 8 28 hX dX2_startSet_5 (fun c => absurd c (by decide)) (fun _ => ?_)
  refine r_aload_n 9 hX dX2_startSet_8 rfl ?_
  refine r_getR 12 hX dX2_startSet_9 fX2_15 rfl rfl rfl ?_
  refine r_iload_n 13 hX dX2_startSet_12 rfl ?_
  refine r_iconst 14 hX dX2_startSet_13 (v := 0) (by decide) ?_
  refine r_iastK 15 hX dX2_startSet_14 rfl rfl (vpK rfl) (j := 10) (by decide) ?_
  refine r_aload_n 16 hX dX2_startSet_15 rfl ?_
  refine r_getR 19 hX dX2_startSet_16 fX2_18 rfl rfl rfl ?_
  refine r_iload_n 20 hX dX2_startSet_19 rfl ?_
  refine r_iconst 21 hX dX2_startSet_20 (v := -1) (by decide) ?_
  refine r_iastK 22 hX dX2_startSet_21 rfl rfl (vpK rfl) (j := 10) (by decide) ?_
  refine r_iincK 25 hX dX2_startSet_22 rfl (w := 11) (by decide) rfl ?_
  refine (show mx_WW G X 25 [_, _, _, _] _ _ from ?_)
  refine r_goto 2 hX dX2_startSet_25 ?_
  refine r_iload_n 3 hX dX2_startSet_2 rfl ?_
  refine r_bipush 5 hX dX2_startSet_3 (v := 12) (by decide) ?_
  refine r_icmp_ge 8 28 hX dX2_startSet_5 (fun c => absurd c (by decide)) (fun _ => ?_)
  refine r_aload_n 9 hX dX2_startSet_8 rfl ?_
  refine r_getR 12 hX dX2_startSet_9 fX2_15 rfl rfl rfl ?_
  refine r_iload_n 13 hX dX2_startSet_12 rfl ?_
  refine r_iconst 14 hX dX2_startSet_13 (v := 0) (by decide) ?_
  refine r_iastK 15 hX dX2_startSet_14 rfl rfl (vpK rfl) (j := 11) (by decide) ?_
  refine r_aload_n 16 hX dX2_startSet_15 rfl ?_
  refine r_getR 19 hX dX2_startSet_16 fX2_18 rfl rfl rfl ?_
  refine r_iload_n 20 hX dX2_startSet_19 rfl ?_
  refine r_iconst 21 hX dX2_startSet_20 (v := -1) (by decide) ?_
  refine r_iastK 22 hX dX2_startSet_21 rfl rfl (vpK rfl) (j := 11) (by decide) ?_
  refine r_iincK 25 hX dX2_startSet_22 rfl (w := 12) (by decide) rfl ?_
  refine r_goto 2 hX dX2_startSet_25 ?_
  refine r_iload_n 3 hX dX2_startSet_2 rfl ?_
  refine r_bipush 5 hX dX2_startSet_3 (v := 12) (by decide) ?_
  refine r_icmp_ge 8 28 hX dX2_startSet_5 (fun _ => ?_) (fun c => absurd c (by decide))
  refine r_iconst 29 hX dX2_startSet_28 (v := 0) (by decide) ?_
  refine r_istore_n 30 hX dX2_startSet_29 rfl ?_
  refine r_iload_n 31 hX dX2_startSet_30 rfl ?_
  refine r_bipush 33 hX dX2_startSet_31 (v := 6) (by decide) ?_
  refine r_icmp_ge 36 70 hX dX2_startSet_33 (fun c => absurd c (by decide)) (fun _ => ?_)
  refine r_aload_n 37 hX dX2_startSet_36 rfl ?_
  refine r_getR 40 hX dX2_startSet_37 fX2_50 rfl rfl rfl ?_
  refine r_iload_n 41 hX dX2_startSet_40 rfl ?_
  refine r_ialdK 42 hX dX2_startSet_41 rfl rfl (vpK rfl) (j := 0) (by decide) ?_
  refine r_istore_n 43 hX dX2_startSet_42 rfl ?_
  refine (show mx_WW G X 43 [_, _, _, _] _ _ from ?_)
  refine r_aload_n 44 hX dX2_startSet_43 rfl ?_
  refine r_getR 47 hX dX2_startSet_44 fX2_9 rfl rfl rfl ?_
  refine r_iload_n 48 hX dX2_startSet_47 rfl ?_
  refine r_iload_n 49 hX dX2_startSet_48 rfl ?_
  refine r_iastK 50 hX dX2_startSet_49 rfl rfl (vpK rfl) (j := 0) (by decide) ?_
  refine r_iload_n 51 hX dX2_startSet_50 rfl ?_
  refine r_cN1F 54 hX hR tX7_isPlayer dX2_startSet_51 kX7_isPlayer lX2_55 rfl rfl rfl ?_
  refine r_Beq 57 64 hX dX2_startSet_54 (fun c1 => absurd (hp 0 (by decide)) c1) (fun c1 => ?_)
  refine r_aload_n 58 hX dX2_startSet_57 rfl ?_
  refine r_getR 61 hX dX2_startSet_58 fX2_15 rfl rfl rfl ?_
  refine r_iload_n 62 hX dX2_startSet_61 rfl ?_
  refine r_iconst 63 hX dX2_startSet_62 (v := 1) (by decide) ?_
  refine r_iast 64 hX dX2_startSet_63 rfl rfl (vpP (hp 0 (by decide))) ?_
  refine r_iincK 67 hX dX2_startSet_64 rfl (w := 1) (by decide) rfl ?_
  refine r_goto 30 hX dX2_startSet_67 ?_
  refine r_iload_n 31 hX dX2_startSet_30 rfl ?_
  refine r_bipush 33 hX dX2_startSet_31 (v := 6) (by decide) ?_
  refine r_icmp_ge 36 70 hX dX2_startSet_33 (fun c => absurd c (by decide)) (fun _ => ?_)
  refine r_aload_n 37 hX dX2_startSet_36 rfl ?_
  refine r_getR 40 hX dX2_startSet_37 fX2_50 rfl rfl rfl ?_
  refine r_iload_n 41 hX dX2_startSet_40 rfl ?_
  refine r_ialdK 42 hX dX2_startSet_41 rfl rfl (vpK rfl) (j := 1) (by decide) ?_
  refine r_istore_n 43 hX dX2_startSet_42 rfl ?_
  refine r_aload_n 44 hX dX2_startSet_43 rfl ?_
  refine r_getR 47 hX dX2_startSet_44 fX2_9 rfl rfl rfl ?_
  refine r_iload_n 48 hX dX2_startSet_47 rfl ?_
  refine r_iload_n 49 hX dX2_startSet_48 rfl ?_
  refine r_iastK 50 hX dX2_startSet_49 rfl rfl (vpK rfl) (j := 1) (by decide) ?_
  refine r_iload_n 51 hX dX2_startSet_50 rfl ?_
  refine r_cN1F 54 hX hR tX7_isPlayer dX2_startSet_51 kX7_isPlayer lX2_55 rfl rfl rfl ?_
  refine r_Beq 57 64 hX dX2_startSet_54 (fun c2 => absurd (hp 1 (by decide)) c2) (fun c2 => ?_)
  refine r_aload_n 58 hX dX2_startSet_57 rfl ?_
  refine r_getR 61 hX dX2_startSet_58 fX2_15 rfl rfl rfl ?_
  refine r_iload_n 62 hX dX2_startSet_61 rfl ?_
  refine r_iconst 63 hX dX2_startSet_62 (v := 1) (by decide) ?_
  refine r_iast 64 hX dX2_startSet_63 rfl rfl (vpP (hp 1 (by decide))) ?_
  refine r_iincK 67 hX dX2_startSet_64 rfl (w := 2) (by decide) rfl ?_
  refine (show mx_WW G X 67 [_, _, _, _] _ _ from ?_)
  refine r_goto 30 hX dX2_startSet_67 ?_
  refine r_iload_n 31 hX dX2_startSet_30 rfl ?_
  refine r_bipush 33 hX dX2_startSet_31 (v := 6) (by decide) ?_
  refine r_icmp_ge 36 70 hX dX2_startSet_33 (fun c => absurd c (by decide)) (fun _ => ?_)
  refine r_aload_n 37 hX dX2_startSet_36 rfl ?_
  refine r_getR 40 hX dX2_startSet_37 fX2_50 rfl rfl rfl ?_
  refine r_iload_n 41 hX dX2_startSet_40 rfl ?_
  refine r_ialdK 42 hX dX2_startSet_41 rfl rfl (vpK rfl) (j := 2) (by decide) ?_
  refine r_istore_n 43 hX dX2_startSet_42 rfl ?_
  refine r_aload_n 44 hX dX2_startSet_43 rfl ?_
  refine r_getR 47 hX dX2_startSet_44 fX2_9 rfl rfl rfl ?_
  refine r_iload_n 48 hX dX2_startSet_47 rfl ?_
  refine r_iload_n 49 hX dX2_startSet_48 rfl ?_
  refine r_iastK 50 hX dX2_startSet_49 rfl rfl (vpK rfl) (j := 2) (by decide) ?_
  refine r_iload_n 51 hX dX2_startSet_50 rfl ?_
  refine r_cN1F 54 hX hR tX7_isPlayer dX2_startSet_51 kX7_isPlayer lX2_55 rfl rfl rfl ?_
  refine r_Beq 57 64 hX dX2_startSet_54 (fun c3 => absurd (hp 2 (by decide)) c3) (fun c3 => ?_)
  refine r_aload_n 58 hX dX2_startSet_57 rfl ?_
  refine r_getR 61 hX dX2_startSet_58 fX2_15 rfl rfl rfl ?_
  refine r_iload_n 62 hX dX2_startSet_61 rfl ?_
  refine r_iconst 63 hX dX2_startSet_62 (v := 1) (by decide) ?_
  refine r_iast 64 hX dX2_startSet_63 rfl rfl (vpP (hp 2 (by decide))) ?_
  refine r_iincK 67 hX dX2_startSet_64 rfl (w := 3) (by decide) rfl ?_
  refine r_goto 30 hX dX2_startSet_67 ?_
  refine r_iload_n 31 hX dX2_startSet_30 rfl ?_
  refine r_bipush 33 hX dX2_startSet_31 (v := 6) (by decide) ?_
  refine r_icmp_ge 36 70 hX dX2_startSet_33 (fun c => absurd c (by decide)) (fun _ => ?_)
  refine r_aload_n 37 hX dX2_startSet_36 rfl ?_
  refine r_getR 40 hX dX2_startSet_37 fX2_50 rfl rfl rfl ?_
  refine r_iload_n 41 hX dX2_startSet_40 rfl ?_
  refine r_ialdK 42 hX dX2_startSet_41 rfl rfl (vpK rfl) (j := 3) (by decide) ?_
  refine r_istore_n 43 hX dX2_startSet_42 rfl ?_
  refine (show mx_WW G X 43 [_, _, _, _] _ _ from ?_)
  refine r_aload_n 44 hX dX2_startSet_43 rfl ?_
  refine r_getR 47 hX dX2_startSet_44 fX2_9 rfl rfl rfl ?_
  refine r_iload_n 48 hX dX2_startSet_47 rfl ?_
  refine r_iload_n 49 hX dX2_startSet_48 rfl ?_
  refine r_iastK 50 hX dX2_startSet_49 rfl rfl (vpK rfl) (j := 3) (by decide) ?_
  refine r_iload_n 51 hX dX2_startSet_50 rfl ?_
  refine r_cN1F 54 hX hR tX7_isPlayer dX2_startSet_51 kX7_isPlayer lX2_55 rfl rfl rfl ?_
  refine r_Beq 57 64 hX dX2_startSet_54 (fun c4 => absurd (hp 3 (by decide)) c4) (fun c4 => ?_)
  refine r_aload_n 58 hX dX2_startSet_57 rfl ?_
  refine r_getR 61 hX dX2_startSet_58 fX2_15 rfl rfl rfl ?_
  refine r_iload_n 62 hX dX2_startSet_61 rfl ?_
  refine r_iconst 63 hX dX2_startSet_62 (v := 1) (by decide) ?_
  refine r_iast 64 hX dX2_startSet_63 rfl rfl (vpP (hp 3 (by decide))) ?_
  refine r_iincK 67 hX dX2_startSet_64 rfl (w := 4) (by decide) rfl ?_
  refine r_goto 30 hX dX2_startSet_67 ?_
  refine r_iload_n 31 hX dX2_startSet_30 rfl ?_
  refine r_bipush 33 hX dX2_startSet_31 (v := 6) (by decide) ?_
  refine r_icmp_ge 36 70 hX dX2_startSet_33 (fun c => absurd c (by decide)) (fun _ => ?_)
  refine r_aload_n 37 hX dX2_startSet_36 rfl ?_
  refine r_getR 40 hX dX2_startSet_37 fX2_50 rfl rfl rfl ?_
  refine r_iload_n 41 hX dX2_startSet_40 rfl ?_
  refine r_ialdK 42 hX dX2_startSet_41 rfl rfl (vpK rfl) (j := 4) (by decide) ?_
  refine r_istore_n 43 hX dX2_startSet_42 rfl ?_
  refine r_aload_n 44 hX dX2_startSet_43 rfl ?_
  refine r_getR 47 hX dX2_startSet_44 fX2_9 rfl rfl rfl ?_
  refine r_iload_n 48 hX dX2_startSet_47 rfl ?_
  refine r_iload_n 49 hX dX2_startSet_48 rfl ?_
  refine r_iastK 50 hX dX2_startSet_49 rfl rfl (vpK rfl) (j := 4) (by decide) ?_
  refine r_iload_n 51 hX dX2_startSet_50 rfl ?_
  refine r_cN1F 54 hX hR tX7_isPlayer dX2_startSet_51 kX7_isPlayer lX2_55 rfl rfl rfl ?_
  refine r_Beq 57 64 hX dX2_startSet_54 (fun c5 => absurd (hp 4 (by decide)) c5) (fun c5 => ?_)
  refine r_aload_n 58 hX dX2_startSet_57 rfl ?_
  refine r_getR 61 hX dX2_startSet_58 fX2_15 rfl rfl rfl ?_
  refine r_iload_n 62 hX dX2_startSet_61 rfl ?_
  refine r_iconst 63 hX dX2_startSet_62 (v := 1) (by decide) ?_
  refine r_iast 64 hX dX2_startSet_63 rfl rfl (vpP (hp 4 (by decide))) ?_
  refine r_iincK 67 hX dX2_startSet_64 rfl (w := 5) (by decide) rfl ?_
  refine (show mx_WW G X 67 [_, _, _, _] _ _ from ?_)
  refine r_goto 30 hX dX2_startSet_67 ?_
  refine r_iload_n 31 hX dX2_startSet_30 rfl ?_
  refine r_bipush 33 hX dX2_startSet_31 (v := 6) (by decide) ?_
  refine r_icmp_ge 36 70 hX dX2_startSet_33 (fun c => absurd c (by decide)) (fun _ => ?_)
  refine r_aload_n 37 hX dX2_startSet_36 rfl ?_
  refine r_getR 40 hX dX2_startSet_37 fX2_50 rfl rfl rfl ?_
  refine r_iload_n 41 hX dX2_startSet_40 rfl ?_
  refine r_ialdK 42 hX dX2_startSet_41 rfl rfl (vpK rfl) (j := 5) (by decide) ?_
  refine r_istore_n 43 hX dX2_startSet_42 rfl ?_
  refine r_aload_n 44 hX dX2_startSet_43 rfl ?_
  refine r_getR 47 hX dX2_startSet_44 fX2_9 rfl rfl rfl ?_
  refine r_iload_n 48 hX dX2_startSet_47 rfl ?_
  refine r_iload_n 49 hX dX2_startSet_48 rfl ?_
  refine r_iastK 50 hX dX2_startSet_49 rfl rfl (vpK rfl) (j := 5) (by decide) ?_
  refine r_iload_n 51 hX dX2_startSet_50 rfl ?_
  refine r_cN1F 54 hX hR tX7_isPlayer dX2_startSet_51 kX7_isPlayer lX2_55 rfl rfl rfl ?_
  refine r_Beq 57 64 hX dX2_startSet_54 (fun c6 => absurd (hp 5 (by decide)) c6) (fun c6 => ?_)
  refine r_aload_n 58 hX dX2_startSet_57 rfl ?_
  refine r_getR 61 hX dX2_startSet_58 fX2_15 rfl rfl rfl ?_
  refine r_iload_n 62 hX dX2_startSet_61 rfl ?_
  refine r_iconst 63 hX dX2_startSet_62 (v := 1) (by decide) ?_
  refine r_iast 64 hX dX2_startSet_63 rfl rfl (vpP (hp 5 (by decide))) ?_
  refine r_iincK 67 hX dX2_startSet_64 rfl (w := 6) (by decide) rfl ?_
  refine r_goto 30 hX dX2_startSet_67 ?_
  refine r_iload_n 31 hX dX2_startSet_30 rfl ?_
  refine r_bipush 33 hX dX2_startSet_31 (v := 6) (by decide) ?_
  refine r_icmp_ge 36 70 hX dX2_startSet_33 (fun _ => ?_) (fun c => absurd c (by decide))
  refine r_aload_n 71 hX dX2_startSet_70 rfl ?_
  refine r_aload_n 72 hX dX2_startSet_71 rfl ?_
  refine r_getI 75 hX dX2_startSet_72 fX2_59 rfl rfl rfl ?_
  refine r_putI 78 hX dX2_startSet_75 fX2_24 fp2_4 rfl rfl rfl ?_
  refine r_aload_n 79 hX dX2_startSet_78 rfl ?_
  refine r_iconst 80 hX dX2_startSet_79 (v := -1) (by decide) ?_
  refine r_putI 83 hX dX2_startSet_80 fX2_28 fp2_5 rfl rfl rfl ?_
  refine r_aload_n 84 hX dX2_startSet_83 rfl ?_
  refine r_iconst 85 hX dX2_startSet_84 (v := 0) (by decide) ?_
  refine r_putZ 88 hX dX2_startSet_85 fX2_31 fp2_6 rfl rfl rfl (by first | assumption | decide) ?_
  refine r_aload_n 89 hX dX2_startSet_88 rfl ?_
  refine r_iconst 90 hX dX2_startSet_89 (v := 0) (by decide) ?_
  refine r_putI 93 hX dX2_startSet_90 fX2_35 fp2_7 rfl rfl rfl ?_
  refine r_aload_n 94 hX dX2_startSet_93 rfl ?_
  refine r_iconst 95 hX dX2_startSet_94 (v := 0) (by decide) ?_
  refine r_putI 98 hX dX2_startSet_95 fX2_41 fp2_9 rfl rfl rfl ?_
  refine r_aload_n 99 hX dX2_startSet_98 rfl ?_
  refine r_iconst 100 hX dX2_startSet_99 (v := 0) (by decide) ?_
  refine r_putI 103 hX dX2_startSet_100 fX2_44 fp2_10 rfl rfl rfl ?_
  refine r_aload_n 104 hX dX2_startSet_103 rfl ?_
  refine r_iconst 105 hX dX2_startSet_104 (v := 0) (by decide) ?_
  refine r_putI 108 hX dX2_startSet_105 fX2_47 fp2_11 rfl rfl rfl ?_
  refine r_vret hX hT dX2_startSet_108 ?_
  exact ⟨rfl, rfl⟩
set_option maxRecDepth 100000 in
set_option maxHeartbeats 4000000 in
theorem tX2_startSet_14 {l : Launch} {G : mx_G} {M : mx_Mem} (hp : ∀ k : Nat, k < 6 → isP (M.1 8 k)) : mx_Met l G yX2_startSet cX2_startSet 4 (none) 1 20 [.ref 14, .ref 6] M (mx_F none (bgS M 14 6)) := by
  refine mx_enter (own := RX2) (L := [.ref 14, .ref 6, .null, .null]) (by decide +kernel) rfl rfl rfl ?_
  intro X hlX hX hR hT
  refine r_iconst 1 hX dX2_startSet_0 (v := 0) (by decide) ?_
  refine r_istore_n 2 hX dX2_startSet_1 rfl ?_
  refine r_iload_n 3 hX dX2_startSet_2 rfl ?_
  refine r_bipush 5 hX dX2_startSet_3 (v := 12) (by decide) ?_
  refine r_icmp_ge 8 28 hX dX2_startSet_5 (fun c => absurd c (by decide)) (fun _ => ?_)
  refine r_aload_n 9 hX dX2_startSet_8 rfl ?_
  refine r_getR 12 hX dX2_startSet_9 fX2_15 rfl rfl rfl ?_
  refine r_iload_n 13 hX dX2_startSet_12 rfl ?_
  refine r_iconst 14 hX dX2_startSet_13 (v := 0) (by decide) ?_
  refine r_iastK 15 hX dX2_startSet_14 rfl rfl (vpK rfl) (j := 0) (by decide) ?_
  refine r_aload_n 16 hX dX2_startSet_15 rfl ?_
  refine r_getR 19 hX dX2_startSet_16 fX2_18 rfl rfl rfl ?_
  refine r_iload_n 20 hX dX2_startSet_19 rfl ?_
  refine r_iconst 21 hX dX2_startSet_20 (v := -1) (by decide) ?_
  refine r_iastK 22 hX dX2_startSet_21 rfl rfl (vpK rfl) (j := 0) (by decide) ?_
  refine r_iincK 25 hX dX2_startSet_22 rfl (w := 1) (by decide) rfl ?_
  refine r_goto 2 hX dX2_startSet_25 ?_
  refine r_iload_n 3 hX dX2_startSet_2 rfl ?_
  refine r_bipush 5 hX dX2_startSet_3 (v := 12) (by decide) ?_
  refine r_icmp_ge 8 28 hX dX2_startSet_5 (fun c => absurd c (by decide)) (fun _ => ?_)
  refine r_aload_n 9 hX dX2_startSet_8 rfl ?_
  refine r_getR 12 hX dX2_startSet_9 fX2_15 rfl rfl rfl ?_
  refine r_iload_n 13 hX dX2_startSet_12 rfl ?_
  refine r_iconst 14 hX dX2_startSet_13 (v := 0) (by decide) ?_
  refine r_iastK 15 hX dX2_startSet_14 rfl rfl (vpK rfl) (j := 1) (by decide) ?_
  refine r_aload_n 16 hX dX2_startSet_15 rfl ?_
  refine r_getR 19 hX dX2_startSet_16 fX2_18 rfl rfl rfl ?_
  refine r_iload_n 20 hX dX2_startSet_19 rfl ?_
  refine r_iconst 21 hX dX2_startSet_20 (v := -1) (by decide) ?_
  refine r_iastK 22 hX dX2_startSet_21 rfl rfl (vpK rfl) (j := 1) (by decide) ?_
  refine r_iincK 25 hX dX2_startSet_22 rfl (w := 2) (by decide) rfl ?_
  refine (show mx_WW G X 25 [_, _, _, _] _ _ from ?_)
  refine r_goto 2 hX dX2_startSet_25 ?_
  refine r_iload_n 3 hX dX2_startSet_2 rfl ?_
  refine r_bipush 5 hX dX2_startSet_3 (v := 12) (by decide) ?_
  refine r_icmp_ge 8 28 hX dX2_startSet_5 (fun c => absurd c (by decide)) (fun _ => ?_)
  refine r_aload_n 9 hX dX2_startSet_8 rfl ?_
  refine r_getR 12 hX dX2_startSet_9 fX2_15 rfl rfl rfl ?_
  refine r_iload_n 13 hX dX2_startSet_12 rfl ?_
  refine r_iconst 14 hX dX2_startSet_13 (v := 0) (by decide) ?_
  refine r_iastK 15 hX dX2_startSet_14 rfl rfl (vpK rfl) (j := 2) (by decide) ?_
  refine r_aload_n 16 hX dX2_startSet_15 rfl ?_
  refine r_getR 19 hX dX2_startSet_16 fX2_18 rfl rfl rfl ?_
  refine r_iload_n 20 hX dX2_startSet_19 rfl ?_
  refine r_iconst 21 hX dX2_startSet_20 (v := -1) (by decide) ?_
  refine r_iastK 22 hX dX2_startSet_21 rfl rfl (vpK rfl) (j := 2) (by decide) ?_
  refine r_iincK 25 hX dX2_startSet_22 rfl (w := 3) (by decide) rfl ?_
  refine r_goto 2 hX dX2_startSet_25 ?_
  refine r_iload_n 3 hX dX2_startSet_2 rfl ?_
  refine r_bipush 5 hX dX2_startSet_3 (v := 12) (by decide) ?_
  refine r_icmp_ge 8 28 hX dX2_startSet_5 (fun c => absurd c (by decide)) (fun _ => ?_)
  refine r_aload_n 9 hX dX2_startSet_8 rfl ?_
  refine r_getR 12 hX dX2_startSet_9 fX2_15 rfl rfl rfl ?_
  refine r_iload_n 13 hX dX2_startSet_12 rfl ?_
  refine r_iconst 14 hX dX2_startSet_13 (v := 0) (by decide) ?_
  refine r_iastK 15 hX dX2_startSet_14 rfl rfl (vpK rfl) (j := 3) (by decide) ?_
  refine r_aload_n 16 hX dX2_startSet_15 rfl ?_
  refine r_getR 19 hX dX2_startSet_16 fX2_18 rfl rfl rfl ?_
  refine r_iload_n 20 hX dX2_startSet_19 rfl ?_
  refine r_iconst 21 hX dX2_startSet_20 (v := -1) (by decide) ?_
  refine r_iastK 22 hX dX2_startSet_21 rfl rfl (vpK rfl) (j := 3) (by decide) ?_
  refine r_iincK 25 hX dX2_startSet_22 rfl (w := 4) (by decide) rfl ?_
  refine r_goto 2 hX dX2_startSet_25 ?_
  refine r_iload_n 3 hX dX2_startSet_2 rfl ?_
  refine r_bipush 5 hX dX2_startSet_3 (v := 12) (by decide) ?_
  refine r_icmp_ge 8 28 hX dX2_startSet_5 (fun c => absurd c (by decide)) (fun _ => ?_)
  refine r_aload_n 9 hX dX2_startSet_8 rfl ?_
  refine r_getR 12 hX dX2_startSet_9 fX2_15 rfl rfl rfl ?_
  refine r_iload_n 13 hX dX2_startSet_12 rfl ?_
  refine r_iconst 14 hX dX2_startSet_13 (v := 0) (by decide) ?_
  refine r_iastK 15 hX dX2_startSet_14 rfl rfl (vpK rfl) (j := 4) (by decide) ?_
  refine r_aload_n 16 hX dX2_startSet_15 rfl ?_
  refine r_getR 19 hX dX2_startSet_16 fX2_18 rfl rfl rfl ?_
  refine r_iload_n 20 hX dX2_startSet_19 rfl ?_
  refine r_iconst 21 hX dX2_startSet_20 (v := -1) (by decide) ?_
  refine r_iastK 22 hX dX2_startSet_21 rfl rfl (vpK rfl) (j := 4) (by decide) ?_
  refine r_iincK 25 hX dX2_startSet_22 rfl (w := 5) (by decide) rfl ?_
  refine (show mx_WW G X 25 [_, _, _, _] _ _ from ?_)
  refine r_goto 2 hX dX2_startSet_25 ?_
  refine r_iload_n 3 hX dX2_startSet_2 rfl ?_
  refine r_bipush 5 hX dX2_startSet_3 (v := 12) (by decide) ?_
  refine r_icmp_ge 8 28 hX dX2_startSet_5 (fun c => absurd c (by decide)) (fun _ => ?_)
  refine r_aload_n 9 hX dX2_startSet_8 rfl ?_
  refine r_getR 12 hX dX2_startSet_9 fX2_15 rfl rfl rfl ?_
  refine r_iload_n 13 hX dX2_startSet_12 rfl ?_
  refine r_iconst 14 hX dX2_startSet_13 (v := 0) (by decide) ?_
  refine r_iastK 15 hX dX2_startSet_14 rfl rfl (vpK rfl) (j := 5) (by decide) ?_
  refine r_aload_n 16 hX dX2_startSet_15 rfl ?_
  refine r_getR 19 hX dX2_startSet_16 fX2_18 rfl rfl rfl ?_
  refine r_iload_n 20 hX dX2_startSet_19 rfl ?_
  refine r_iconst 21 hX dX2_startSet_20 (v := -1) (by decide) ?_
  refine r_iastK 22 hX dX2_startSet_21 rfl rfl (vpK rfl) (j := 5) (by decide) ?_
  refine r_iincK 25 hX dX2_startSet_22 rfl (w := 6) (by decide) rfl ?_
  refine r_goto 2 hX dX2_startSet_25 ?_
  refine r_iload_n 3 hX dX2_startSet_2 rfl ?_
  refine r_bipush 5 hX dX2_startSet_3 (v := 12) (by decide) ?_
  refine r_icmp_ge 8 28 hX dX2_startSet_5 (fun c => absurd c (by decide)) (fun _ => ?_)
  refine r_aload_n 9 hX dX2_startSet_8 rfl ?_
  refine r_getR 12 hX dX2_startSet_9 fX2_15 rfl rfl rfl ?_
  refine r_iload_n 13 hX dX2_startSet_12 rfl ?_
  refine r_iconst 14 hX dX2_startSet_13 (v := 0) (by decide) ?_
  refine r_iastK 15 hX dX2_startSet_14 rfl rfl (vpK rfl) (j := 6) (by decide) ?_
  refine r_aload_n 16 hX dX2_startSet_15 rfl ?_
  refine r_getR 19 hX dX2_startSet_16 fX2_18 rfl rfl rfl ?_
  refine r_iload_n 20 hX dX2_startSet_19 rfl ?_
  refine r_iconst 21 hX dX2_startSet_20 (v := -1) (by decide) ?_
  refine r_iastK 22 hX dX2_startSet_21 rfl rfl (vpK rfl) (j := 6) (by decide) ?_
  refine r_iincK 25 hX dX2_startSet_22 rfl (w := 7) (by decide) rfl ?_
  refine r_goto 2 hX dX2_startSet_25 ?_
  refine r_iload_n 3 hX dX2_startSet_2 rfl ?_
  refine r_bipush 5 hX dX2_startSet_3 (v := 12) (by decide) ?_
  refine r_icmp_ge 8 28 hX dX2_startSet_5 (fun c => absurd c (by decide)) (fun _ => ?_)
  refine r_aload_n 9 hX dX2_startSet_8 rfl ?_
  refine r_getR 12 hX dX2_startSet_9 fX2_15 rfl rfl rfl ?_
  refine r_iload_n 13 hX dX2_startSet_12 rfl ?_
  refine r_iconst 14 hX dX2_startSet_13 (v := 0) (by decide) ?_
  refine r_iastK 15 hX dX2_startSet_14 rfl rfl (vpK rfl) (j := 7) (by decide) ?_
  refine r_aload_n 16 hX dX2_startSet_15 rfl ?_
  refine r_getR 19 hX dX2_startSet_16 fX2_18 rfl rfl rfl ?_
  refine r_iload_n 20 hX dX2_startSet_19 rfl ?_
  refine r_iconst 21 hX dX2_startSet_20 (v := -1) (by decide) ?_
  refine r_iastK 22 hX dX2_startSet_21 rfl rfl (vpK rfl) (j := 7) (by decide) ?_
  refine r_iincK 25 hX dX2_startSet_22 rfl (w := 8) (by decide) rfl ?_
  refine (show mx_WW G X 25 [_, _, _, _] _ _ from ?_)
  refine r_goto 2 hX dX2_startSet_25 ?_
  refine r_iload_n 3 hX dX2_startSet_2 rfl ?_
  refine r_bipush 5 hX dX2_startSet_3 (v := 12) (by decide) ?_
  refine r_icmp_ge 8 28 hX dX2_startSet_5 (fun c => absurd c (by decide)) (fun _ => ?_)
  refine r_aload_n 9 hX dX2_startSet_8 rfl ?_
  refine r_getR 12 hX dX2_startSet_9 fX2_15 rfl rfl rfl ?_
  refine r_iload_n 13 hX dX2_startSet_12 rfl ?_
  refine r_iconst 14 hX dX2_startSet_13 (v := 0) (by decide) ?_
  refine r_iastK 15 hX dX2_startSet_14 rfl rfl (vpK rfl) (j := 8) (by decide) ?_
  refine r_aload_n 16 hX dX2_startSet_15 rfl ?_
  refine r_getR 19 hX dX2_startSet_16 fX2_18 rfl rfl rfl ?_
  refine r_iload_n 20 hX dX2_startSet_19 rfl ?_
  refine r_iconst 21 hX dX2_startSet_20 (v := -1) (by decide) ?_
  refine r_iastK 22 hX dX2_startSet_21 rfl rfl (vpK rfl) (j := 8) (by decide) ?_
  refine r_iincK 25 hX dX2_startSet_22 rfl (w := 9) (by decide) rfl ?_
  refine r_goto 2 hX dX2_startSet_25 ?_
  refine r_iload_n 3 hX dX2_startSet_2 rfl ?_
  refine r_bipush 5 hX dX2_startSet_3 (v := 12) (by decide) ?_
  refine r_icmp_ge 8 28 hX dX2_startSet_5 (fun c => absurd c (by decide)) (fun _ => ?_)
  refine r_aload_n 9 hX dX2_startSet_8 rfl ?_
  refine r_getR 12 hX dX2_startSet_9 fX2_15 rfl rfl rfl ?_
  refine r_iload_n 13 hX dX2_startSet_12 rfl ?_
  refine r_iconst 14 hX dX2_startSet_13 (v := 0) (by decide) ?_
  refine r_iastK 15 hX dX2_startSet_14 rfl rfl (vpK rfl) (j := 9) (by decide) ?_
  refine r_aload_n 16 hX dX2_startSet_15 rfl ?_
  refine r_getR 19 hX dX2_startSet_16 fX2_18 rfl rfl rfl ?_
  refine r_iload_n 20 hX dX2_startSet_19 rfl ?_
  refine r_iconst 21 hX dX2_startSet_20 (v := -1) (by decide) ?_
  refine r_iastK 22 hX dX2_startSet_21 rfl rfl (vpK rfl) (j := 9) (by decide) ?_
  refine r_iincK 25 hX dX2_startSet_22 rfl (w := 10) (by decide) rfl ?_
  refine r_goto 2 hX dX2_startSet_25 ?_
  refine r_iload_n 3 hX dX2_startSet_2 rfl ?_
  refine r_bipush 5 hX dX2_startSet_3 (v := 12) (by decide) ?_
  refine r_icmp_ge 8 28 hX dX2_startSet_5 (fun c => absurd c (by decide)) (fun _ => ?_)
  refine r_aload_n 9 hX dX2_startSet_8 rfl ?_
  refine r_getR 12 hX dX2_startSet_9 fX2_15 rfl rfl rfl ?_
  refine r_iload_n 13 hX dX2_startSet_12 rfl ?_
  refine r_iconst 14 hX dX2_startSet_13 (v := 0) (by decide) ?_
  refine r_iastK 15 hX dX2_startSet_14 rfl rfl (vpK rfl) (j := 10) (by decide) ?_
  refine r_aload_n 16 hX dX2_startSet_15 rfl ?_
  refine r_getR 19 hX dX2_startSet_16 fX2_18 rfl rfl rfl ?_
  refine r_iload_n 20 hX dX2_startSet_19 rfl ?_
  refine r_iconst 21 hX dX2_startSet_20 (v := -1) (by decide) ?_
  refine r_iastK 22 hX dX2_startSet_21 rfl rfl (vpK rfl) (j := 10) (by decide) ?_
  refine r_iincK 25 hX dX2_startSet_22 rfl (w := 11) (by decide) rfl ?_
  refine (show mx_WW G X 25 [_, _, _, _] _ _ from ?_)
  refine r_goto 2 hX dX2_startSet_25 ?_
  refine r_iload_n 3 hX dX2_startSet_2 rfl ?_
  refine r_bipush 5 hX dX2_startSet_3 (v := 12) (by decide) ?_
  refine r_icmp_ge 8 28 hX dX2_startSet_5 (fun c => absurd c (by decide)) (fun _ => ?_)
  refine r_aload_n 9 hX dX2_startSet_8 rfl ?_
  refine r_getR 12 hX dX2_startSet_9 fX2_15 rfl rfl rfl ?_
  refine r_iload_n 13 hX dX2_startSet_12 rfl ?_
  refine r_iconst 14 hX dX2_startSet_13 (v := 0) (by decide) ?_
  refine r_iastK 15 hX dX2_startSet_14 rfl rfl (vpK rfl) (j := 11) (by decide) ?_
  refine r_aload_n 16 hX dX2_startSet_15 rfl ?_
  refine r_getR 19 hX dX2_startSet_16 fX2_18 rfl rfl rfl ?_
  refine r_iload_n 20 hX dX2_startSet_19 rfl ?_
  refine r_iconst 21 hX dX2_startSet_20 (v := -1) (by decide) ?_
  refine r_iastK 22 hX dX2_startSet_21 rfl rfl (vpK rfl) (j := 11) (by decide) ?_
  refine r_iincK 25 hX dX2_startSet_22 rfl (w := 12) (by decide) rfl ?_
  refine r_goto 2 hX dX2_startSet_25 ?_
  refine r_iload_n 3 hX dX2_startSet_2 rfl ?_
  refine r_bipush 5 hX dX2_startSet_3 (v := 12) (by decide) ?_
  refine r_icmp_ge 8 28 hX dX2_startSet_5 (fun _ => ?_) (fun c => absurd c (by decide))
  refine r_iconst 29 hX dX2_startSet_28 (v := 0) (by decide) ?_
  refine r_istore_n 30 hX dX2_startSet_29 rfl ?_
  refine r_iload_n 31 hX dX2_startSet_30 rfl ?_
  refine r_bipush 33 hX dX2_startSet_31 (v := 6) (by decide) ?_
  refine r_icmp_ge 36 70 hX dX2_startSet_33 (fun c => absurd c (by decide)) (fun _ => ?_)
  refine r_aload_n 37 hX dX2_startSet_36 rfl ?_
  refine r_getR 40 hX dX2_startSet_37 fX2_50 rfl rfl rfl ?_
  refine r_iload_n 41 hX dX2_startSet_40 rfl ?_
  refine r_ialdK 42 hX dX2_startSet_41 rfl rfl (vpK rfl) (j := 0) (by decide) ?_
  refine r_istore_n 43 hX dX2_startSet_42 rfl ?_
  refine (show mx_WW G X 43 [_, _, _, _] _ _ from ?_)
  refine r_aload_n 44 hX dX2_startSet_43 rfl ?_
  refine r_getR 47 hX dX2_startSet_44 fX2_9 rfl rfl rfl ?_
  refine r_iload_n 48 hX dX2_startSet_47 rfl ?_
  refine r_iload_n 49 hX dX2_startSet_48 rfl ?_
  refine r_iastK 50 hX dX2_startSet_49 rfl rfl (vpK rfl) (j := 0) (by decide) ?_
  refine r_iload_n 51 hX dX2_startSet_50 rfl ?_
  refine r_cN1F 54 hX hR tX7_isPlayer dX2_startSet_51 kX7_isPlayer lX2_55 rfl rfl rfl ?_
  refine r_Beq 57 64 hX dX2_startSet_54 (fun c1 => absurd (hp 0 (by decide)) c1) (fun c1 => ?_)
  refine r_aload_n 58 hX dX2_startSet_57 rfl ?_
  refine r_getR 61 hX dX2_startSet_58 fX2_15 rfl rfl rfl ?_
  refine r_iload_n 62 hX dX2_startSet_61 rfl ?_
  refine r_iconst 63 hX dX2_startSet_62 (v := 1) (by decide) ?_
  refine r_iast 64 hX dX2_startSet_63 rfl rfl (vpP (hp 0 (by decide))) ?_
  refine r_iincK 67 hX dX2_startSet_64 rfl (w := 1) (by decide) rfl ?_
  refine r_goto 30 hX dX2_startSet_67 ?_
  refine r_iload_n 31 hX dX2_startSet_30 rfl ?_
  refine r_bipush 33 hX dX2_startSet_31 (v := 6) (by decide) ?_
  refine r_icmp_ge 36 70 hX dX2_startSet_33 (fun c => absurd c (by decide)) (fun _ => ?_)
  refine r_aload_n 37 hX dX2_startSet_36 rfl ?_
  refine r_getR 40 hX dX2_startSet_37 fX2_50 rfl rfl rfl ?_
  refine r_iload_n 41 hX dX2_startSet_40 rfl ?_
  refine r_ialdK 42 hX dX2_startSet_41 rfl rfl (vpK rfl) (j := 1) (by decide) ?_
  refine r_istore_n 43 hX dX2_startSet_42 rfl ?_
  refine r_aload_n 44 hX dX2_startSet_43 rfl ?_
  refine r_getR 47 hX dX2_startSet_44 fX2_9 rfl rfl rfl ?_
  refine r_iload_n 48 hX dX2_startSet_47 rfl ?_
  refine r_iload_n 49 hX dX2_startSet_48 rfl ?_
  refine r_iastK 50 hX dX2_startSet_49 rfl rfl (vpK rfl) (j := 1) (by decide) ?_
  refine r_iload_n 51 hX dX2_startSet_50 rfl ?_
  refine r_cN1F 54 hX hR tX7_isPlayer dX2_startSet_51 kX7_isPlayer lX2_55 rfl rfl rfl ?_
  refine r_Beq 57 64 hX dX2_startSet_54 (fun c2 => absurd (hp 1 (by decide)) c2) (fun c2 => ?_)
  refine r_aload_n 58 hX dX2_startSet_57 rfl ?_
  refine r_getR 61 hX dX2_startSet_58 fX2_15 rfl rfl rfl ?_
  refine r_iload_n 62 hX dX2_startSet_61 rfl ?_
  refine r_iconst 63 hX dX2_startSet_62 (v := 1) (by decide) ?_
  refine r_iast 64 hX dX2_startSet_63 rfl rfl (vpP (hp 1 (by decide))) ?_
  refine r_iincK 67 hX dX2_startSet_64 rfl (w := 2) (by decide) rfl ?_
  refine (show mx_WW G X 67 [_, _, _, _] _ _ from ?_)
  refine r_goto 30 hX dX2_startSet_67 ?_
  refine r_iload_n 31 hX dX2_startSet_30 rfl ?_
  refine r_bipush 33 hX dX2_startSet_31 (v := 6) (by decide) ?_
  refine r_icmp_ge 36 70 hX dX2_startSet_33 (fun c => absurd c (by decide)) (fun _ => ?_)
  refine r_aload_n 37 hX dX2_startSet_36 rfl ?_
  refine r_getR 40 hX dX2_startSet_37 fX2_50 rfl rfl rfl ?_
  refine r_iload_n 41 hX dX2_startSet_40 rfl ?_
  refine r_ialdK 42 hX dX2_startSet_41 rfl rfl (vpK rfl) (j := 2) (by decide) ?_
  refine r_istore_n 43 hX dX2_startSet_42 rfl ?_
  refine r_aload_n 44 hX dX2_startSet_43 rfl ?_
  refine r_getR 47 hX dX2_startSet_44 fX2_9 rfl rfl rfl ?_
  refine r_iload_n 48 hX dX2_startSet_47 rfl ?_
  refine r_iload_n 49 hX dX2_startSet_48 rfl ?_
  refine r_iastK 50 hX dX2_startSet_49 rfl rfl (vpK rfl) (j := 2) (by decide) ?_
  refine r_iload_n 51 hX dX2_startSet_50 rfl ?_
  refine r_cN1F 54 hX hR tX7_isPlayer dX2_startSet_51 kX7_isPlayer lX2_55 rfl rfl rfl ?_
  refine r_Beq 57 64 hX dX2_startSet_54 (fun c3 => absurd (hp 2 (by decide)) c3) (fun c3 => ?_)
  refine r_aload_n 58 hX dX2_startSet_57 rfl ?_
  refine r_getR 61 hX dX2_startSet_58 fX2_15 rfl rfl rfl ?_
  refine r_iload_n 62 hX dX2_startSet_61 rfl ?_
  refine r_iconst 63 hX dX2_startSet_62 (v := 1) (by decide) ?_
  refine r_iast 64 hX dX2_startSet_63 rfl rfl (vpP (hp 2 (by decide))) ?_
  refine r_iincK 67 hX dX2_startSet_64 rfl (w := 3) (by decide) rfl ?_
  refine r_goto 30 hX dX2_startSet_67 ?_
  refine r_iload_n 31 hX dX2_startSet_30 rfl ?_
  refine r_bipush 33 hX dX2_startSet_31 (v := 6) (by decide) ?_
  refine r_icmp_ge 36 70 hX dX2_startSet_33 (fun c => absurd c (by decide)) (fun _ => ?_)
  refine r_aload_n 37 hX dX2_startSet_36 rfl ?_
  refine r_getR 40 hX dX2_startSet_37 fX2_50 rfl rfl rfl ?_
  refine r_iload_n 41 hX dX2_startSet_40 rfl ?_
  refine r_ialdK 42 hX dX2_startSet_41 rfl rfl (vpK rfl) (j := 3) (by decide) ?_
  refine r_istore_n 43 hX dX2_startSet_42 rfl ?_
  refine (show mx_WW G X 43 [_, _, _, _] _ _ from ?_)
  refine r_aload_n 44 hX dX2_startSet_43 rfl ?_
  refine r_getR 47 hX dX2_startSet_44 fX2_9 rfl rfl rfl ?_
  refine r_iload_n 48 hX dX2_startSet_47 rfl ?_
  refine r_iload_n 49 hX dX2_startSet_48 rfl ?_
  refine r_iastK 50 hX dX2_startSet_49 rfl rfl (vpK rfl) (j := 3) (by decide) ?_
  refine r_iload_n 51 hX dX2_startSet_50 rfl ?_
  refine r_cN1F 54 hX hR tX7_isPlayer dX2_startSet_51 kX7_isPlayer lX2_55 rfl rfl rfl ?_
  refine r_Beq 57 64 hX dX2_startSet_54 (fun c4 => absurd (hp 3 (by decide)) c4) (fun c4 => ?_)
  refine r_aload_n 58 hX dX2_startSet_57 rfl ?_
  refine r_getR 61 hX dX2_startSet_58 fX2_15 rfl rfl rfl ?_
  refine r_iload_n 62 hX dX2_startSet_61 rfl ?_
  refine r_iconst 63 hX dX2_startSet_62 (v := 1) (by decide) ?_
  refine r_iast 64 hX dX2_startSet_63 rfl rfl (vpP (hp 3 (by decide))) ?_
  refine r_iincK 67 hX dX2_startSet_64 rfl (w := 4) (by decide) rfl ?_
  refine r_goto 30 hX dX2_startSet_67 ?_
  refine r_iload_n 31 hX dX2_startSet_30 rfl ?_
  refine r_bipush 33 hX dX2_startSet_31 (v := 6) (by decide) ?_
  refine r_icmp_ge 36 70 hX dX2_startSet_33 (fun c => absurd c (by decide)) (fun _ => ?_)
  refine r_aload_n 37 hX dX2_startSet_36 rfl ?_
  refine r_getR 40 hX dX2_startSet_37 fX2_50 rfl rfl rfl ?_
  refine r_iload_n 41 hX dX2_startSet_40 rfl ?_
  refine r_ialdK 42 hX dX2_startSet_41 rfl rfl (vpK rfl) (j := 4) (by decide) ?_
  refine r_istore_n 43 hX dX2_startSet_42 rfl ?_
  refine r_aload_n 44 hX dX2_startSet_43 rfl ?_
  refine r_getR 47 hX dX2_startSet_44 fX2_9 rfl rfl rfl ?_
  refine r_iload_n 48 hX dX2_startSet_47 rfl ?_
  refine r_iload_n 49 hX dX2_startSet_48 rfl ?_
  refine r_iastK 50 hX dX2_startSet_49 rfl rfl (vpK rfl) (j := 4) (by decide) ?_
  refine r_iload_n 51 hX dX2_startSet_50 rfl ?_
  refine r_cN1F 54 hX hR tX7_isPlayer dX2_startSet_51 kX7_isPlayer lX2_55 rfl rfl rfl ?_
  refine r_Beq 57 64 hX dX2_startSet_54 (fun c5 => absurd (hp 4 (by decide)) c5) (fun c5 => ?_)
  refine r_aload_n 58 hX dX2_startSet_57 rfl ?_
  refine r_getR 61 hX dX2_startSet_58 fX2_15 rfl rfl rfl ?_
  refine r_iload_n 62 hX dX2_startSet_61 rfl ?_
  refine r_iconst 63 hX dX2_startSet_62 (v := 1) (by decide) ?_
  refine r_iast 64 hX dX2_startSet_63 rfl rfl (vpP (hp 4 (by decide))) ?_
  refine r_iincK 67 hX dX2_startSet_64 rfl (w := 5) (by decide) rfl ?_
  refine (show mx_WW G X 67 [_, _, _, _] _ _ from ?_)
  refine r_goto 30 hX dX2_startSet_67 ?_
  refine r_iload_n 31 hX dX2_startSet_30 rfl ?_
  refine r_bipush 33 hX dX2_startSet_31 (v := 6) (by decide) ?_
  refine r_icmp_ge 36 70 hX dX2_startSet_33 (fun c => absurd c (by decide)) (fun _ => ?_)
  refine r_aload_n 37 hX dX2_startSet_36 rfl ?_
  refine r_getR 40 hX dX2_startSet_37 fX2_50 rfl rfl rfl ?_
  refine r_iload_n 41 hX dX2_startSet_40 rfl ?_
  refine r_ialdK 42 hX dX2_startSet_41 rfl rfl (vpK rfl) (j := 5) (by decide) ?_
  refine r_istore_n 43 hX dX2_startSet_42 rfl ?_
  refine r_aload_n 44 hX dX2_startSet_43 rfl ?_
  refine r_getR 47 hX dX2_startSet_44 fX2_9 rfl rfl rfl ?_
  refine r_iload_n 48 hX dX2_startSet_47 rfl ?_
  refine r_iload_n 49 hX dX2_startSet_48 rfl ?_
  refine r_iastK 50 hX dX2_startSet_49 rfl rfl (vpK rfl) (j := 5) (by decide) ?_
  refine r_iload_n 51 hX dX2_startSet_50 rfl ?_
  refine r_cN1F 54 hX hR tX7_isPlayer dX2_startSet_51 kX7_isPlayer lX2_55 rfl rfl rfl ?_
  refine r_Beq 57 64 hX dX2_startSet_54 (fun c6 => absurd (hp 5 (by decide)) c6) (fun c6 => ?_)
  refine r_aload_n 58 hX dX2_startSet_57 rfl ?_
  refine r_getR 61 hX dX2_startSet_58 fX2_15 rfl rfl rfl ?_
  refine r_iload_n 62 hX dX2_startSet_61 rfl ?_
  refine r_iconst 63 hX dX2_startSet_62 (v := 1) (by decide) ?_
  refine r_iast 64 hX dX2_startSet_63 rfl rfl (vpP (hp 5 (by decide))) ?_
  refine r_iincK 67 hX dX2_startSet_64 rfl (w := 6) (by decide) rfl ?_
  refine r_goto 30 hX dX2_startSet_67 ?_
  refine r_iload_n 31 hX dX2_startSet_30 rfl ?_
  refine r_bipush 33 hX dX2_startSet_31 (v := 6) (by decide) ?_
  refine r_icmp_ge 36 70 hX dX2_startSet_33 (fun _ => ?_) (fun c => absurd c (by decide))
  refine r_aload_n 71 hX dX2_startSet_70 rfl ?_
  refine r_aload_n 72 hX dX2_startSet_71 rfl ?_
  refine r_getI 75 hX dX2_startSet_72 fX2_59 rfl rfl rfl ?_
  refine r_putI 78 hX dX2_startSet_75 fX2_24 fp2_4 rfl rfl rfl ?_
  refine r_aload_n 79 hX dX2_startSet_78 rfl ?_
  refine r_iconst 80 hX dX2_startSet_79 (v := -1) (by decide) ?_
  refine r_putI 83 hX dX2_startSet_80 fX2_28 fp2_5 rfl rfl rfl ?_
  refine r_aload_n 84 hX dX2_startSet_83 rfl ?_
  refine r_iconst 85 hX dX2_startSet_84 (v := 0) (by decide) ?_
  refine r_putZ 88 hX dX2_startSet_85 fX2_31 fp2_6 rfl rfl rfl (by first | assumption | decide) ?_
  refine r_aload_n 89 hX dX2_startSet_88 rfl ?_
  refine r_iconst 90 hX dX2_startSet_89 (v := 0) (by decide) ?_
  refine r_putI 93 hX dX2_startSet_90 fX2_35 fp2_7 rfl rfl rfl ?_
  refine r_aload_n 94 hX dX2_startSet_93 rfl ?_
  refine r_iconst 95 hX dX2_startSet_94 (v := 0) (by decide) ?_
  refine r_putI 98 hX dX2_startSet_95 fX2_41 fp2_9 rfl rfl rfl ?_
  refine r_aload_n 99 hX dX2_startSet_98 rfl ?_
  refine r_iconst 100 hX dX2_startSet_99 (v := 0) (by decide) ?_
  refine r_putI 103 hX dX2_startSet_100 fX2_44 fp2_10 rfl rfl rfl ?_
  refine r_aload_n 104 hX dX2_startSet_103 rfl ?_
  refine r_iconst 105 hX dX2_startSet_104 (v := 0) (by decide) ?_
  refine r_putI 108 hX dX2_startSet_105 fX2_47 fp2_11 rfl rfl rfl ?_
  refine r_vret hX hT dX2_startSet_108 ?_
  exact ⟨rfl, rfl⟩
set_option maxRecDepth 100000 in
set_option maxHeartbeats 4000000 in
theorem tX2_copyFrom_20 {l : Launch} {G : mx_G} {M : mx_Mem} (hb : M.1 9 6 = 0 ∨ M.1 9 6 = 1) : mx_Met l G yX2_copyFrom cX2_copyFrom 2 (none) 1 60 [.ref 20, .ref 9] M (mx_F none (mCo M 20 9)) := by
  refine mx_enter (own := RX2) (L := [.ref 20, .ref 9]) (by decide +kernel) rfl rfl rfl ?_
  intro X hlX hX hR hT
  refine r_aload_n 1 hX dX2_copyFrom_0 rfl ?_
  refine r_getR 4 hX dX2_copyFrom_1 fX2_9 rfl rfl rfl ?_
  refine r_iconst 5 hX dX2_copyFrom_4 (v := 0) (by decide) ?_
  refine r_aload_n 6 hX dX2_copyFrom_5 rfl ?_
  refine r_getR 9 hX dX2_copyFrom_6 fX2_9 rfl rfl rfl ?_
  refine r_iconst 10 hX dX2_copyFrom_9 (v := 0) (by decide) ?_
  refine r_bipush 12 hX dX2_copyFrom_10 (v := 6) (by decide) ?_
  refine r_copyW 15 hX hR dX2_copyFrom_12 lX2_60 rfl rfl rfl rfl (by decide) rfl rfl rfl ?_
  refine r_aload_n 16 hX dX2_copyFrom_15 rfl ?_
  refine r_getR 19 hX dX2_copyFrom_16 fX2_15 rfl rfl rfl ?_
  refine r_iconst 20 hX dX2_copyFrom_19 (v := 0) (by decide) ?_
  refine r_aload_n 21 hX dX2_copyFrom_20 rfl ?_
  refine r_getR 24 hX dX2_copyFrom_21 fX2_15 rfl rfl rfl ?_
  refine r_iconst 25 hX dX2_copyFrom_24 (v := 0) (by decide) ?_
  refine r_bipush 27 hX dX2_copyFrom_25 (v := 12) (by decide) ?_
  refine r_copyW 30 hX hR dX2_copyFrom_27 lX2_60 rfl rfl rfl rfl (by decide) rfl rfl rfl ?_
  refine r_aload_n 31 hX dX2_copyFrom_30 rfl ?_
  refine r_getR 34 hX dX2_copyFrom_31 fX2_18 rfl rfl rfl ?_
  refine r_iconst 35 hX dX2_copyFrom_34 (v := 0) (by decide) ?_
  refine r_aload_n 36 hX dX2_copyFrom_35 rfl ?_
  refine r_getR 39 hX dX2_copyFrom_36 fX2_18 rfl rfl rfl ?_
  refine r_iconst 40 hX dX2_copyFrom_39 (v := 0) (by decide) ?_
  refine r_bipush 42 hX dX2_copyFrom_40 (v := 12) (by decide) ?_
  refine r_copyW 45 hX hR dX2_copyFrom_42 lX2_60 rfl rfl rfl rfl (by decide) rfl rfl rfl ?_
  refine r_aload_n 46 hX dX2_copyFrom_45 rfl ?_
  refine r_getR 49 hX dX2_copyFrom_46 fX2_21 rfl rfl rfl ?_
  refine r_iconst 50 hX dX2_copyFrom_49 (v := 0) (by decide) ?_
  refine r_aload_n 51 hX dX2_copyFrom_50 rfl ?_
  refine r_getR 54 hX dX2_copyFrom_51 fX2_21 rfl rfl rfl ?_
  refine r_iconst 55 hX dX2_copyFrom_54 (v := 0) (by decide) ?_
  refine r_bipush 57 hX dX2_copyFrom_55 (v := 12) (by decide) ?_
  refine r_copyW 60 hX hR dX2_copyFrom_57 lX2_60 rfl rfl rfl rfl (by decide) rfl rfl rfl ?_
  refine r_aload_n 61 hX dX2_copyFrom_60 rfl ?_
  refine r_aload_n 62 hX dX2_copyFrom_61 rfl ?_
  refine r_getI 65 hX dX2_copyFrom_62 fX2_24 rfl rfl rfl ?_
  refine r_putI 68 hX dX2_copyFrom_65 fX2_24 fp2_4 rfl rfl rfl ?_
  refine r_aload_n 69 hX dX2_copyFrom_68 rfl ?_
  refine r_aload_n 70 hX dX2_copyFrom_69 rfl ?_
  refine r_getI 73 hX dX2_copyFrom_70 fX2_28 rfl rfl rfl ?_
  refine r_putI 76 hX dX2_copyFrom_73 fX2_28 fp2_5 rfl rfl rfl ?_
  refine r_aload_n 77 hX dX2_copyFrom_76 rfl ?_
  refine r_aload_n 78 hX dX2_copyFrom_77 rfl ?_
  refine r_getI 81 hX dX2_copyFrom_78 fX2_31 rfl rfl rfl ?_
  refine r_putZ 84 hX dX2_copyFrom_81 fX2_31 fp2_6 rfl rfl rfl (by first | assumption | decide) ?_
  refine r_aload_n 85 hX dX2_copyFrom_84 rfl ?_
  refine r_aload_n 86 hX dX2_copyFrom_85 rfl ?_
  refine r_getI 89 hX dX2_copyFrom_86 fX2_35 rfl rfl rfl ?_
  refine r_putI 92 hX dX2_copyFrom_89 fX2_35 fp2_7 rfl rfl rfl ?_
  refine r_aload_n 93 hX dX2_copyFrom_92 rfl ?_
  refine r_aload_n 94 hX dX2_copyFrom_93 rfl ?_
  refine r_getI 97 hX dX2_copyFrom_94 fX2_38 rfl rfl rfl ?_
  refine r_putI 100 hX dX2_copyFrom_97 fX2_38 fp2_8 rfl rfl rfl ?_
  refine r_aload_n 101 hX dX2_copyFrom_100 rfl ?_
  refine r_aload_n 102 hX dX2_copyFrom_101 rfl ?_
  refine r_getI 105 hX dX2_copyFrom_102 fX2_41 rfl rfl rfl ?_
  refine r_putI 108 hX dX2_copyFrom_105 fX2_41 fp2_9 rfl rfl rfl ?_
  refine r_aload_n 109 hX dX2_copyFrom_108 rfl ?_
  refine r_aload_n 110 hX dX2_copyFrom_109 rfl ?_
  refine r_getI 113 hX dX2_copyFrom_110 fX2_44 rfl rfl rfl ?_
  refine r_putI 116 hX dX2_copyFrom_113 fX2_44 fp2_10 rfl rfl rfl ?_
  refine r_aload_n 117 hX dX2_copyFrom_116 rfl ?_
  refine r_aload_n 118 hX dX2_copyFrom_117 rfl ?_
  refine r_getI 121 hX dX2_copyFrom_118 fX2_47 rfl rfl rfl ?_
  refine r_putI 124 hX dX2_copyFrom_121 fX2_47 fp2_11 rfl rfl rfl ?_
  refine r_vret hX hT dX2_copyFrom_124 ?_
  exact ⟨rfl, rfl⟩
set_option maxRecDepth 100000 in
set_option maxHeartbeats 4000000 in
theorem tX2_copyFrom_25 {l : Launch} {G : mx_G} {M : mx_Mem} (hb : M.1 14 6 = 0 ∨ M.1 14 6 = 1) : mx_Met l G yX2_copyFrom cX2_copyFrom 2 (none) 1 60 [.ref 25, .ref 14] M (mx_F none (mCo M 25 14)) := by
  refine mx_enter (own := RX2) (L := [.ref 25, .ref 14]) (by decide +kernel) rfl rfl rfl ?_
  intro X hlX hX hR hT
  refine r_aload_n 1 hX dX2_copyFrom_0 rfl ?_
  refine r_getR 4 hX dX2_copyFrom_1 fX2_9 rfl rfl rfl ?_
  refine r_iconst 5 hX dX2_copyFrom_4 (v := 0) (by decide) ?_
  refine r_aload_n 6 hX dX2_copyFrom_5 rfl ?_
  refine r_getR 9 hX dX2_copyFrom_6 fX2_9 rfl rfl rfl ?_
  refine r_iconst 10 hX dX2_copyFrom_9 (v := 0) (by decide) ?_
  refine r_bipush 12 hX dX2_copyFrom_10 (v := 6) (by decide) ?_
  refine r_copyW 15 hX hR dX2_copyFrom_12 lX2_60 rfl rfl rfl rfl (by decide) rfl rfl rfl ?_
  refine r_aload_n 16 hX dX2_copyFrom_15 rfl ?_
  refine r_getR 19 hX dX2_copyFrom_16 fX2_15 rfl rfl rfl ?_
  refine r_iconst 20 hX dX2_copyFrom_19 (v := 0) (by decide) ?_
  refine r_aload_n 21 hX dX2_copyFrom_20 rfl ?_
  refine r_getR 24 hX dX2_copyFrom_21 fX2_15 rfl rfl rfl ?_
  refine r_iconst 25 hX dX2_copyFrom_24 (v := 0) (by decide) ?_
  refine r_bipush 27 hX dX2_copyFrom_25 (v := 12) (by decide) ?_
  refine r_copyW 30 hX hR dX2_copyFrom_27 lX2_60 rfl rfl rfl rfl (by decide) rfl rfl rfl ?_
  refine r_aload_n 31 hX dX2_copyFrom_30 rfl ?_
  refine r_getR 34 hX dX2_copyFrom_31 fX2_18 rfl rfl rfl ?_
  refine r_iconst 35 hX dX2_copyFrom_34 (v := 0) (by decide) ?_
  refine r_aload_n 36 hX dX2_copyFrom_35 rfl ?_
  refine r_getR 39 hX dX2_copyFrom_36 fX2_18 rfl rfl rfl ?_
  refine r_iconst 40 hX dX2_copyFrom_39 (v := 0) (by decide) ?_
  refine r_bipush 42 hX dX2_copyFrom_40 (v := 12) (by decide) ?_
  refine r_copyW 45 hX hR dX2_copyFrom_42 lX2_60 rfl rfl rfl rfl (by decide) rfl rfl rfl ?_
  refine r_aload_n 46 hX dX2_copyFrom_45 rfl ?_
  refine r_getR 49 hX dX2_copyFrom_46 fX2_21 rfl rfl rfl ?_
  refine r_iconst 50 hX dX2_copyFrom_49 (v := 0) (by decide) ?_
  refine r_aload_n 51 hX dX2_copyFrom_50 rfl ?_
  refine r_getR 54 hX dX2_copyFrom_51 fX2_21 rfl rfl rfl ?_
  refine r_iconst 55 hX dX2_copyFrom_54 (v := 0) (by decide) ?_
  refine r_bipush 57 hX dX2_copyFrom_55 (v := 12) (by decide) ?_
  refine r_copyW 60 hX hR dX2_copyFrom_57 lX2_60 rfl rfl rfl rfl (by decide) rfl rfl rfl ?_
  refine r_aload_n 61 hX dX2_copyFrom_60 rfl ?_
  refine r_aload_n 62 hX dX2_copyFrom_61 rfl ?_
  refine r_getI 65 hX dX2_copyFrom_62 fX2_24 rfl rfl rfl ?_
  refine r_putI 68 hX dX2_copyFrom_65 fX2_24 fp2_4 rfl rfl rfl ?_
  refine r_aload_n 69 hX dX2_copyFrom_68 rfl ?_
  refine r_aload_n 70 hX dX2_copyFrom_69 rfl ?_
  refine r_getI 73 hX dX2_copyFrom_70 fX2_28 rfl rfl rfl ?_
  refine r_putI 76 hX dX2_copyFrom_73 fX2_28 fp2_5 rfl rfl rfl ?_
  refine r_aload_n 77 hX dX2_copyFrom_76 rfl ?_
  refine r_aload_n 78 hX dX2_copyFrom_77 rfl ?_
  refine r_getI 81 hX dX2_copyFrom_78 fX2_31 rfl rfl rfl ?_
  refine r_putZ 84 hX dX2_copyFrom_81 fX2_31 fp2_6 rfl rfl rfl (by first | assumption | decide) ?_
  refine r_aload_n 85 hX dX2_copyFrom_84 rfl ?_
  refine r_aload_n 86 hX dX2_copyFrom_85 rfl ?_
  refine r_getI 89 hX dX2_copyFrom_86 fX2_35 rfl rfl rfl ?_
  refine r_putI 92 hX dX2_copyFrom_89 fX2_35 fp2_7 rfl rfl rfl ?_
  refine r_aload_n 93 hX dX2_copyFrom_92 rfl ?_
  refine r_aload_n 94 hX dX2_copyFrom_93 rfl ?_
  refine r_getI 97 hX dX2_copyFrom_94 fX2_38 rfl rfl rfl ?_
  refine r_putI 100 hX dX2_copyFrom_97 fX2_38 fp2_8 rfl rfl rfl ?_
  refine r_aload_n 101 hX dX2_copyFrom_100 rfl ?_
  refine r_aload_n 102 hX dX2_copyFrom_101 rfl ?_
  refine r_getI 105 hX dX2_copyFrom_102 fX2_41 rfl rfl rfl ?_
  refine r_putI 108 hX dX2_copyFrom_105 fX2_41 fp2_9 rfl rfl rfl ?_
  refine r_aload_n 109 hX dX2_copyFrom_108 rfl ?_
  refine r_aload_n 110 hX dX2_copyFrom_109 rfl ?_
  refine r_getI 113 hX dX2_copyFrom_110 fX2_44 rfl rfl rfl ?_
  refine r_putI 116 hX dX2_copyFrom_113 fX2_44 fp2_10 rfl rfl rfl ?_
  refine r_aload_n 117 hX dX2_copyFrom_116 rfl ?_
  refine r_aload_n 118 hX dX2_copyFrom_117 rfl ?_
  refine r_getI 121 hX dX2_copyFrom_118 fX2_47 rfl rfl rfl ?_
  refine r_putI 124 hX dX2_copyFrom_121 fX2_47 fp2_11 rfl rfl rfl ?_
  refine r_vret hX hT dX2_copyFrom_124 ?_
  exact ⟨rfl, rfl⟩
set_option maxRecDepth 100000 in
set_option maxHeartbeats 4000000 in
theorem tX2_copyFrom_9 {l : Launch} {G : mx_G} {M : mx_Mem} (hb : M.1 20 6 = 0 ∨ M.1 20 6 = 1) : mx_Met l G yX2_copyFrom cX2_copyFrom 2 (none) 1 60 [.ref 9, .ref 20] M (mx_F none (mCo M 9 20)) := by
  refine mx_enter (own := RX2) (L := [.ref 9, .ref 20]) (by decide +kernel) rfl rfl rfl ?_
  intro X hlX hX hR hT
  refine r_aload_n 1 hX dX2_copyFrom_0 rfl ?_
  refine r_getR 4 hX dX2_copyFrom_1 fX2_9 rfl rfl rfl ?_
  refine r_iconst 5 hX dX2_copyFrom_4 (v := 0) (by decide) ?_
  refine r_aload_n 6 hX dX2_copyFrom_5 rfl ?_
  refine r_getR 9 hX dX2_copyFrom_6 fX2_9 rfl rfl rfl ?_
  refine r_iconst 10 hX dX2_copyFrom_9 (v := 0) (by decide) ?_
  refine r_bipush 12 hX dX2_copyFrom_10 (v := 6) (by decide) ?_
  refine r_copyW 15 hX hR dX2_copyFrom_12 lX2_60 rfl rfl rfl rfl (by decide) rfl rfl rfl ?_
  refine r_aload_n 16 hX dX2_copyFrom_15 rfl ?_
  refine r_getR 19 hX dX2_copyFrom_16 fX2_15 rfl rfl rfl ?_
  refine r_iconst 20 hX dX2_copyFrom_19 (v := 0) (by decide) ?_
  refine r_aload_n 21 hX dX2_copyFrom_20 rfl ?_
  refine r_getR 24 hX dX2_copyFrom_21 fX2_15 rfl rfl rfl ?_
  refine r_iconst 25 hX dX2_copyFrom_24 (v := 0) (by decide) ?_
  refine r_bipush 27 hX dX2_copyFrom_25 (v := 12) (by decide) ?_
  refine r_copyW 30 hX hR dX2_copyFrom_27 lX2_60 rfl rfl rfl rfl (by decide) rfl rfl rfl ?_
  refine r_aload_n 31 hX dX2_copyFrom_30 rfl ?_
  refine r_getR 34 hX dX2_copyFrom_31 fX2_18 rfl rfl rfl ?_
  refine r_iconst 35 hX dX2_copyFrom_34 (v := 0) (by decide) ?_
  refine r_aload_n 36 hX dX2_copyFrom_35 rfl ?_
  refine r_getR 39 hX dX2_copyFrom_36 fX2_18 rfl rfl rfl ?_
  refine r_iconst 40 hX dX2_copyFrom_39 (v := 0) (by decide) ?_
  refine r_bipush 42 hX dX2_copyFrom_40 (v := 12) (by decide) ?_
  refine r_copyW 45 hX hR dX2_copyFrom_42 lX2_60 rfl rfl rfl rfl (by decide) rfl rfl rfl ?_
  refine r_aload_n 46 hX dX2_copyFrom_45 rfl ?_
  refine r_getR 49 hX dX2_copyFrom_46 fX2_21 rfl rfl rfl ?_
  refine r_iconst 50 hX dX2_copyFrom_49 (v := 0) (by decide) ?_
  refine r_aload_n 51 hX dX2_copyFrom_50 rfl ?_
  refine r_getR 54 hX dX2_copyFrom_51 fX2_21 rfl rfl rfl ?_
  refine r_iconst 55 hX dX2_copyFrom_54 (v := 0) (by decide) ?_
  refine r_bipush 57 hX dX2_copyFrom_55 (v := 12) (by decide) ?_
  refine r_copyW 60 hX hR dX2_copyFrom_57 lX2_60 rfl rfl rfl rfl (by decide) rfl rfl rfl ?_
  refine r_aload_n 61 hX dX2_copyFrom_60 rfl ?_
  refine r_aload_n 62 hX dX2_copyFrom_61 rfl ?_
  refine r_getI 65 hX dX2_copyFrom_62 fX2_24 rfl rfl rfl ?_
  refine r_putI 68 hX dX2_copyFrom_65 fX2_24 fp2_4 rfl rfl rfl ?_
  refine r_aload_n 69 hX dX2_copyFrom_68 rfl ?_
  refine r_aload_n 70 hX dX2_copyFrom_69 rfl ?_
  refine r_getI 73 hX dX2_copyFrom_70 fX2_28 rfl rfl rfl ?_
  refine r_putI 76 hX dX2_copyFrom_73 fX2_28 fp2_5 rfl rfl rfl ?_
  refine r_aload_n 77 hX dX2_copyFrom_76 rfl ?_
  refine r_aload_n 78 hX dX2_copyFrom_77 rfl ?_
  refine r_getI 81 hX dX2_copyFrom_78 fX2_31 rfl rfl rfl ?_
  refine r_putZ 84 hX dX2_copyFrom_81 fX2_31 fp2_6 rfl rfl rfl (by first | assumption | decide) ?_
  refine r_aload_n 85 hX dX2_copyFrom_84 rfl ?_
  refine r_aload_n 86 hX dX2_copyFrom_85 rfl ?_
  refine r_getI 89 hX dX2_copyFrom_86 fX2_35 rfl rfl rfl ?_
  refine r_putI 92 hX dX2_copyFrom_89 fX2_35 fp2_7 rfl rfl rfl ?_
  refine r_aload_n 93 hX dX2_copyFrom_92 rfl ?_
  refine r_aload_n 94 hX dX2_copyFrom_93 rfl ?_
  refine r_getI 97 hX dX2_copyFrom_94 fX2_38 rfl rfl rfl ?_
  refine r_putI 100 hX dX2_copyFrom_97 fX2_38 fp2_8 rfl rfl rfl ?_
  refine r_aload_n 101 hX dX2_copyFrom_100 rfl ?_
  refine r_aload_n 102 hX dX2_copyFrom_101 rfl ?_
  refine r_getI 105 hX dX2_copyFrom_102 fX2_41 rfl rfl rfl ?_
  refine r_putI 108 hX dX2_copyFrom_105 fX2_41 fp2_9 rfl rfl rfl ?_
  refine r_aload_n 109 hX dX2_copyFrom_108 rfl ?_
  refine r_aload_n 110 hX dX2_copyFrom_109 rfl ?_
  refine r_getI 113 hX dX2_copyFrom_110 fX2_44 rfl rfl rfl ?_
  refine r_putI 116 hX dX2_copyFrom_113 fX2_44 fp2_10 rfl rfl rfl ?_
  refine r_aload_n 117 hX dX2_copyFrom_116 rfl ?_
  refine r_aload_n 118 hX dX2_copyFrom_117 rfl ?_
  refine r_getI 121 hX dX2_copyFrom_118 fX2_47 rfl rfl rfl ?_
  refine r_putI 124 hX dX2_copyFrom_121 fX2_47 fp2_11 rfl rfl rfl ?_
  refine r_vret hX hT dX2_copyFrom_124 ?_
  exact ⟨rfl, rfl⟩
set_option maxRecDepth 100000 in
set_option maxHeartbeats 4000000 in
theorem tX2_copyFrom_14 {l : Launch} {G : mx_G} {M : mx_Mem} (hb : M.1 25 6 = 0 ∨ M.1 25 6 = 1) : mx_Met l G yX2_copyFrom cX2_copyFrom 2 (none) 1 60 [.ref 14, .ref 25] M (mx_F none (mCo M 14 25)) := by
  refine mx_enter (own := RX2) (L := [.ref 14, .ref 25]) (by decide +kernel) rfl rfl rfl ?_
  intro X hlX hX hR hT
  refine r_aload_n 1 hX dX2_copyFrom_0 rfl ?_
  refine r_getR 4 hX dX2_copyFrom_1 fX2_9 rfl rfl rfl ?_
  refine r_iconst 5 hX dX2_copyFrom_4 (v := 0) (by decide) ?_
  refine r_aload_n 6 hX dX2_copyFrom_5 rfl ?_
  refine r_getR 9 hX dX2_copyFrom_6 fX2_9 rfl rfl rfl ?_
  refine r_iconst 10 hX dX2_copyFrom_9 (v := 0) (by decide) ?_
  refine r_bipush 12 hX dX2_copyFrom_10 (v := 6) (by decide) ?_
  refine r_copyW 15 hX hR dX2_copyFrom_12 lX2_60 rfl rfl rfl rfl (by decide) rfl rfl rfl ?_
  refine r_aload_n 16 hX dX2_copyFrom_15 rfl ?_
  refine r_getR 19 hX dX2_copyFrom_16 fX2_15 rfl rfl rfl ?_
  refine r_iconst 20 hX dX2_copyFrom_19 (v := 0) (by decide) ?_
  refine r_aload_n 21 hX dX2_copyFrom_20 rfl ?_
  refine r_getR 24 hX dX2_copyFrom_21 fX2_15 rfl rfl rfl ?_
  refine r_iconst 25 hX dX2_copyFrom_24 (v := 0) (by decide) ?_
  refine r_bipush 27 hX dX2_copyFrom_25 (v := 12) (by decide) ?_
  refine r_copyW 30 hX hR dX2_copyFrom_27 lX2_60 rfl rfl rfl rfl (by decide) rfl rfl rfl ?_
  refine r_aload_n 31 hX dX2_copyFrom_30 rfl ?_
  refine r_getR 34 hX dX2_copyFrom_31 fX2_18 rfl rfl rfl ?_
  refine r_iconst 35 hX dX2_copyFrom_34 (v := 0) (by decide) ?_
  refine r_aload_n 36 hX dX2_copyFrom_35 rfl ?_
  refine r_getR 39 hX dX2_copyFrom_36 fX2_18 rfl rfl rfl ?_
  refine r_iconst 40 hX dX2_copyFrom_39 (v := 0) (by decide) ?_
  refine r_bipush 42 hX dX2_copyFrom_40 (v := 12) (by decide) ?_
  refine r_copyW 45 hX hR dX2_copyFrom_42 lX2_60 rfl rfl rfl rfl (by decide) rfl rfl rfl ?_
  refine r_aload_n 46 hX dX2_copyFrom_45 rfl ?_
  refine r_getR 49 hX dX2_copyFrom_46 fX2_21 rfl rfl rfl ?_
  refine r_iconst 50 hX dX2_copyFrom_49 (v := 0) (by decide) ?_
  refine r_aload_n 51 hX dX2_copyFrom_50 rfl ?_
  refine r_getR 54 hX dX2_copyFrom_51 fX2_21 rfl rfl rfl ?_
  refine r_iconst 55 hX dX2_copyFrom_54 (v := 0) (by decide) ?_
  refine r_bipush 57 hX dX2_copyFrom_55 (v := 12) (by decide) ?_
  refine r_copyW 60 hX hR dX2_copyFrom_57 lX2_60 rfl rfl rfl rfl (by decide) rfl rfl rfl ?_
  refine r_aload_n 61 hX dX2_copyFrom_60 rfl ?_
  refine r_aload_n 62 hX dX2_copyFrom_61 rfl ?_
  refine r_getI 65 hX dX2_copyFrom_62 fX2_24 rfl rfl rfl ?_
  refine r_putI 68 hX dX2_copyFrom_65 fX2_24 fp2_4 rfl rfl rfl ?_
  refine r_aload_n 69 hX dX2_copyFrom_68 rfl ?_
  refine r_aload_n 70 hX dX2_copyFrom_69 rfl ?_
  refine r_getI 73 hX dX2_copyFrom_70 fX2_28 rfl rfl rfl ?_
  refine r_putI 76 hX dX2_copyFrom_73 fX2_28 fp2_5 rfl rfl rfl ?_
  refine r_aload_n 77 hX dX2_copyFrom_76 rfl ?_
  refine r_aload_n 78 hX dX2_copyFrom_77 rfl ?_
  refine r_getI 81 hX dX2_copyFrom_78 fX2_31 rfl rfl rfl ?_
  refine r_putZ 84 hX dX2_copyFrom_81 fX2_31 fp2_6 rfl rfl rfl (by first | assumption | decide) ?_
  refine r_aload_n 85 hX dX2_copyFrom_84 rfl ?_
  refine r_aload_n 86 hX dX2_copyFrom_85 rfl ?_
  refine r_getI 89 hX dX2_copyFrom_86 fX2_35 rfl rfl rfl ?_
  refine r_putI 92 hX dX2_copyFrom_89 fX2_35 fp2_7 rfl rfl rfl ?_
  refine r_aload_n 93 hX dX2_copyFrom_92 rfl ?_
  refine r_aload_n 94 hX dX2_copyFrom_93 rfl ?_
  refine r_getI 97 hX dX2_copyFrom_94 fX2_38 rfl rfl rfl ?_
  refine r_putI 100 hX dX2_copyFrom_97 fX2_38 fp2_8 rfl rfl rfl ?_
  refine r_aload_n 101 hX dX2_copyFrom_100 rfl ?_
  refine r_aload_n 102 hX dX2_copyFrom_101 rfl ?_
  refine r_getI 105 hX dX2_copyFrom_102 fX2_41 rfl rfl rfl ?_
  refine r_putI 108 hX dX2_copyFrom_105 fX2_41 fp2_9 rfl rfl rfl ?_
  refine r_aload_n 109 hX dX2_copyFrom_108 rfl ?_
  refine r_aload_n 110 hX dX2_copyFrom_109 rfl ?_
  refine r_getI 113 hX dX2_copyFrom_110 fX2_44 rfl rfl rfl ?_
  refine r_putI 116 hX dX2_copyFrom_113 fX2_44 fp2_10 rfl rfl rfl ?_
  refine r_aload_n 117 hX dX2_copyFrom_116 rfl ?_
  refine r_aload_n 118 hX dX2_copyFrom_117 rfl ?_
  refine r_getI 121 hX dX2_copyFrom_118 fX2_47 rfl rfl rfl ?_
  refine r_putI 124 hX dX2_copyFrom_121 fX2_47 fp2_11 rfl rfl rfl ?_
  refine r_vret hX hT dX2_copyFrom_124 ?_
  exact ⟨rfl, rfl⟩
set_option maxRecDepth 100000 in
set_option maxHeartbeats 4000000 in
theorem tX2_placeOf_9 {l : Launch} {G : mx_G} {p : Int32} {M : mx_Mem} : mx_Met l G yX2_placeOf cX2_placeOf 3 ((some FieldType.int)) 0 0 [.ref 9, .int p] M (mx_F (some (.int (plc (M.1 10) p))) M) := by
  refine mx_enter (own := RX2) (L := [.ref 9, .int p, .null]) (by decide +kernel) rfl rfl rfl ?_
  intro X hlX hX hR hT
  refine r_iconst 1 hX dX2_placeOf_0 (v := 0) (by decide) ?_
  refine r_istore_n 2 hX dX2_placeOf_1 rfl ?_
  refine r_iload_n 3 hX dX2_placeOf_2 rfl ?_
  refine r_bipush 5 hX dX2_placeOf_3 (v := 6) (by decide) ?_
  refine r_icmp_ge 8 26 hX dX2_placeOf_5 (fun c => absurd c (by decide)) (fun _ => ?_)
  refine r_aload_n 9 hX dX2_placeOf_8 rfl ?_
  refine r_getR 12 hX dX2_placeOf_9 fX2_9 rfl rfl rfl ?_
  refine r_iload_n 13 hX dX2_placeOf_12 rfl ?_
  refine r_ialdK 14 hX dX2_placeOf_13 rfl rfl (vpK rfl) (j := 0) (by decide) ?_
  refine r_iload_n 15 hX dX2_placeOf_14 rfl ?_
  refine r_icmp_ne 18 20 hX dX2_placeOf_15 (fun c1 => ?_) (fun c1 => ?_)
  · refine r_iincK 23 hX dX2_placeOf_20 rfl (w := 1) (by decide) rfl ?_
    refine r_goto 2 hX dX2_placeOf_23 ?_
    refine r_iload_n 3 hX dX2_placeOf_2 rfl ?_
    refine r_bipush 5 hX dX2_placeOf_3 (v := 6) (by decide) ?_
    refine r_icmp_ge 8 26 hX dX2_placeOf_5 (fun c => absurd c (by decide)) (fun _ => ?_)
    refine r_aload_n 9 hX dX2_placeOf_8 rfl ?_
    refine r_getR 12 hX dX2_placeOf_9 fX2_9 rfl rfl rfl ?_
    refine r_iload_n 13 hX dX2_placeOf_12 rfl ?_
    refine r_ialdK 14 hX dX2_placeOf_13 rfl rfl (vpK rfl) (j := 1) (by decide) ?_
    refine r_iload_n 15 hX dX2_placeOf_14 rfl ?_
    refine r_icmp_ne 18 20 hX dX2_placeOf_15 (fun c2 => ?_) (fun c2 => ?_)
    · refine r_iincK 23 hX dX2_placeOf_20 rfl (w := 2) (by decide) rfl ?_
      refine (show mx_WW G X 23 [_, _, _] _ _ from ?_)
      refine r_goto 2 hX dX2_placeOf_23 ?_
      refine r_iload_n 3 hX dX2_placeOf_2 rfl ?_
      refine r_bipush 5 hX dX2_placeOf_3 (v := 6) (by decide) ?_
      refine r_icmp_ge 8 26 hX dX2_placeOf_5 (fun c => absurd c (by decide)) (fun _ => ?_)
      refine r_aload_n 9 hX dX2_placeOf_8 rfl ?_
      refine r_getR 12 hX dX2_placeOf_9 fX2_9 rfl rfl rfl ?_
      refine r_iload_n 13 hX dX2_placeOf_12 rfl ?_
      refine r_ialdK 14 hX dX2_placeOf_13 rfl rfl (vpK rfl) (j := 2) (by decide) ?_
      refine r_iload_n 15 hX dX2_placeOf_14 rfl ?_
      refine r_icmp_ne 18 20 hX dX2_placeOf_15 (fun c3 => ?_) (fun c3 => ?_)
      · refine r_iincK 23 hX dX2_placeOf_20 rfl (w := 3) (by decide) rfl ?_
        refine r_goto 2 hX dX2_placeOf_23 ?_
        refine r_iload_n 3 hX dX2_placeOf_2 rfl ?_
        refine r_bipush 5 hX dX2_placeOf_3 (v := 6) (by decide) ?_
        refine r_icmp_ge 8 26 hX dX2_placeOf_5 (fun c => absurd c (by decide)) (fun _ => ?_)
        refine r_aload_n 9 hX dX2_placeOf_8 rfl ?_
        refine r_getR 12 hX dX2_placeOf_9 fX2_9 rfl rfl rfl ?_
        refine r_iload_n 13 hX dX2_placeOf_12 rfl ?_
        refine r_ialdK 14 hX dX2_placeOf_13 rfl rfl (vpK rfl) (j := 3) (by decide) ?_
        refine r_iload_n 15 hX dX2_placeOf_14 rfl ?_
        refine r_icmp_ne 18 20 hX dX2_placeOf_15 (fun c4 => ?_) (fun c4 => ?_)
        · refine r_iincK 23 hX dX2_placeOf_20 rfl (w := 4) (by decide) rfl ?_
          refine r_goto 2 hX dX2_placeOf_23 ?_
          refine r_iload_n 3 hX dX2_placeOf_2 rfl ?_
          refine r_bipush 5 hX dX2_placeOf_3 (v := 6) (by decide) ?_
          refine r_icmp_ge 8 26 hX dX2_placeOf_5 (fun c => absurd c (by decide)) (fun _ => ?_)
          refine r_aload_n 9 hX dX2_placeOf_8 rfl ?_
          refine r_getR 12 hX dX2_placeOf_9 fX2_9 rfl rfl rfl ?_
          refine r_iload_n 13 hX dX2_placeOf_12 rfl ?_
          refine r_ialdK 14 hX dX2_placeOf_13 rfl rfl (vpK rfl) (j := 4) (by decide) ?_
          refine r_iload_n 15 hX dX2_placeOf_14 rfl ?_
          refine r_icmp_ne 18 20 hX dX2_placeOf_15 (fun c5 => ?_) (fun c5 => ?_)
          · refine r_iincK 23 hX dX2_placeOf_20 rfl (w := 5) (by decide) rfl ?_
            refine (show mx_WW G X 23 [_, _, _] _ _ from ?_)
            refine r_goto 2 hX dX2_placeOf_23 ?_
            refine r_iload_n 3 hX dX2_placeOf_2 rfl ?_
            refine r_bipush 5 hX dX2_placeOf_3 (v := 6) (by decide) ?_
            refine r_icmp_ge 8 26 hX dX2_placeOf_5 (fun c => absurd c (by decide)) (fun _ => ?_)
            refine r_aload_n 9 hX dX2_placeOf_8 rfl ?_
            refine r_getR 12 hX dX2_placeOf_9 fX2_9 rfl rfl rfl ?_
            refine r_iload_n 13 hX dX2_placeOf_12 rfl ?_
            refine r_ialdK 14 hX dX2_placeOf_13 rfl rfl (vpK rfl) (j := 5) (by decide) ?_
            refine r_iload_n 15 hX dX2_placeOf_14 rfl ?_
            refine r_icmp_ne 18 20 hX dX2_placeOf_15 (fun c6 => ?_) (fun c6 => ?_)
            · refine r_iincK 23 hX dX2_placeOf_20 rfl (w := 6) (by decide) rfl ?_
              refine r_goto 2 hX dX2_placeOf_23 ?_
              refine r_iload_n 3 hX dX2_placeOf_2 rfl ?_
              refine r_bipush 5 hX dX2_placeOf_3 (v := 6) (by decide) ?_
              refine r_icmp_ge 8 26 hX dX2_placeOf_5 (fun _ => ?_) (fun c => absurd c (by decide))
              refine r_iconst 27 hX dX2_placeOf_26 (v := -1) (by decide) ?_
              refine r_iret hX hT dX2_placeOf_27 ?_
              exact ⟨by simp [*, plc], rfl⟩
            · refine r_iload_n 19 hX dX2_placeOf_18 rfl ?_
              refine r_iret hX hT dX2_placeOf_19 ?_
              exact ⟨by simp [*, plc], rfl⟩
          · refine r_iload_n 19 hX dX2_placeOf_18 rfl ?_
            refine r_iret hX hT dX2_placeOf_19 ?_
            exact ⟨by simp [*, plc], rfl⟩
        · refine r_iload_n 19 hX dX2_placeOf_18 rfl ?_
          refine r_iret hX hT dX2_placeOf_19 ?_
          exact ⟨by simp [*, plc], rfl⟩
      · refine r_iload_n 19 hX dX2_placeOf_18 rfl ?_
        refine r_iret hX hT dX2_placeOf_19 ?_
        exact ⟨by simp [*, plc], rfl⟩
    · refine r_iload_n 19 hX dX2_placeOf_18 rfl ?_
      refine r_iret hX hT dX2_placeOf_19 ?_
      exact ⟨by simp [*, plc], rfl⟩
  · refine r_iload_n 19 hX dX2_placeOf_18 rfl ?_
    refine r_iret hX hT dX2_placeOf_19 ?_
    exact ⟨by simp [*, plc], rfl⟩
set_option maxRecDepth 100000 in
set_option maxHeartbeats 4000000 in
theorem tX2_playerAt_9 {l : Launch} {G : mx_G} {p : Int32} {M : mx_Mem} : mx_Met l G yX2_playerAt cX2_playerAt 2 ((some FieldType.int)) 0 0 [.ref 9, .int p] M (mx_F (some (.int (if 0 ≤ p ∧ ¬ 6 ≤ p then (if p = M.1 9 5 then M.1 9 4 else M.1 10 p.toNatClampNeg) else -1))) M) := by
  refine mx_enter (own := RX2) (L := [.ref 9, .int p]) (by decide +kernel) rfl rfl rfl ?_
  intro X hlX hX hR hT
  refine r_iload_n 1 hX dX2_playerAt_0 rfl ?_
  refine r_If_lt 4 10 hX dX2_playerAt_1 (fun c1 => ?_) (fun c1 => ?_)
  · refine r_iconst 11 hX dX2_playerAt_10 (v := -1) (by decide) ?_
    refine r_iret hX hT dX2_playerAt_11 ?_
    clear hT hX hR hlX
    exact ⟨by grind, rfl⟩
  · refine r_iload_n 5 hX dX2_playerAt_4 rfl ?_
    refine r_bipush 7 hX dX2_playerAt_5 (v := 6) (by decide) ?_
    refine r_Icmp_lt 10 12 hX dX2_playerAt_7 (fun c2 => ?_) (fun c2 => ?_)
    · refine r_iload_n 13 hX dX2_playerAt_12 rfl ?_
      refine r_aload_n 14 hX dX2_playerAt_13 rfl ?_
      refine r_getI 17 hX dX2_playerAt_14 fX2_28 rfl rfl rfl ?_
      refine r_icmp_ne 20 27 hX dX2_playerAt_17 (fun c3 => ?_) (fun c3 => ?_)
      · refine r_aload_n 28 hX dX2_playerAt_27 rfl ?_
        refine r_getR 31 hX dX2_playerAt_28 fX2_9 rfl rfl rfl ?_
        refine r_iload_n 32 hX dX2_playerAt_31 rfl ?_
        refine r_iald 33 hX dX2_playerAt_32 rfl rfl (by first | assumption | exact vpK rfl | exact vpP (by assumption) | exact vp6 (by assumption) (by assumption) | exact vp12 (by assumption) (by assumption) | exact vp48 (by assumption) (by assumption) | exact vp100 (by assumption) (by assumption)) ?_
        refine r_iret hX hT dX2_playerAt_33 ?_
        clear hT hX hR hlX
        exact ⟨by grind, rfl⟩
      · refine r_aload_n 21 hX dX2_playerAt_20 rfl ?_
        refine r_getI 24 hX dX2_playerAt_21 fX2_24 rfl rfl rfl ?_
        refine r_goto 33 hX dX2_playerAt_24 ?_
        refine r_iret hX hT dX2_playerAt_33 ?_
        clear hT hX hR hlX
        exact ⟨by grind, rfl⟩
    · refine r_iconst 11 hX dX2_playerAt_10 (v := -1) (by decide) ?_
      refine r_iret hX hT dX2_playerAt_11 ?_
      clear hT hX hR hlX
      exact ⟨by grind, rfl⟩
set_option maxRecDepth 100000 in
set_option maxHeartbeats 4000000 in
theorem tX2_freeStandsFor_9 {l : Launch} {G : mx_G} {M : mx_Mem} : mx_Met l G yX2_freeStandsFor cX2_freeStandsFor 1 ((some FieldType.int)) 0 0 [.ref 9] M (mx_F (some (.int (if 0 ≤ M.1 9 5 ∧ ¬ 6 ≤ M.1 9 5 then M.1 10 (M.1 9 5).toNatClampNeg else -1))) M) := by
  refine mx_enter (own := RX2) (L := [.ref 9]) (by decide +kernel) rfl rfl rfl ?_
  intro X hlX hX hR hT
  refine r_aload_n 1 hX dX2_freeStandsFor_0 rfl ?_
  refine r_getI 4 hX dX2_freeStandsFor_1 fX2_28 rfl rfl rfl ?_
  refine r_If_lt 7 28 hX dX2_freeStandsFor_4 (fun c1 => ?_) (fun c1 => ?_)
  · refine r_iconst 29 hX dX2_freeStandsFor_28 (v := -1) (by decide) ?_
    refine r_iret hX hT dX2_freeStandsFor_29 ?_
    exact ⟨by simp [*], rfl⟩
  · refine r_aload_n 8 hX dX2_freeStandsFor_7 rfl ?_
    refine r_getI 11 hX dX2_freeStandsFor_8 fX2_28 rfl rfl rfl ?_
    refine r_bipush 13 hX dX2_freeStandsFor_11 (v := 6) (by decide) ?_
    refine r_icmp_ge 16 28 hX dX2_freeStandsFor_13 (fun c2 => ?_) (fun c2 => ?_)
    · refine r_iconst 29 hX dX2_freeStandsFor_28 (v := -1) (by decide) ?_
      refine r_iret hX hT dX2_freeStandsFor_29 ?_
      exact ⟨by simp [*], rfl⟩
    · refine r_aload_n 17 hX dX2_freeStandsFor_16 rfl ?_
      refine r_getR 20 hX dX2_freeStandsFor_17 fX2_9 rfl rfl rfl ?_
      refine r_aload_n 21 hX dX2_freeStandsFor_20 rfl ?_
      refine r_getI 24 hX dX2_freeStandsFor_21 fX2_28 rfl rfl rfl ?_
      refine r_iald 25 hX dX2_freeStandsFor_24 rfl rfl (by first | assumption | exact vpK rfl | exact vpP (by assumption) | exact vp6 (by assumption) (by assumption) | exact vp12 (by assumption) (by assumption) | exact vp48 (by assumption) (by assumption) | exact vp100 (by assumption) (by assumption)) ?_
      refine r_goto 29 hX dX2_freeStandsFor_25 ?_
      refine r_iret hX hT dX2_freeStandsFor_29 ?_
      exact ⟨by simp [*], rfl⟩
set_option maxRecDepth 100000 in
set_option maxHeartbeats 4000000 in
theorem tX2_turnOn_9 {l : Launch} {G : mx_G} {M : mx_Mem} : mx_Met l G yX2_turnOn cX2_turnOn 3 (none) 0 0 [.ref 9] M (mx_F none (tnM M 9)) := by
  refine mx_enter (own := RX2) (L := [.ref 9, .null, .null]) (by decide +kernel) rfl rfl rfl ?_
  intro X hlX hX hR hT
  refine r_aload_n 1 hX dX2_turnOn_0 rfl ?_
  refine r_getR 4 hX dX2_turnOn_1 fX2_9 rfl rfl rfl ?_
  refine r_iconst 5 hX dX2_turnOn_4 (v := 0) (by decide) ?_
  refine r_ialdK 6 hX dX2_turnOn_5 rfl rfl (vpK rfl) (j := 0) (by decide) ?_
  refine r_istore_n 7 hX dX2_turnOn_6 rfl ?_
  refine r_iconst 8 hX dX2_turnOn_7 (v := 1) (by decide) ?_
  refine r_istore_n 9 hX dX2_turnOn_8 rfl ?_
  refine r_iload_n 10 hX dX2_turnOn_9 rfl ?_
  refine r_bipush 12 hX dX2_turnOn_10 (v := 6) (by decide) ?_
  refine r_icmp_ge 15 35 hX dX2_turnOn_12 (fun c => absurd c (by decide)) (fun _ => ?_)
  refine r_aload_n 16 hX dX2_turnOn_15 rfl ?_
  refine r_getR 19 hX dX2_turnOn_16 fX2_9 rfl rfl rfl ?_
  refine r_iload_n 20 hX dX2_turnOn_19 rfl ?_
  refine r_iconst 21 hX dX2_turnOn_20 (v := 1) (by decide) ?_
  refine r_isubK 22 hX dX2_turnOn_21 (w := 0) (by decide) ?_
  refine r_aload_n 23 hX dX2_turnOn_22 rfl ?_
  refine r_getR 26 hX dX2_turnOn_23 fX2_9 rfl rfl rfl ?_
  refine r_iload_n 27 hX dX2_turnOn_26 rfl ?_
  refine r_ialdK 28 hX dX2_turnOn_27 rfl rfl (vpK rfl) (j := 1) (by decide) ?_
  refine r_iastK 29 hX dX2_turnOn_28 rfl rfl (vpK rfl) (j := 0) (by decide) ?_
  refine r_iincK 32 hX dX2_turnOn_29 rfl (w := 2) (by decide) rfl ?_
  refine (show mx_WW G X 32 [_, _, _] _ _ from ?_)
  refine r_goto 9 hX dX2_turnOn_32 ?_
  refine r_iload_n 10 hX dX2_turnOn_9 rfl ?_
  refine r_bipush 12 hX dX2_turnOn_10 (v := 6) (by decide) ?_
  refine r_icmp_ge 15 35 hX dX2_turnOn_12 (fun c => absurd c (by decide)) (fun _ => ?_)
  refine r_aload_n 16 hX dX2_turnOn_15 rfl ?_
  refine r_getR 19 hX dX2_turnOn_16 fX2_9 rfl rfl rfl ?_
  refine r_iload_n 20 hX dX2_turnOn_19 rfl ?_
  refine r_iconst 21 hX dX2_turnOn_20 (v := 1) (by decide) ?_
  refine r_isubK 22 hX dX2_turnOn_21 (w := 1) (by decide) ?_
  refine r_aload_n 23 hX dX2_turnOn_22 rfl ?_
  refine r_getR 26 hX dX2_turnOn_23 fX2_9 rfl rfl rfl ?_
  refine r_iload_n 27 hX dX2_turnOn_26 rfl ?_
  refine r_ialdK 28 hX dX2_turnOn_27 rfl rfl (vpK rfl) (j := 2) (by decide) ?_
  refine r_iastK 29 hX dX2_turnOn_28 rfl rfl (vpK rfl) (j := 1) (by decide) ?_
  refine r_iincK 32 hX dX2_turnOn_29 rfl (w := 3) (by decide) rfl ?_
  refine r_goto 9 hX dX2_turnOn_32 ?_
  refine r_iload_n 10 hX dX2_turnOn_9 rfl ?_
  refine r_bipush 12 hX dX2_turnOn_10 (v := 6) (by decide) ?_
  refine r_icmp_ge 15 35 hX dX2_turnOn_12 (fun c => absurd c (by decide)) (fun _ => ?_)
  refine r_aload_n 16 hX dX2_turnOn_15 rfl ?_
  refine r_getR 19 hX dX2_turnOn_16 fX2_9 rfl rfl rfl ?_
  refine r_iload_n 20 hX dX2_turnOn_19 rfl ?_
  refine r_iconst 21 hX dX2_turnOn_20 (v := 1) (by decide) ?_
  refine r_isubK 22 hX dX2_turnOn_21 (w := 2) (by decide) ?_
  refine r_aload_n 23 hX dX2_turnOn_22 rfl ?_
  refine r_getR 26 hX dX2_turnOn_23 fX2_9 rfl rfl rfl ?_
  refine r_iload_n 27 hX dX2_turnOn_26 rfl ?_
  refine r_ialdK 28 hX dX2_turnOn_27 rfl rfl (vpK rfl) (j := 3) (by decide) ?_
  refine r_iastK 29 hX dX2_turnOn_28 rfl rfl (vpK rfl) (j := 2) (by decide) ?_
  refine r_iincK 32 hX dX2_turnOn_29 rfl (w := 4) (by decide) rfl ?_
  refine r_goto 9 hX dX2_turnOn_32 ?_
  refine r_iload_n 10 hX dX2_turnOn_9 rfl ?_
  refine r_bipush 12 hX dX2_turnOn_10 (v := 6) (by decide) ?_
  refine r_icmp_ge 15 35 hX dX2_turnOn_12 (fun c => absurd c (by decide)) (fun _ => ?_)
  refine r_aload_n 16 hX dX2_turnOn_15 rfl ?_
  refine r_getR 19 hX dX2_turnOn_16 fX2_9 rfl rfl rfl ?_
  refine r_iload_n 20 hX dX2_turnOn_19 rfl ?_
  refine r_iconst 21 hX dX2_turnOn_20 (v := 1) (by decide) ?_
  refine r_isubK 22 hX dX2_turnOn_21 (w := 3) (by decide) ?_
  refine r_aload_n 23 hX dX2_turnOn_22 rfl ?_
  refine r_getR 26 hX dX2_turnOn_23 fX2_9 rfl rfl rfl ?_
  refine r_iload_n 27 hX dX2_turnOn_26 rfl ?_
  refine r_ialdK 28 hX dX2_turnOn_27 rfl rfl (vpK rfl) (j := 4) (by decide) ?_
  refine r_iastK 29 hX dX2_turnOn_28 rfl rfl (vpK rfl) (j := 3) (by decide) ?_
  refine r_iincK 32 hX dX2_turnOn_29 rfl (w := 5) (by decide) rfl ?_
  refine (show mx_WW G X 32 [_, _, _] _ _ from ?_)
  refine r_goto 9 hX dX2_turnOn_32 ?_
  refine r_iload_n 10 hX dX2_turnOn_9 rfl ?_
  refine r_bipush 12 hX dX2_turnOn_10 (v := 6) (by decide) ?_
  refine r_icmp_ge 15 35 hX dX2_turnOn_12 (fun c => absurd c (by decide)) (fun _ => ?_)
  refine r_aload_n 16 hX dX2_turnOn_15 rfl ?_
  refine r_getR 19 hX dX2_turnOn_16 fX2_9 rfl rfl rfl ?_
  refine r_iload_n 20 hX dX2_turnOn_19 rfl ?_
  refine r_iconst 21 hX dX2_turnOn_20 (v := 1) (by decide) ?_
  refine r_isubK 22 hX dX2_turnOn_21 (w := 4) (by decide) ?_
  refine r_aload_n 23 hX dX2_turnOn_22 rfl ?_
  refine r_getR 26 hX dX2_turnOn_23 fX2_9 rfl rfl rfl ?_
  refine r_iload_n 27 hX dX2_turnOn_26 rfl ?_
  refine r_ialdK 28 hX dX2_turnOn_27 rfl rfl (vpK rfl) (j := 5) (by decide) ?_
  refine r_iastK 29 hX dX2_turnOn_28 rfl rfl (vpK rfl) (j := 4) (by decide) ?_
  refine r_iincK 32 hX dX2_turnOn_29 rfl (w := 6) (by decide) rfl ?_
  refine r_goto 9 hX dX2_turnOn_32 ?_
  refine r_iload_n 10 hX dX2_turnOn_9 rfl ?_
  refine r_bipush 12 hX dX2_turnOn_10 (v := 6) (by decide) ?_
  refine r_icmp_ge 15 35 hX dX2_turnOn_12 (fun _ => ?_) (fun c => absurd c (by decide))
  refine r_aload_n 36 hX dX2_turnOn_35 rfl ?_
  refine r_getR 39 hX dX2_turnOn_36 fX2_9 rfl rfl rfl ?_
  refine r_iconst 40 hX dX2_turnOn_39 (v := 5) (by decide) ?_
  refine r_iload_n 41 hX dX2_turnOn_40 rfl ?_
  refine r_iastK 42 hX dX2_turnOn_41 rfl rfl (vpK rfl) (j := 5) (by decide) ?_
  refine r_aload_n 43 hX dX2_turnOn_42 rfl ?_
  refine r_dup 44 hX dX2_turnOn_43 rfl ?_
  refine r_getI 47 hX dX2_turnOn_44 fX2_47 rfl rfl rfl ?_
  refine r_iconst 48 hX dX2_turnOn_47 (v := 1) (by decide) ?_
  refine r_iadd 49 hX dX2_turnOn_48 ?_
  refine r_putI 52 hX dX2_turnOn_49 fX2_47 fp2_11 rfl rfl rfl ?_
  refine r_aload_n 53 hX dX2_turnOn_52 rfl ?_
  refine r_getI 56 hX dX2_turnOn_53 fX2_28 rfl rfl rfl ?_
  refine r_iconst 57 hX dX2_turnOn_56 (v := -1) (by decide) ?_
  refine r_icmp_eq 60 84 hX dX2_turnOn_57 (fun c1 => ?_) (fun c1 => ?_)
  · refine r_vret hX hT dX2_turnOn_84 ?_
    refine ⟨rfl, ?_⟩
    have e1 : M.1 9 5 = (mI (tnO M 9) 9 11 (M.1 9 11 + 1)).1 9 5 := rfl
    unfold tnM
    first | (rw [if_pos (e1.trans c1)]; rfl) | (rw [if_neg (fun h => c1 (e1.symm.trans h))]; first | (rw [if_pos (show M.1 9 5 - 1 = 3 from c2)]; rfl) | (rw [if_neg (show ¬ M.1 9 5 - 1 = 3 from c2)]; rfl))
  · refine r_aload_n 61 hX dX2_turnOn_60 rfl ?_
    refine r_aload_n 62 hX dX2_turnOn_61 rfl ?_
    refine r_getI 65 hX dX2_turnOn_62 fX2_28 rfl rfl rfl ?_
    refine r_iconst 66 hX dX2_turnOn_65 (v := 1) (by decide) ?_
    refine r_isub 67 hX dX2_turnOn_66 ?_
    refine r_iconst 68 hX dX2_turnOn_67 (v := 3) (by decide) ?_
    refine r_icmp_ne 71 75 hX dX2_turnOn_68 (fun c2 => ?_) (fun c2 => ?_)
    · refine r_aload_n 76 hX dX2_turnOn_75 rfl ?_
      refine r_getI 79 hX dX2_turnOn_76 fX2_28 rfl rfl rfl ?_
      refine r_iconst 80 hX dX2_turnOn_79 (v := 1) (by decide) ?_
      refine r_isub 81 hX dX2_turnOn_80 ?_
      refine r_putI 84 hX dX2_turnOn_81 fX2_28 fp2_5 rfl rfl rfl ?_
      refine r_vret hX hT dX2_turnOn_84 ?_
      refine ⟨rfl, ?_⟩
      have e1 : M.1 9 5 = (mI (tnO M 9) 9 11 (M.1 9 11 + 1)).1 9 5 := rfl
      unfold tnM
      first | (rw [if_pos (e1.trans c1)]; rfl) | (rw [if_neg (fun h => c1 (e1.symm.trans h))]; first | (rw [if_pos (show M.1 9 5 - 1 = 3 from c2)]; rfl) | (rw [if_neg (show ¬ M.1 9 5 - 1 = 3 from c2)]; rfl))
    · refine r_iconst 72 hX dX2_turnOn_71 (v := -1) (by decide) ?_
      refine r_goto 81 hX dX2_turnOn_72 ?_
      refine r_putI 84 hX dX2_turnOn_81 fX2_28 fp2_5 rfl rfl rfl ?_
      refine r_vret hX hT dX2_turnOn_84 ?_
      refine ⟨rfl, ?_⟩
      have e1 : M.1 9 5 = (mI (tnO M 9) 9 11 (M.1 9 11 + 1)).1 9 5 := rfl
      unfold tnM
      first | (rw [if_pos (e1.trans c1)]; rfl) | (rw [if_neg (fun h => c1 (e1.symm.trans h))]; first | (rw [if_pos (show M.1 9 5 - 1 = 3 from c2)]; rfl) | (rw [if_neg (show ¬ M.1 9 5 - 1 = 3 from c2)]; rfl))
set_option maxRecDepth 100000 in
set_option maxHeartbeats 4000000 in
theorem tX2_countServe_9 {l : Launch} {G : mx_G} {M : mx_Mem} (hp : isP (M.1 10 0)) : mx_Met l G yX2_countServe cX2_countServe 2 (none) 1 20 [.ref 9] M (mx_F none (mI M 13 (M.1 10 0).toNatClampNeg (M.1 13 (M.1 10 0).toNatClampNeg + 1))) := by
  refine mx_enter (own := RX2) (L := [.ref 9, .null]) (by decide +kernel) rfl rfl rfl ?_
  intro X hlX hX hR hT
  refine r_aload_n 1 hX dX2_countServe_0 rfl ?_
  refine r_getR 4 hX dX2_countServe_1 fX2_9 rfl rfl rfl ?_
  refine r_iconst 5 hX dX2_countServe_4 (v := 0) (by decide) ?_
  refine r_ialdK 6 hX dX2_countServe_5 rfl rfl (vpK rfl) (j := 0) (by decide) ?_
  refine r_istore_n 7 hX dX2_countServe_6 rfl ?_
  refine r_iload_n 8 hX dX2_countServe_7 rfl ?_
  refine r_cN1F 11 hX hR tX7_isPlayer dX2_countServe_8 kX7_isPlayer lX2_55 rfl rfl rfl ?_
  refine r_Beq 14 24 hX dX2_countServe_11 (fun c1 => absurd hp c1) (fun c1 => ?_)
  refine r_aload_n 15 hX dX2_countServe_14 rfl ?_
  refine r_getR 18 hX dX2_countServe_15 fX2_21 rfl rfl rfl ?_
  refine r_iload_n 19 hX dX2_countServe_18 rfl ?_
  refine r_dup2 20 hX dX2_countServe_19 rfl rfl ?_
  refine r_iald 21 hX dX2_countServe_20 rfl rfl (by first | assumption | exact vpK rfl | exact vpP (by assumption) | exact vp6 (by assumption) (by assumption) | exact vp12 (by assumption) (by assumption) | exact vp48 (by assumption) (by assumption) | exact vp100 (by assumption) (by assumption)) ?_
  refine r_iconst 22 hX dX2_countServe_21 (v := 1) (by decide) ?_
  refine r_iadd 23 hX dX2_countServe_22 ?_
  refine r_iast 24 hX dX2_countServe_23 rfl rfl (by first | assumption | exact vpK rfl | exact vpP (by assumption) | exact vp6 (by assumption) (by assumption) | exact vp12 (by assumption) (by assumption) | exact vp48 (by assumption) (by assumption) | exact vp100 (by assumption) (by assumption)) ?_
  refine r_vret hX hT dX2_countServe_24 ?_
  exact ⟨rfl, rfl⟩
set_option maxRecDepth 100000 in
set_option maxHeartbeats 4000000 in
theorem tX2_mayLeave_9 {l : Launch} {G : mx_G} {p : Int32} {M : mx_Mem} : mx_Met l G yX2_mayLeave cX2_mayLeave 3 ((some FieldType.boolean)) 1 22 [.ref 9, .int p] M (mx_F (some (.int (bI (¬ plc (M.1 10) p = -1 ∧ ¬ plc (M.1 10) p = M.1 9 5)))) M) := by
  refine mx_enter (own := RX2) (L := [.ref 9, .int p, .null]) (by decide +kernel) rfl rfl rfl ?_
  intro X hlX hX hR hT
  refine r_aload_n 1 hX dX2_mayLeave_0 rfl ?_
  refine r_iload_n 2 hX dX2_mayLeave_1 rfl ?_
  refine r_cV1F 5 hX hR tX2_placeOf_9 dX2_mayLeave_2 kX2_placeOf lX2_66 rfl rfl rfl rfl rfl rfl ?_
  refine r_istore_n 6 hX dX2_mayLeave_5 rfl ?_
  refine r_iload_n 7 hX dX2_mayLeave_6 rfl ?_
  refine r_iconst 8 hX dX2_mayLeave_7 (v := -1) (by decide) ?_
  refine r_icmp_eq 11 23 hX dX2_mayLeave_8 (fun c1 => ?_) (fun c1 => ?_)
  · refine r_iconst 24 hX dX2_mayLeave_23 (v := 0) (by decide) ?_
    refine r_zret hX hT dX2_mayLeave_24 (by first | assumption | decide) ?_
    exact ⟨by simp [*, bI], rfl⟩
  · refine r_iload_n 12 hX dX2_mayLeave_11 rfl ?_
    refine r_aload_n 13 hX dX2_mayLeave_12 rfl ?_
    refine r_getI 16 hX dX2_mayLeave_13 fX2_28 rfl rfl rfl ?_
    refine r_icmp_eq 19 23 hX dX2_mayLeave_16 (fun c2 => ?_) (fun c2 => ?_)
    · refine r_iconst 24 hX dX2_mayLeave_23 (v := 0) (by decide) ?_
      refine r_zret hX hT dX2_mayLeave_24 (by first | assumption | decide) ?_
      exact ⟨by simp [*, bI], rfl⟩
    · refine r_iconst 20 hX dX2_mayLeave_19 (v := 1) (by decide) ?_
      refine r_goto 24 hX dX2_mayLeave_20 ?_
      refine r_zret hX hT dX2_mayLeave_24 (by first | assumption | decide) ?_
      exact ⟨by simp [*, bI], rfl⟩
set_option maxRecDepth 100000 in
set_option maxHeartbeats 4000000 in
theorem tX2_mayEnter_9 {l : Launch} {G : mx_G} {p : Int32} {M : mx_Mem} : mx_Met l G yX2_mayEnter cX2_mayEnter 2 ((some FieldType.boolean)) 1 22 [.ref 9, .int p] M (mx_F (some (.int (bI (plc (M.1 10) p = -1 ∧ ¬ p = M.1 9 4)))) M) := by
  refine mx_enter (own := RX2) (L := [.ref 9, .int p]) (by decide +kernel) rfl rfl rfl ?_
  intro X hlX hX hR hT
  refine r_aload_n 1 hX dX2_mayEnter_0 rfl ?_
  refine r_iload_n 2 hX dX2_mayEnter_1 rfl ?_
  refine r_cV1F 5 hX hR tX2_placeOf_9 dX2_mayEnter_2 kX2_placeOf lX2_66 rfl rfl rfl rfl rfl rfl ?_
  refine r_iconst 6 hX dX2_mayEnter_5 (v := -1) (by decide) ?_
  refine r_icmp_ne 9 21 hX dX2_mayEnter_6 (fun c1 => ?_) (fun c1 => ?_)
  · refine r_iconst 22 hX dX2_mayEnter_21 (v := 0) (by decide) ?_
    refine r_zret hX hT dX2_mayEnter_22 (by first | assumption | decide) ?_
    exact ⟨by simp [*, bI], rfl⟩
  · refine r_iload_n 10 hX dX2_mayEnter_9 rfl ?_
    refine r_aload_n 11 hX dX2_mayEnter_10 rfl ?_
    refine r_getI 14 hX dX2_mayEnter_11 fX2_24 rfl rfl rfl ?_
    refine r_icmp_eq 17 21 hX dX2_mayEnter_14 (fun c2 => ?_) (fun c2 => ?_)
    · refine r_iconst 22 hX dX2_mayEnter_21 (v := 0) (by decide) ?_
      refine r_zret hX hT dX2_mayEnter_22 (by first | assumption | decide) ?_
      exact ⟨by simp [*, bI], rfl⟩
    · refine r_iconst 18 hX dX2_mayEnter_17 (v := 1) (by decide) ?_
      refine r_goto 22 hX dX2_mayEnter_18 ?_
      refine r_zret hX hT dX2_mayEnter_22 (by first | assumption | decide) ?_
      exact ⟨by simp [*, bI], rfl⟩
set_option maxRecDepth 100000 in
set_option maxHeartbeats 4000000 in
theorem tX2_arePair_9 {l : Launch} {G : mx_G} {a b : Int32} {M : mx_Mem} : mx_Met l G yX2_arePair cX2_arePair 3 ((some FieldType.boolean)) 1 20 [.ref 9, .int a, .int b] M (mx_F (some (.int (bI (arP M 9 a b = 1)))) M) := by
  refine mx_enter (own := RX2) (L := [.ref 9, .int a, .int b]) (by decide +kernel) rfl rfl rfl ?_
  intro X hlX hX hR hT
  refine r_iload_n 1 hX dX2_arePair_0 rfl ?_
  refine r_cN1F 4 hX hR tX7_isPlayer dX2_arePair_1 kX7_isPlayer lX2_55 rfl rfl rfl ?_
  refine r_Beq 7 14 hX dX2_arePair_4 (fun c1 => ?_) (fun c1 => ?_)
  · refine r_iconst 15 hX dX2_arePair_14 (v := 0) (by decide) ?_
    refine r_zret hX hT dX2_arePair_15 (by first | assumption | decide) ?_
    exact ⟨by simp [*, arP, bI], rfl⟩
  · refine r_iload_n 8 hX dX2_arePair_7 rfl ?_
    refine r_cN1F 11 hX hR tX7_isPlayer dX2_arePair_8 kX7_isPlayer lX2_55 rfl rfl rfl ?_
    refine r_Bne 14 16 hX dX2_arePair_11 (fun c2 => ?_) (fun c2 => ?_)
    · refine r_aload_n 17 hX dX2_arePair_16 rfl ?_
      refine r_getR 20 hX dX2_arePair_17 fX2_15 rfl rfl rfl ?_
      refine r_iload_n 21 hX dX2_arePair_20 rfl ?_
      refine r_iald 22 hX dX2_arePair_21 rfl rfl (by first | assumption | exact vpK rfl | exact vpP (by assumption) | exact vp6 (by assumption) (by assumption) | exact vp12 (by assumption) (by assumption) | exact vp48 (by assumption) (by assumption) | exact vp100 (by assumption) (by assumption)) ?_
      refine r_iconst 23 hX dX2_arePair_22 (v := 1) (by decide) ?_
      refine r_icmp_ne 26 41 hX dX2_arePair_23 (fun c3 => ?_) (fun c3 => ?_)
      · refine r_aload_n 42 hX dX2_arePair_41 rfl ?_
        refine r_getR 45 hX dX2_arePair_42 fX2_15 rfl rfl rfl ?_
        refine r_iload_n 46 hX dX2_arePair_45 rfl ?_
        refine r_iald 47 hX dX2_arePair_46 rfl rfl (by first | assumption | exact vpK rfl | exact vpP (by assumption) | exact vp6 (by assumption) (by assumption) | exact vp12 (by assumption) (by assumption) | exact vp48 (by assumption) (by assumption) | exact vp100 (by assumption) (by assumption)) ?_
        refine r_iconst 48 hX dX2_arePair_47 (v := 3) (by decide) ?_
        refine r_icmp_ne 51 65 hX dX2_arePair_48 (fun c4 => ?_) (fun c4 => ?_)
        · refine r_iconst 66 hX dX2_arePair_65 (v := 0) (by decide) ?_
          refine r_zret hX hT dX2_arePair_66 (by first | assumption | decide) ?_
          exact ⟨by simp [*, arP, bI], rfl⟩
        · refine r_aload_n 52 hX dX2_arePair_51 rfl ?_
          refine r_getR 55 hX dX2_arePair_52 fX2_18 rfl rfl rfl ?_
          refine r_iload_n 56 hX dX2_arePair_55 rfl ?_
          refine r_iald 57 hX dX2_arePair_56 rfl rfl (by first | assumption | exact vpK rfl | exact vpP (by assumption) | exact vp6 (by assumption) (by assumption) | exact vp12 (by assumption) (by assumption) | exact vp48 (by assumption) (by assumption) | exact vp100 (by assumption) (by assumption)) ?_
          refine r_iload_n 58 hX dX2_arePair_57 rfl ?_
          refine r_icmp_ne 61 65 hX dX2_arePair_58 (fun c5 => ?_) (fun c5 => ?_)
          · refine r_iconst 66 hX dX2_arePair_65 (v := 0) (by decide) ?_
            refine r_zret hX hT dX2_arePair_66 (by first | assumption | decide) ?_
            exact ⟨by simp [*, arP, bI], rfl⟩
          · refine r_iconst 62 hX dX2_arePair_61 (v := 1) (by decide) ?_
            refine r_goto 66 hX dX2_arePair_62 ?_
            refine r_zret hX hT dX2_arePair_66 (by first | assumption | decide) ?_
            exact ⟨by simp [*, arP, bI], rfl⟩
      · refine r_aload_n 27 hX dX2_arePair_26 rfl ?_
        refine r_getR 30 hX dX2_arePair_27 fX2_15 rfl rfl rfl ?_
        refine r_iload_n 31 hX dX2_arePair_30 rfl ?_
        refine r_iald 32 hX dX2_arePair_31 rfl rfl (by first | assumption | exact vpK rfl | exact vpP (by assumption) | exact vp6 (by assumption) (by assumption) | exact vp12 (by assumption) (by assumption) | exact vp48 (by assumption) (by assumption) | exact vp100 (by assumption) (by assumption)) ?_
        refine r_if_ne 35 39 hX dX2_arePair_32 (fun c6 => ?_) (fun c6 => ?_)
        · refine r_iconst 40 hX dX2_arePair_39 (v := 0) (by decide) ?_
          refine r_zret hX hT dX2_arePair_40 (by first | assumption | decide) ?_
          exact ⟨by simp [*, arP, bI], rfl⟩
        · refine r_iconst 36 hX dX2_arePair_35 (v := 1) (by decide) ?_
          refine r_goto 40 hX dX2_arePair_36 ?_
          refine r_zret hX hT dX2_arePair_40 (by first | assumption | decide) ?_
          exact ⟨by simp [*, arP, bI], rfl⟩
    · refine r_iconst 15 hX dX2_arePair_14 (v := 0) (by decide) ?_
      refine r_zret hX hT dX2_arePair_15 (by first | assumption | decide) ?_
      exact ⟨by simp [*, arP, bI], rfl⟩
set_option maxRecDepth 100000 in
set_option maxHeartbeats 4000000 in
theorem tX2_placeOf_14 {l : Launch} {G : mx_G} {p : Int32} {M : mx_Mem} : mx_Met l G yX2_placeOf cX2_placeOf 3 ((some FieldType.int)) 0 0 [.ref 14, .int p] M (mx_F (some (.int (plc (M.1 15) p))) M) := by
  refine mx_enter (own := RX2) (L := [.ref 14, .int p, .null]) (by decide +kernel) rfl rfl rfl ?_
  intro X hlX hX hR hT
  refine r_iconst 1 hX dX2_placeOf_0 (v := 0) (by decide) ?_
  refine r_istore_n 2 hX dX2_placeOf_1 rfl ?_
  refine r_iload_n 3 hX dX2_placeOf_2 rfl ?_
  refine r_bipush 5 hX dX2_placeOf_3 (v := 6) (by decide) ?_
  refine r_icmp_ge 8 26 hX dX2_placeOf_5 (fun c => absurd c (by decide)) (fun _ => ?_)
  refine r_aload_n 9 hX dX2_placeOf_8 rfl ?_
  refine r_getR 12 hX dX2_placeOf_9 fX2_9 rfl rfl rfl ?_
  refine r_iload_n 13 hX dX2_placeOf_12 rfl ?_
  refine r_ialdK 14 hX dX2_placeOf_13 rfl rfl (vpK rfl) (j := 0) (by decide) ?_
  refine r_iload_n 15 hX dX2_placeOf_14 rfl ?_
  refine r_icmp_ne 18 20 hX dX2_placeOf_15 (fun c1 => ?_) (fun c1 => ?_)
  · refine r_iincK 23 hX dX2_placeOf_20 rfl (w := 1) (by decide) rfl ?_
    refine r_goto 2 hX dX2_placeOf_23 ?_
    refine r_iload_n 3 hX dX2_placeOf_2 rfl ?_
    refine r_bipush 5 hX dX2_placeOf_3 (v := 6) (by decide) ?_
    refine r_icmp_ge 8 26 hX dX2_placeOf_5 (fun c => absurd c (by decide)) (fun _ => ?_)
    refine r_aload_n 9 hX dX2_placeOf_8 rfl ?_
    refine r_getR 12 hX dX2_placeOf_9 fX2_9 rfl rfl rfl ?_
    refine r_iload_n 13 hX dX2_placeOf_12 rfl ?_
    refine r_ialdK 14 hX dX2_placeOf_13 rfl rfl (vpK rfl) (j := 1) (by decide) ?_
    refine r_iload_n 15 hX dX2_placeOf_14 rfl ?_
    refine r_icmp_ne 18 20 hX dX2_placeOf_15 (fun c2 => ?_) (fun c2 => ?_)
    · refine r_iincK 23 hX dX2_placeOf_20 rfl (w := 2) (by decide) rfl ?_
      refine (show mx_WW G X 23 [_, _, _] _ _ from ?_)
      refine r_goto 2 hX dX2_placeOf_23 ?_
      refine r_iload_n 3 hX dX2_placeOf_2 rfl ?_
      refine r_bipush 5 hX dX2_placeOf_3 (v := 6) (by decide) ?_
      refine r_icmp_ge 8 26 hX dX2_placeOf_5 (fun c => absurd c (by decide)) (fun _ => ?_)
      refine r_aload_n 9 hX dX2_placeOf_8 rfl ?_
      refine r_getR 12 hX dX2_placeOf_9 fX2_9 rfl rfl rfl ?_
      refine r_iload_n 13 hX dX2_placeOf_12 rfl ?_
      refine r_ialdK 14 hX dX2_placeOf_13 rfl rfl (vpK rfl) (j := 2) (by decide) ?_
      refine r_iload_n 15 hX dX2_placeOf_14 rfl ?_
      refine r_icmp_ne 18 20 hX dX2_placeOf_15 (fun c3 => ?_) (fun c3 => ?_)
      · refine r_iincK 23 hX dX2_placeOf_20 rfl (w := 3) (by decide) rfl ?_
        refine r_goto 2 hX dX2_placeOf_23 ?_
        refine r_iload_n 3 hX dX2_placeOf_2 rfl ?_
        refine r_bipush 5 hX dX2_placeOf_3 (v := 6) (by decide) ?_
        refine r_icmp_ge 8 26 hX dX2_placeOf_5 (fun c => absurd c (by decide)) (fun _ => ?_)
        refine r_aload_n 9 hX dX2_placeOf_8 rfl ?_
        refine r_getR 12 hX dX2_placeOf_9 fX2_9 rfl rfl rfl ?_
        refine r_iload_n 13 hX dX2_placeOf_12 rfl ?_
        refine r_ialdK 14 hX dX2_placeOf_13 rfl rfl (vpK rfl) (j := 3) (by decide) ?_
        refine r_iload_n 15 hX dX2_placeOf_14 rfl ?_
        refine r_icmp_ne 18 20 hX dX2_placeOf_15 (fun c4 => ?_) (fun c4 => ?_)
        · refine r_iincK 23 hX dX2_placeOf_20 rfl (w := 4) (by decide) rfl ?_
          refine r_goto 2 hX dX2_placeOf_23 ?_
          refine r_iload_n 3 hX dX2_placeOf_2 rfl ?_
          refine r_bipush 5 hX dX2_placeOf_3 (v := 6) (by decide) ?_
          refine r_icmp_ge 8 26 hX dX2_placeOf_5 (fun c => absurd c (by decide)) (fun _ => ?_)
          refine r_aload_n 9 hX dX2_placeOf_8 rfl ?_
          refine r_getR 12 hX dX2_placeOf_9 fX2_9 rfl rfl rfl ?_
          refine r_iload_n 13 hX dX2_placeOf_12 rfl ?_
          refine r_ialdK 14 hX dX2_placeOf_13 rfl rfl (vpK rfl) (j := 4) (by decide) ?_
          refine r_iload_n 15 hX dX2_placeOf_14 rfl ?_
          refine r_icmp_ne 18 20 hX dX2_placeOf_15 (fun c5 => ?_) (fun c5 => ?_)
          · refine r_iincK 23 hX dX2_placeOf_20 rfl (w := 5) (by decide) rfl ?_
            refine (show mx_WW G X 23 [_, _, _] _ _ from ?_)
            refine r_goto 2 hX dX2_placeOf_23 ?_
            refine r_iload_n 3 hX dX2_placeOf_2 rfl ?_
            refine r_bipush 5 hX dX2_placeOf_3 (v := 6) (by decide) ?_
            refine r_icmp_ge 8 26 hX dX2_placeOf_5 (fun c => absurd c (by decide)) (fun _ => ?_)
            refine r_aload_n 9 hX dX2_placeOf_8 rfl ?_
            refine r_getR 12 hX dX2_placeOf_9 fX2_9 rfl rfl rfl ?_
            refine r_iload_n 13 hX dX2_placeOf_12 rfl ?_
            refine r_ialdK 14 hX dX2_placeOf_13 rfl rfl (vpK rfl) (j := 5) (by decide) ?_
            refine r_iload_n 15 hX dX2_placeOf_14 rfl ?_
            refine r_icmp_ne 18 20 hX dX2_placeOf_15 (fun c6 => ?_) (fun c6 => ?_)
            · refine r_iincK 23 hX dX2_placeOf_20 rfl (w := 6) (by decide) rfl ?_
              refine r_goto 2 hX dX2_placeOf_23 ?_
              refine r_iload_n 3 hX dX2_placeOf_2 rfl ?_
              refine r_bipush 5 hX dX2_placeOf_3 (v := 6) (by decide) ?_
              refine r_icmp_ge 8 26 hX dX2_placeOf_5 (fun _ => ?_) (fun c => absurd c (by decide))
              refine r_iconst 27 hX dX2_placeOf_26 (v := -1) (by decide) ?_
              refine r_iret hX hT dX2_placeOf_27 ?_
              exact ⟨by simp [*, plc], rfl⟩
            · refine r_iload_n 19 hX dX2_placeOf_18 rfl ?_
              refine r_iret hX hT dX2_placeOf_19 ?_
              exact ⟨by simp [*, plc], rfl⟩
          · refine r_iload_n 19 hX dX2_placeOf_18 rfl ?_
            refine r_iret hX hT dX2_placeOf_19 ?_
            exact ⟨by simp [*, plc], rfl⟩
        · refine r_iload_n 19 hX dX2_placeOf_18 rfl ?_
          refine r_iret hX hT dX2_placeOf_19 ?_
          exact ⟨by simp [*, plc], rfl⟩
      · refine r_iload_n 19 hX dX2_placeOf_18 rfl ?_
        refine r_iret hX hT dX2_placeOf_19 ?_
        exact ⟨by simp [*, plc], rfl⟩
    · refine r_iload_n 19 hX dX2_placeOf_18 rfl ?_
      refine r_iret hX hT dX2_placeOf_19 ?_
      exact ⟨by simp [*, plc], rfl⟩
  · refine r_iload_n 19 hX dX2_placeOf_18 rfl ?_
    refine r_iret hX hT dX2_placeOf_19 ?_
    exact ⟨by simp [*, plc], rfl⟩
set_option maxRecDepth 100000 in
set_option maxHeartbeats 4000000 in
theorem tX2_playerAt_14 {l : Launch} {G : mx_G} {p : Int32} {M : mx_Mem} : mx_Met l G yX2_playerAt cX2_playerAt 2 ((some FieldType.int)) 0 0 [.ref 14, .int p] M (mx_F (some (.int (if 0 ≤ p ∧ ¬ 6 ≤ p then (if p = M.1 14 5 then M.1 14 4 else M.1 15 p.toNatClampNeg) else -1))) M) := by
  refine mx_enter (own := RX2) (L := [.ref 14, .int p]) (by decide +kernel) rfl rfl rfl ?_
  intro X hlX hX hR hT
  refine r_iload_n 1 hX dX2_playerAt_0 rfl ?_
  refine r_If_lt 4 10 hX dX2_playerAt_1 (fun c1 => ?_) (fun c1 => ?_)
  · refine r_iconst 11 hX dX2_playerAt_10 (v := -1) (by decide) ?_
    refine r_iret hX hT dX2_playerAt_11 ?_
    clear hT hX hR hlX
    exact ⟨by grind, rfl⟩
  · refine r_iload_n 5 hX dX2_playerAt_4 rfl ?_
    refine r_bipush 7 hX dX2_playerAt_5 (v := 6) (by decide) ?_
    refine r_Icmp_lt 10 12 hX dX2_playerAt_7 (fun c2 => ?_) (fun c2 => ?_)
    · refine r_iload_n 13 hX dX2_playerAt_12 rfl ?_
      refine r_aload_n 14 hX dX2_playerAt_13 rfl ?_
      refine r_getI 17 hX dX2_playerAt_14 fX2_28 rfl rfl rfl ?_
      refine r_icmp_ne 20 27 hX dX2_playerAt_17 (fun c3 => ?_) (fun c3 => ?_)
      · refine r_aload_n 28 hX dX2_playerAt_27 rfl ?_
        refine r_getR 31 hX dX2_playerAt_28 fX2_9 rfl rfl rfl ?_
        refine r_iload_n 32 hX dX2_playerAt_31 rfl ?_
        refine r_iald 33 hX dX2_playerAt_32 rfl rfl (by first | assumption | exact vpK rfl | exact vpP (by assumption) | exact vp6 (by assumption) (by assumption) | exact vp12 (by assumption) (by assumption) | exact vp48 (by assumption) (by assumption) | exact vp100 (by assumption) (by assumption)) ?_
        refine r_iret hX hT dX2_playerAt_33 ?_
        clear hT hX hR hlX
        exact ⟨by grind, rfl⟩
      · refine r_aload_n 21 hX dX2_playerAt_20 rfl ?_
        refine r_getI 24 hX dX2_playerAt_21 fX2_24 rfl rfl rfl ?_
        refine r_goto 33 hX dX2_playerAt_24 ?_
        refine r_iret hX hT dX2_playerAt_33 ?_
        clear hT hX hR hlX
        exact ⟨by grind, rfl⟩
    · refine r_iconst 11 hX dX2_playerAt_10 (v := -1) (by decide) ?_
      refine r_iret hX hT dX2_playerAt_11 ?_
      clear hT hX hR hlX
      exact ⟨by grind, rfl⟩
set_option maxRecDepth 100000 in
set_option maxHeartbeats 4000000 in
theorem tX2_freeStandsFor_14 {l : Launch} {G : mx_G} {M : mx_Mem} : mx_Met l G yX2_freeStandsFor cX2_freeStandsFor 1 ((some FieldType.int)) 0 0 [.ref 14] M (mx_F (some (.int (if 0 ≤ M.1 14 5 ∧ ¬ 6 ≤ M.1 14 5 then M.1 15 (M.1 14 5).toNatClampNeg else -1))) M) := by
  refine mx_enter (own := RX2) (L := [.ref 14]) (by decide +kernel) rfl rfl rfl ?_
  intro X hlX hX hR hT
  refine r_aload_n 1 hX dX2_freeStandsFor_0 rfl ?_
  refine r_getI 4 hX dX2_freeStandsFor_1 fX2_28 rfl rfl rfl ?_
  refine r_If_lt 7 28 hX dX2_freeStandsFor_4 (fun c1 => ?_) (fun c1 => ?_)
  · refine r_iconst 29 hX dX2_freeStandsFor_28 (v := -1) (by decide) ?_
    refine r_iret hX hT dX2_freeStandsFor_29 ?_
    exact ⟨by simp [*], rfl⟩
  · refine r_aload_n 8 hX dX2_freeStandsFor_7 rfl ?_
    refine r_getI 11 hX dX2_freeStandsFor_8 fX2_28 rfl rfl rfl ?_
    refine r_bipush 13 hX dX2_freeStandsFor_11 (v := 6) (by decide) ?_
    refine r_icmp_ge 16 28 hX dX2_freeStandsFor_13 (fun c2 => ?_) (fun c2 => ?_)
    · refine r_iconst 29 hX dX2_freeStandsFor_28 (v := -1) (by decide) ?_
      refine r_iret hX hT dX2_freeStandsFor_29 ?_
      exact ⟨by simp [*], rfl⟩
    · refine r_aload_n 17 hX dX2_freeStandsFor_16 rfl ?_
      refine r_getR 20 hX dX2_freeStandsFor_17 fX2_9 rfl rfl rfl ?_
      refine r_aload_n 21 hX dX2_freeStandsFor_20 rfl ?_
      refine r_getI 24 hX dX2_freeStandsFor_21 fX2_28 rfl rfl rfl ?_
      refine r_iald 25 hX dX2_freeStandsFor_24 rfl rfl (by first | assumption | exact vpK rfl | exact vpP (by assumption) | exact vp6 (by assumption) (by assumption) | exact vp12 (by assumption) (by assumption) | exact vp48 (by assumption) (by assumption) | exact vp100 (by assumption) (by assumption)) ?_
      refine r_goto 29 hX dX2_freeStandsFor_25 ?_
      refine r_iret hX hT dX2_freeStandsFor_29 ?_
      exact ⟨by simp [*], rfl⟩
set_option maxRecDepth 100000 in
set_option maxHeartbeats 4000000 in
theorem tX2_turnOn_14 {l : Launch} {G : mx_G} {M : mx_Mem} : mx_Met l G yX2_turnOn cX2_turnOn 3 (none) 0 0 [.ref 14] M (mx_F none (tnM M 14)) := by
  refine mx_enter (own := RX2) (L := [.ref 14, .null, .null]) (by decide +kernel) rfl rfl rfl ?_
  intro X hlX hX hR hT
  refine r_aload_n 1 hX dX2_turnOn_0 rfl ?_
  refine r_getR 4 hX dX2_turnOn_1 fX2_9 rfl rfl rfl ?_
  refine r_iconst 5 hX dX2_turnOn_4 (v := 0) (by decide) ?_
  refine r_ialdK 6 hX dX2_turnOn_5 rfl rfl (vpK rfl) (j := 0) (by decide) ?_
  refine r_istore_n 7 hX dX2_turnOn_6 rfl ?_
  refine r_iconst 8 hX dX2_turnOn_7 (v := 1) (by decide) ?_
  refine r_istore_n 9 hX dX2_turnOn_8 rfl ?_
  refine r_iload_n 10 hX dX2_turnOn_9 rfl ?_
  refine r_bipush 12 hX dX2_turnOn_10 (v := 6) (by decide) ?_
  refine r_icmp_ge 15 35 hX dX2_turnOn_12 (fun c => absurd c (by decide)) (fun _ => ?_)
  refine r_aload_n 16 hX dX2_turnOn_15 rfl ?_
  refine r_getR 19 hX dX2_turnOn_16 fX2_9 rfl rfl rfl ?_
  refine r_iload_n 20 hX dX2_turnOn_19 rfl ?_
  refine r_iconst 21 hX dX2_turnOn_20 (v := 1) (by decide) ?_
  refine r_isubK 22 hX dX2_turnOn_21 (w := 0) (by decide) ?_
  refine r_aload_n 23 hX dX2_turnOn_22 rfl ?_
  refine r_getR 26 hX dX2_turnOn_23 fX2_9 rfl rfl rfl ?_
  refine r_iload_n 27 hX dX2_turnOn_26 rfl ?_
  refine r_ialdK 28 hX dX2_turnOn_27 rfl rfl (vpK rfl) (j := 1) (by decide) ?_
  refine r_iastK 29 hX dX2_turnOn_28 rfl rfl (vpK rfl) (j := 0) (by decide) ?_
  refine r_iincK 32 hX dX2_turnOn_29 rfl (w := 2) (by decide) rfl ?_
  refine (show mx_WW G X 32 [_, _, _] _ _ from ?_)
  refine r_goto 9 hX dX2_turnOn_32 ?_
  refine r_iload_n 10 hX dX2_turnOn_9 rfl ?_
  refine r_bipush 12 hX dX2_turnOn_10 (v := 6) (by decide) ?_
  refine r_icmp_ge 15 35 hX dX2_turnOn_12 (fun c => absurd c (by decide)) (fun _ => ?_)
  refine r_aload_n 16 hX dX2_turnOn_15 rfl ?_
  refine r_getR 19 hX dX2_turnOn_16 fX2_9 rfl rfl rfl ?_
  refine r_iload_n 20 hX dX2_turnOn_19 rfl ?_
  refine r_iconst 21 hX dX2_turnOn_20 (v := 1) (by decide) ?_
  refine r_isubK 22 hX dX2_turnOn_21 (w := 1) (by decide) ?_
  refine r_aload_n 23 hX dX2_turnOn_22 rfl ?_
  refine r_getR 26 hX dX2_turnOn_23 fX2_9 rfl rfl rfl ?_
  refine r_iload_n 27 hX dX2_turnOn_26 rfl ?_
  refine r_ialdK 28 hX dX2_turnOn_27 rfl rfl (vpK rfl) (j := 2) (by decide) ?_
  refine r_iastK 29 hX dX2_turnOn_28 rfl rfl (vpK rfl) (j := 1) (by decide) ?_
  refine r_iincK 32 hX dX2_turnOn_29 rfl (w := 3) (by decide) rfl ?_
  refine r_goto 9 hX dX2_turnOn_32 ?_
  refine r_iload_n 10 hX dX2_turnOn_9 rfl ?_
  refine r_bipush 12 hX dX2_turnOn_10 (v := 6) (by decide) ?_
  refine r_icmp_ge 15 35 hX dX2_turnOn_12 (fun c => absurd c (by decide)) (fun _ => ?_)
  refine r_aload_n 16 hX dX2_turnOn_15 rfl ?_
  refine r_getR 19 hX dX2_turnOn_16 fX2_9 rfl rfl rfl ?_
  refine r_iload_n 20 hX dX2_turnOn_19 rfl ?_
  refine r_iconst 21 hX dX2_turnOn_20 (v := 1) (by decide) ?_
  refine r_isubK 22 hX dX2_turnOn_21 (w := 2) (by decide) ?_
  refine r_aload_n 23 hX dX2_turnOn_22 rfl ?_
  refine r_getR 26 hX dX2_turnOn_23 fX2_9 rfl rfl rfl ?_
  refine r_iload_n 27 hX dX2_turnOn_26 rfl ?_
  refine r_ialdK 28 hX dX2_turnOn_27 rfl rfl (vpK rfl) (j := 3) (by decide) ?_
  refine r_iastK 29 hX dX2_turnOn_28 rfl rfl (vpK rfl) (j := 2) (by decide) ?_
  refine r_iincK 32 hX dX2_turnOn_29 rfl (w := 4) (by decide) rfl ?_
  refine r_goto 9 hX dX2_turnOn_32 ?_
  refine r_iload_n 10 hX dX2_turnOn_9 rfl ?_
  refine r_bipush 12 hX dX2_turnOn_10 (v := 6) (by decide) ?_
  refine r_icmp_ge 15 35 hX dX2_turnOn_12 (fun c => absurd c (by decide)) (fun _ => ?_)
  refine r_aload_n 16 hX dX2_turnOn_15 rfl ?_
  refine r_getR 19 hX dX2_turnOn_16 fX2_9 rfl rfl rfl ?_
  refine r_iload_n 20 hX dX2_turnOn_19 rfl ?_
  refine r_iconst 21 hX dX2_turnOn_20 (v := 1) (by decide) ?_
  refine r_isubK 22 hX dX2_turnOn_21 (w := 3) (by decide) ?_
  refine r_aload_n 23 hX dX2_turnOn_22 rfl ?_
  refine r_getR 26 hX dX2_turnOn_23 fX2_9 rfl rfl rfl ?_
  refine r_iload_n 27 hX dX2_turnOn_26 rfl ?_
  refine r_ialdK 28 hX dX2_turnOn_27 rfl rfl (vpK rfl) (j := 4) (by decide) ?_
  refine r_iastK 29 hX dX2_turnOn_28 rfl rfl (vpK rfl) (j := 3) (by decide) ?_
  refine r_iincK 32 hX dX2_turnOn_29 rfl (w := 5) (by decide) rfl ?_
  refine (show mx_WW G X 32 [_, _, _] _ _ from ?_)
  refine r_goto 9 hX dX2_turnOn_32 ?_
  refine r_iload_n 10 hX dX2_turnOn_9 rfl ?_
  refine r_bipush 12 hX dX2_turnOn_10 (v := 6) (by decide) ?_
  refine r_icmp_ge 15 35 hX dX2_turnOn_12 (fun c => absurd c (by decide)) (fun _ => ?_)
  refine r_aload_n 16 hX dX2_turnOn_15 rfl ?_
  refine r_getR 19 hX dX2_turnOn_16 fX2_9 rfl rfl rfl ?_
  refine r_iload_n 20 hX dX2_turnOn_19 rfl ?_
  refine r_iconst 21 hX dX2_turnOn_20 (v := 1) (by decide) ?_
  refine r_isubK 22 hX dX2_turnOn_21 (w := 4) (by decide) ?_
  refine r_aload_n 23 hX dX2_turnOn_22 rfl ?_
  refine r_getR 26 hX dX2_turnOn_23 fX2_9 rfl rfl rfl ?_
  refine r_iload_n 27 hX dX2_turnOn_26 rfl ?_
  refine r_ialdK 28 hX dX2_turnOn_27 rfl rfl (vpK rfl) (j := 5) (by decide) ?_
  refine r_iastK 29 hX dX2_turnOn_28 rfl rfl (vpK rfl) (j := 4) (by decide) ?_
  refine r_iincK 32 hX dX2_turnOn_29 rfl (w := 6) (by decide) rfl ?_
  refine r_goto 9 hX dX2_turnOn_32 ?_
  refine r_iload_n 10 hX dX2_turnOn_9 rfl ?_
  refine r_bipush 12 hX dX2_turnOn_10 (v := 6) (by decide) ?_
  refine r_icmp_ge 15 35 hX dX2_turnOn_12 (fun _ => ?_) (fun c => absurd c (by decide))
  refine r_aload_n 36 hX dX2_turnOn_35 rfl ?_
  refine r_getR 39 hX dX2_turnOn_36 fX2_9 rfl rfl rfl ?_
  refine r_iconst 40 hX dX2_turnOn_39 (v := 5) (by decide) ?_
  refine r_iload_n 41 hX dX2_turnOn_40 rfl ?_
  refine r_iastK 42 hX dX2_turnOn_41 rfl rfl (vpK rfl) (j := 5) (by decide) ?_
  refine r_aload_n 43 hX dX2_turnOn_42 rfl ?_
  refine r_dup 44 hX dX2_turnOn_43 rfl ?_
  refine r_getI 47 hX dX2_turnOn_44 fX2_47 rfl rfl rfl ?_
  refine r_iconst 48 hX dX2_turnOn_47 (v := 1) (by decide) ?_
  refine r_iadd 49 hX dX2_turnOn_48 ?_
  refine r_putI 52 hX dX2_turnOn_49 fX2_47 fp2_11 rfl rfl rfl ?_
  refine r_aload_n 53 hX dX2_turnOn_52 rfl ?_
  refine r_getI 56 hX dX2_turnOn_53 fX2_28 rfl rfl rfl ?_
  refine r_iconst 57 hX dX2_turnOn_56 (v := -1) (by decide) ?_
  refine r_icmp_eq 60 84 hX dX2_turnOn_57 (fun c1 => ?_) (fun c1 => ?_)
  · refine r_vret hX hT dX2_turnOn_84 ?_
    refine ⟨rfl, ?_⟩
    have e1 : M.1 14 5 = (mI (tnO M 14) 14 11 (M.1 14 11 + 1)).1 14 5 := rfl
    unfold tnM
    first | (rw [if_pos (e1.trans c1)]; rfl) | (rw [if_neg (fun h => c1 (e1.symm.trans h))]; first | (rw [if_pos (show M.1 14 5 - 1 = 3 from c2)]; rfl) | (rw [if_neg (show ¬ M.1 14 5 - 1 = 3 from c2)]; rfl))
  · refine r_aload_n 61 hX dX2_turnOn_60 rfl ?_
    refine r_aload_n 62 hX dX2_turnOn_61 rfl ?_
    refine r_getI 65 hX dX2_turnOn_62 fX2_28 rfl rfl rfl ?_
    refine r_iconst 66 hX dX2_turnOn_65 (v := 1) (by decide) ?_
    refine r_isub 67 hX dX2_turnOn_66 ?_
    refine r_iconst 68 hX dX2_turnOn_67 (v := 3) (by decide) ?_
    refine r_icmp_ne 71 75 hX dX2_turnOn_68 (fun c2 => ?_) (fun c2 => ?_)
    · refine r_aload_n 76 hX dX2_turnOn_75 rfl ?_
      refine r_getI 79 hX dX2_turnOn_76 fX2_28 rfl rfl rfl ?_
      refine r_iconst 80 hX dX2_turnOn_79 (v := 1) (by decide) ?_
      refine r_isub 81 hX dX2_turnOn_80 ?_
      refine r_putI 84 hX dX2_turnOn_81 fX2_28 fp2_5 rfl rfl rfl ?_
      refine r_vret hX hT dX2_turnOn_84 ?_
      refine ⟨rfl, ?_⟩
      have e1 : M.1 14 5 = (mI (tnO M 14) 14 11 (M.1 14 11 + 1)).1 14 5 := rfl
      unfold tnM
      first | (rw [if_pos (e1.trans c1)]; rfl) | (rw [if_neg (fun h => c1 (e1.symm.trans h))]; first | (rw [if_pos (show M.1 14 5 - 1 = 3 from c2)]; rfl) | (rw [if_neg (show ¬ M.1 14 5 - 1 = 3 from c2)]; rfl))
    · refine r_iconst 72 hX dX2_turnOn_71 (v := -1) (by decide) ?_
      refine r_goto 81 hX dX2_turnOn_72 ?_
      refine r_putI 84 hX dX2_turnOn_81 fX2_28 fp2_5 rfl rfl rfl ?_
      refine r_vret hX hT dX2_turnOn_84 ?_
      refine ⟨rfl, ?_⟩
      have e1 : M.1 14 5 = (mI (tnO M 14) 14 11 (M.1 14 11 + 1)).1 14 5 := rfl
      unfold tnM
      first | (rw [if_pos (e1.trans c1)]; rfl) | (rw [if_neg (fun h => c1 (e1.symm.trans h))]; first | (rw [if_pos (show M.1 14 5 - 1 = 3 from c2)]; rfl) | (rw [if_neg (show ¬ M.1 14 5 - 1 = 3 from c2)]; rfl))
set_option maxRecDepth 100000 in
set_option maxHeartbeats 4000000 in
theorem tX2_countServe_14 {l : Launch} {G : mx_G} {M : mx_Mem} (hp : isP (M.1 15 0)) : mx_Met l G yX2_countServe cX2_countServe 2 (none) 1 20 [.ref 14] M (mx_F none (mI M 18 (M.1 15 0).toNatClampNeg (M.1 18 (M.1 15 0).toNatClampNeg + 1))) := by
  refine mx_enter (own := RX2) (L := [.ref 14, .null]) (by decide +kernel) rfl rfl rfl ?_
  intro X hlX hX hR hT
  refine r_aload_n 1 hX dX2_countServe_0 rfl ?_
  refine r_getR 4 hX dX2_countServe_1 fX2_9 rfl rfl rfl ?_
  refine r_iconst 5 hX dX2_countServe_4 (v := 0) (by decide) ?_
  refine r_ialdK 6 hX dX2_countServe_5 rfl rfl (vpK rfl) (j := 0) (by decide) ?_
  refine r_istore_n 7 hX dX2_countServe_6 rfl ?_
  refine r_iload_n 8 hX dX2_countServe_7 rfl ?_
  refine r_cN1F 11 hX hR tX7_isPlayer dX2_countServe_8 kX7_isPlayer lX2_55 rfl rfl rfl ?_
  refine r_Beq 14 24 hX dX2_countServe_11 (fun c1 => absurd hp c1) (fun c1 => ?_)
  refine r_aload_n 15 hX dX2_countServe_14 rfl ?_
  refine r_getR 18 hX dX2_countServe_15 fX2_21 rfl rfl rfl ?_
  refine r_iload_n 19 hX dX2_countServe_18 rfl ?_
  refine r_dup2 20 hX dX2_countServe_19 rfl rfl ?_
  refine r_iald 21 hX dX2_countServe_20 rfl rfl (by first | assumption | exact vpK rfl | exact vpP (by assumption) | exact vp6 (by assumption) (by assumption) | exact vp12 (by assumption) (by assumption) | exact vp48 (by assumption) (by assumption) | exact vp100 (by assumption) (by assumption)) ?_
  refine r_iconst 22 hX dX2_countServe_21 (v := 1) (by decide) ?_
  refine r_iadd 23 hX dX2_countServe_22 ?_
  refine r_iast 24 hX dX2_countServe_23 rfl rfl (by first | assumption | exact vpK rfl | exact vpP (by assumption) | exact vp6 (by assumption) (by assumption) | exact vp12 (by assumption) (by assumption) | exact vp48 (by assumption) (by assumption) | exact vp100 (by assumption) (by assumption)) ?_
  refine r_vret hX hT dX2_countServe_24 ?_
  exact ⟨rfl, rfl⟩
set_option maxRecDepth 100000 in
set_option maxHeartbeats 4000000 in
theorem tX2_mayLeave_14 {l : Launch} {G : mx_G} {p : Int32} {M : mx_Mem} : mx_Met l G yX2_mayLeave cX2_mayLeave 3 ((some FieldType.boolean)) 1 22 [.ref 14, .int p] M (mx_F (some (.int (bI (¬ plc (M.1 15) p = -1 ∧ ¬ plc (M.1 15) p = M.1 14 5)))) M) := by
  refine mx_enter (own := RX2) (L := [.ref 14, .int p, .null]) (by decide +kernel) rfl rfl rfl ?_
  intro X hlX hX hR hT
  refine r_aload_n 1 hX dX2_mayLeave_0 rfl ?_
  refine r_iload_n 2 hX dX2_mayLeave_1 rfl ?_
  refine r_cV1F 5 hX hR tX2_placeOf_14 dX2_mayLeave_2 kX2_placeOf lX2_66 rfl rfl rfl rfl rfl rfl ?_
  refine r_istore_n 6 hX dX2_mayLeave_5 rfl ?_
  refine r_iload_n 7 hX dX2_mayLeave_6 rfl ?_
  refine r_iconst 8 hX dX2_mayLeave_7 (v := -1) (by decide) ?_
  refine r_icmp_eq 11 23 hX dX2_mayLeave_8 (fun c1 => ?_) (fun c1 => ?_)
  · refine r_iconst 24 hX dX2_mayLeave_23 (v := 0) (by decide) ?_
    refine r_zret hX hT dX2_mayLeave_24 (by first | assumption | decide) ?_
    exact ⟨by simp [*, bI], rfl⟩
  · refine r_iload_n 12 hX dX2_mayLeave_11 rfl ?_
    refine r_aload_n 13 hX dX2_mayLeave_12 rfl ?_
    refine r_getI 16 hX dX2_mayLeave_13 fX2_28 rfl rfl rfl ?_
    refine r_icmp_eq 19 23 hX dX2_mayLeave_16 (fun c2 => ?_) (fun c2 => ?_)
    · refine r_iconst 24 hX dX2_mayLeave_23 (v := 0) (by decide) ?_
      refine r_zret hX hT dX2_mayLeave_24 (by first | assumption | decide) ?_
      exact ⟨by simp [*, bI], rfl⟩
    · refine r_iconst 20 hX dX2_mayLeave_19 (v := 1) (by decide) ?_
      refine r_goto 24 hX dX2_mayLeave_20 ?_
      refine r_zret hX hT dX2_mayLeave_24 (by first | assumption | decide) ?_
      exact ⟨by simp [*, bI], rfl⟩
set_option maxRecDepth 100000 in
set_option maxHeartbeats 4000000 in
theorem tX2_mayEnter_14 {l : Launch} {G : mx_G} {p : Int32} {M : mx_Mem} : mx_Met l G yX2_mayEnter cX2_mayEnter 2 ((some FieldType.boolean)) 1 22 [.ref 14, .int p] M (mx_F (some (.int (bI (plc (M.1 15) p = -1 ∧ ¬ p = M.1 14 4)))) M) := by
  refine mx_enter (own := RX2) (L := [.ref 14, .int p]) (by decide +kernel) rfl rfl rfl ?_
  intro X hlX hX hR hT
  refine r_aload_n 1 hX dX2_mayEnter_0 rfl ?_
  refine r_iload_n 2 hX dX2_mayEnter_1 rfl ?_
  refine r_cV1F 5 hX hR tX2_placeOf_14 dX2_mayEnter_2 kX2_placeOf lX2_66 rfl rfl rfl rfl rfl rfl ?_
  refine r_iconst 6 hX dX2_mayEnter_5 (v := -1) (by decide) ?_
  refine r_icmp_ne 9 21 hX dX2_mayEnter_6 (fun c1 => ?_) (fun c1 => ?_)
  · refine r_iconst 22 hX dX2_mayEnter_21 (v := 0) (by decide) ?_
    refine r_zret hX hT dX2_mayEnter_22 (by first | assumption | decide) ?_
    exact ⟨by simp [*, bI], rfl⟩
  · refine r_iload_n 10 hX dX2_mayEnter_9 rfl ?_
    refine r_aload_n 11 hX dX2_mayEnter_10 rfl ?_
    refine r_getI 14 hX dX2_mayEnter_11 fX2_24 rfl rfl rfl ?_
    refine r_icmp_eq 17 21 hX dX2_mayEnter_14 (fun c2 => ?_) (fun c2 => ?_)
    · refine r_iconst 22 hX dX2_mayEnter_21 (v := 0) (by decide) ?_
      refine r_zret hX hT dX2_mayEnter_22 (by first | assumption | decide) ?_
      exact ⟨by simp [*, bI], rfl⟩
    · refine r_iconst 18 hX dX2_mayEnter_17 (v := 1) (by decide) ?_
      refine r_goto 22 hX dX2_mayEnter_18 ?_
      refine r_zret hX hT dX2_mayEnter_22 (by first | assumption | decide) ?_
      exact ⟨by simp [*, bI], rfl⟩
set_option maxRecDepth 100000 in
set_option maxHeartbeats 4000000 in
theorem tX2_arePair_14 {l : Launch} {G : mx_G} {a b : Int32} {M : mx_Mem} : mx_Met l G yX2_arePair cX2_arePair 3 ((some FieldType.boolean)) 1 20 [.ref 14, .int a, .int b] M (mx_F (some (.int (bI (arP M 14 a b = 1)))) M) := by
  refine mx_enter (own := RX2) (L := [.ref 14, .int a, .int b]) (by decide +kernel) rfl rfl rfl ?_
  intro X hlX hX hR hT
  refine r_iload_n 1 hX dX2_arePair_0 rfl ?_
  refine r_cN1F 4 hX hR tX7_isPlayer dX2_arePair_1 kX7_isPlayer lX2_55 rfl rfl rfl ?_
  refine r_Beq 7 14 hX dX2_arePair_4 (fun c1 => ?_) (fun c1 => ?_)
  · refine r_iconst 15 hX dX2_arePair_14 (v := 0) (by decide) ?_
    refine r_zret hX hT dX2_arePair_15 (by first | assumption | decide) ?_
    exact ⟨by simp [*, arP, bI], rfl⟩
  · refine r_iload_n 8 hX dX2_arePair_7 rfl ?_
    refine r_cN1F 11 hX hR tX7_isPlayer dX2_arePair_8 kX7_isPlayer lX2_55 rfl rfl rfl ?_
    refine r_Bne 14 16 hX dX2_arePair_11 (fun c2 => ?_) (fun c2 => ?_)
    · refine r_aload_n 17 hX dX2_arePair_16 rfl ?_
      refine r_getR 20 hX dX2_arePair_17 fX2_15 rfl rfl rfl ?_
      refine r_iload_n 21 hX dX2_arePair_20 rfl ?_
      refine r_iald 22 hX dX2_arePair_21 rfl rfl (by first | assumption | exact vpK rfl | exact vpP (by assumption) | exact vp6 (by assumption) (by assumption) | exact vp12 (by assumption) (by assumption) | exact vp48 (by assumption) (by assumption) | exact vp100 (by assumption) (by assumption)) ?_
      refine r_iconst 23 hX dX2_arePair_22 (v := 1) (by decide) ?_
      refine r_icmp_ne 26 41 hX dX2_arePair_23 (fun c3 => ?_) (fun c3 => ?_)
      · refine r_aload_n 42 hX dX2_arePair_41 rfl ?_
        refine r_getR 45 hX dX2_arePair_42 fX2_15 rfl rfl rfl ?_
        refine r_iload_n 46 hX dX2_arePair_45 rfl ?_
        refine r_iald 47 hX dX2_arePair_46 rfl rfl (by first | assumption | exact vpK rfl | exact vpP (by assumption) | exact vp6 (by assumption) (by assumption) | exact vp12 (by assumption) (by assumption) | exact vp48 (by assumption) (by assumption) | exact vp100 (by assumption) (by assumption)) ?_
        refine r_iconst 48 hX dX2_arePair_47 (v := 3) (by decide) ?_
        refine r_icmp_ne 51 65 hX dX2_arePair_48 (fun c4 => ?_) (fun c4 => ?_)
        · refine r_iconst 66 hX dX2_arePair_65 (v := 0) (by decide) ?_
          refine r_zret hX hT dX2_arePair_66 (by first | assumption | decide) ?_
          exact ⟨by simp [*, arP, bI], rfl⟩
        · refine r_aload_n 52 hX dX2_arePair_51 rfl ?_
          refine r_getR 55 hX dX2_arePair_52 fX2_18 rfl rfl rfl ?_
          refine r_iload_n 56 hX dX2_arePair_55 rfl ?_
          refine r_iald 57 hX dX2_arePair_56 rfl rfl (by first | assumption | exact vpK rfl | exact vpP (by assumption) | exact vp6 (by assumption) (by assumption) | exact vp12 (by assumption) (by assumption) | exact vp48 (by assumption) (by assumption) | exact vp100 (by assumption) (by assumption)) ?_
          refine r_iload_n 58 hX dX2_arePair_57 rfl ?_
          refine r_icmp_ne 61 65 hX dX2_arePair_58 (fun c5 => ?_) (fun c5 => ?_)
          · refine r_iconst 66 hX dX2_arePair_65 (v := 0) (by decide) ?_
            refine r_zret hX hT dX2_arePair_66 (by first | assumption | decide) ?_
            exact ⟨by simp [*, arP, bI], rfl⟩
          · refine r_iconst 62 hX dX2_arePair_61 (v := 1) (by decide) ?_
            refine r_goto 66 hX dX2_arePair_62 ?_
            refine r_zret hX hT dX2_arePair_66 (by first | assumption | decide) ?_
            exact ⟨by simp [*, arP, bI], rfl⟩
      · refine r_aload_n 27 hX dX2_arePair_26 rfl ?_
        refine r_getR 30 hX dX2_arePair_27 fX2_15 rfl rfl rfl ?_
        refine r_iload_n 31 hX dX2_arePair_30 rfl ?_
        refine r_iald 32 hX dX2_arePair_31 rfl rfl (by first | assumption | exact vpK rfl | exact vpP (by assumption) | exact vp6 (by assumption) (by assumption) | exact vp12 (by assumption) (by assumption) | exact vp48 (by assumption) (by assumption) | exact vp100 (by assumption) (by assumption)) ?_
        refine r_if_ne 35 39 hX dX2_arePair_32 (fun c6 => ?_) (fun c6 => ?_)
        · refine r_iconst 40 hX dX2_arePair_39 (v := 0) (by decide) ?_
          refine r_zret hX hT dX2_arePair_40 (by first | assumption | decide) ?_
          exact ⟨by simp [*, arP, bI], rfl⟩
        · refine r_iconst 36 hX dX2_arePair_35 (v := 1) (by decide) ?_
          refine r_goto 40 hX dX2_arePair_36 ?_
          refine r_zret hX hT dX2_arePair_40 (by first | assumption | decide) ?_
          exact ⟨by simp [*, arP, bI], rfl⟩
    · refine r_iconst 15 hX dX2_arePair_14 (v := 0) (by decide) ?_
      refine r_zret hX hT dX2_arePair_15 (by first | assumption | decide) ?_
      exact ⟨by simp [*, arP, bI], rfl⟩

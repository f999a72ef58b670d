/-! the model: a set begins; feet; put aside; texts -/
section MXT
variable {G : mx_G} {X : mx_X} {own : String} {cc : ByteArray} {nL pc : Nat} {L S : List Value} {M : mx_Mem}
theorem mx_top {x y : Int32} (h : x = y) (kk : mx_WW G X pc L (.int y :: S) M) : mx_WW G X pc L (.int x :: S) M := by rw [h]; exact kk
theorem r_bastK (q : Nat) (hX : mx_OK G X own cc nL) {k n j : Nat} {i x y : Int32} (hd : decode cc pc = .ok (.bastore, 1)) (hs : mx_sh k = .inl (.byte, n)) (hk : Nat.blt k 61 = true) (hi : vp_in i n) (hj : i.toNatClampNeg = j) (hy : vp_nar .byte x = y) (kk : mx_WW G X q L S (mI M k j y)) (hq : pc + 1 = q := by rfl) : mx_WW G X pc L (.int x :: .int i :: .ref k :: S) M := r_bast q hX hd hs hk hi (by rw [hj, hy]; exact kk) hq
theorem r_baldK (q : Nat) (hX : mx_OK G X own cc nL) {k n j : Nat} {i : Int32} (hd : decode cc pc = .ok (.baload, 1)) (hs : mx_sh k = .inl (.byte, n)) (hk : Nat.blt k 61 = true) (hi : vp_in i n) (hj : i.toNatClampNeg = j) (kk : mx_WW G X q L (.int (M.1 k j) :: S) M) (hq : pc + 1 = q := by rfl) : mx_WW G X pc L (.int i :: .ref k :: S) M := r_bald q hX hd hs hk hi (by rw [hj]; exact kk) hq
end MXT
abbrev vX6 : List Int32 := [800, 800, 500, 200, 200, 500]
abbrev vY6 : List Int32 := [800, 200, 200, 200, 800, 800]
def mst (M : mx_Mem) : Nat → mx_Mem
  | 0 => M
  | n + 1 => mI (mI (mst M n) 54 n (vX6.getD (n % 6) 0)) 55 n (vY6.getD (n % 6) 0)
set_option maxRecDepth 100000 in
set_option maxHeartbeats 4000000 in
theorem tX8_stand {l : Launch} {G : mx_G} {M : mx_Mem} : mx_Met l G yX8_stand cX8_stand 3 (none) 0 0 [.ref 46] M (mx_F none (mst M 12)) := by
  refine mx_enter (own := RX8) (L := [.ref 46, .null, .null]) (by decide +kernel) rfl rfl rfl ?_
  intro X hlX hX hR hT
  refine r_iconst 1 hX dX8_stand_0 (v := 0) (by decide) ?_
  refine r_istore_n 2 hX dX8_stand_1 rfl ?_
  refine r_iload_n 3 hX dX8_stand_2 rfl ?_
  refine r_iconst 4 hX dX8_stand_3 (v := 2) (by decide) ?_
  refine r_icmp_ge 7 97 hX dX8_stand_4 (fun c => absurd c (by decide)) (fun _ => ?_)
  refine r_iconst 8 hX dX8_stand_7 (v := 0) (by decide) ?_
  refine r_istore_n 9 hX dX8_stand_8 rfl ?_
  refine r_iload_n 10 hX dX8_stand_9 rfl ?_
  refine r_bipush 12 hX dX8_stand_10 (v := 6) (by decide) ?_
  refine r_icmp_ge 15 91 hX dX8_stand_12 (fun c => absurd c (by decide)) (fun _ => ?_)
  refine r_aload_n 16 hX dX8_stand_15 rfl ?_
  refine r_getR 19 hX dX8_stand_16 fX8_32 rfl rfl rfl ?_
  refine r_bipush 21 hX dX8_stand_19 (v := 6) (by decide) ?_
  refine r_iload_n 22 hX dX8_stand_21 rfl ?_
  refine r_imulK 23 hX dX8_stand_22 (w := 0) (by decide) ?_
  refine r_iload_n 24 hX dX8_stand_23 rfl ?_
  refine r_iaddK 25 hX dX8_stand_24 (w := 0) (by decide) ?_
  refine r_iload_n 26 hX dX8_stand_25 rfl ?_
  refine r_iconst 27 hX dX8_stand_26 (v := 2) (by decide) ?_
  refine r_icmp_ge 30 36 hX dX8_stand_27 (fun c => absurd c (by decide)) (fun _ => ?_)
  refine r_sipush 33 hX dX8_stand_30 (v := 800) (by decide) ?_
  refine r_goto 55 hX dX8_stand_33 ?_
  refine r_iastK 56 hX dX8_stand_55 rfl rfl (vpK rfl) (j := 0) (by decide) ?_
  refine r_aload_n 57 hX dX8_stand_56 rfl ?_
  refine r_getR 60 hX dX8_stand_57 fX8_35 rfl rfl rfl ?_
  refine r_bipush 62 hX dX8_stand_60 (v := 6) (by decide) ?_
  refine r_iload_n 63 hX dX8_stand_62 rfl ?_
  refine r_imulK 64 hX dX8_stand_63 (w := 0) (by decide) ?_
  refine r_iload_n 65 hX dX8_stand_64 rfl ?_
  refine r_iaddK 66 hX dX8_stand_65 (w := 0) (by decide) ?_
  refine r_iload_n 67 hX dX8_stand_66 rfl ?_
  refine r_if_eq 70 75 hX dX8_stand_67 (fun _ => ?_) (fun c => absurd c (by decide))
  refine r_sipush 78 hX dX8_stand_75 (v := 800) (by decide) ?_
  refine r_goto 84 hX dX8_stand_78 ?_
  refine r_iastK 85 hX dX8_stand_84 rfl rfl (vpK rfl) (j := 0) (by decide) ?_
  refine r_iincK 88 hX dX8_stand_85 rfl (w := 1) (by decide) rfl ?_
  refine (show mx_WW G X 88 [_, _, _] _ _ from ?_)
  refine r_goto 9 hX dX8_stand_88 ?_
  refine r_iload_n 10 hX dX8_stand_9 rfl ?_
  refine r_bipush 12 hX dX8_stand_10 (v := 6) (by decide) ?_
  refine r_icmp_ge 15 91 hX dX8_stand_12 (fun c => absurd c (by decide)) (fun _ => ?_)
  refine r_aload_n 16 hX dX8_stand_15 rfl ?_
  refine r_getR 19 hX dX8_stand_16 fX8_32 rfl rfl rfl ?_
  refine r_bipush 21 hX dX8_stand_19 (v := 6) (by decide) ?_
  refine r_iload_n 22 hX dX8_stand_21 rfl ?_
  refine r_imulK 23 hX dX8_stand_22 (w := 0) (by decide) ?_
  refine r_iload_n 24 hX dX8_stand_23 rfl ?_
  refine r_iaddK 25 hX dX8_stand_24 (w := 1) (by decide) ?_
  refine r_iload_n 26 hX dX8_stand_25 rfl ?_
  refine r_iconst 27 hX dX8_stand_26 (v := 2) (by decide) ?_
  refine r_icmp_ge 30 36 hX dX8_stand_27 (fun c => absurd c (by decide)) (fun _ => ?_)
  refine r_sipush 33 hX dX8_stand_30 (v := 800) (by decide) ?_
  refine r_goto 55 hX dX8_stand_33 ?_
  refine r_iastK 56 hX dX8_stand_55 rfl rfl (vpK rfl) (j := 1) (by decide) ?_
  refine r_aload_n 57 hX dX8_stand_56 rfl ?_
  refine r_getR 60 hX dX8_stand_57 fX8_35 rfl rfl rfl ?_
  refine r_bipush 62 hX dX8_stand_60 (v := 6) (by decide) ?_
  refine r_iload_n 63 hX dX8_stand_62 rfl ?_
  refine r_imulK 64 hX dX8_stand_63 (w := 0) (by decide) ?_
  refine r_iload_n 65 hX dX8_stand_64 rfl ?_
  refine r_iaddK 66 hX dX8_stand_65 (w := 1) (by decide) ?_
  refine r_iload_n 67 hX dX8_stand_66 rfl ?_
  refine r_if_eq 70 75 hX dX8_stand_67 (fun c => absurd c (by decide)) (fun _ => ?_)
  refine r_iload_n 71 hX dX8_stand_70 rfl ?_
  refine r_iconst 72 hX dX8_stand_71 (v := 3) (by decide) ?_
  refine r_icmp_le 75 81 hX dX8_stand_72 (fun _ => ?_) (fun c => absurd c (by decide))
  refine r_sipush 84 hX dX8_stand_81 (v := 200) (by decide) ?_
  refine r_iastK 85 hX dX8_stand_84 rfl rfl (vpK rfl) (j := 1) (by decide) ?_
  refine r_iincK 88 hX dX8_stand_85 rfl (w := 2) (by decide) rfl ?_
  refine r_goto 9 hX dX8_stand_88 ?_
  refine r_iload_n 10 hX dX8_stand_9 rfl ?_
  refine r_bipush 12 hX dX8_stand_10 (v := 6) (by decide) ?_
  refine r_icmp_ge 15 91 hX dX8_stand_12 (fun c => absurd c (by decide)) (fun _ => ?_)
  refine r_aload_n 16 hX dX8_stand_15 rfl ?_
  refine r_getR 19 hX dX8_stand_16 fX8_32 rfl rfl rfl ?_
  refine r_bipush 21 hX dX8_stand_19 (v := 6) (by decide) ?_
  refine r_iload_n 22 hX dX8_stand_21 rfl ?_
  refine r_imulK 23 hX dX8_stand_22 (w := 0) (by decide) ?_
  refine r_iload_n 24 hX dX8_stand_23 rfl ?_
  refine r_iaddK 25 hX dX8_stand_24 (w := 2) (by decide) ?_
  refine r_iload_n 26 hX dX8_stand_25 rfl ?_
  refine r_iconst 27 hX dX8_stand_26 (v := 2) (by decide) ?_
  refine r_icmp_ge 30 36 hX dX8_stand_27 (fun _ => ?_) (fun c => absurd c (by decide))
  refine r_iload_n 37 hX dX8_stand_36 rfl ?_
  refine r_iconst 38 hX dX8_stand_37 (v := 2) (by decide) ?_
  refine r_icmp_eq 41 46 hX dX8_stand_38 (fun _ => ?_) (fun c => absurd c (by decide))
  refine r_sipush 49 hX dX8_stand_46 (v := 500) (by decide) ?_
  refine r_goto 55 hX dX8_stand_49 ?_
  refine r_iastK 56 hX dX8_stand_55 rfl rfl (vpK rfl) (j := 2) (by decide) ?_
  refine r_aload_n 57 hX dX8_stand_56 rfl ?_
  refine r_getR 60 hX dX8_stand_57 fX8_35 rfl rfl rfl ?_
  refine r_bipush 62 hX dX8_stand_60 (v := 6) (by decide) ?_
  refine r_iload_n 63 hX dX8_stand_62 rfl ?_
  refine r_imulK 64 hX dX8_stand_63 (w := 0) (by decide) ?_
  refine r_iload_n 65 hX dX8_stand_64 rfl ?_
  refine r_iaddK 66 hX dX8_stand_65 (w := 2) (by decide) ?_
  refine r_iload_n 67 hX dX8_stand_66 rfl ?_
  refine r_if_eq 70 75 hX dX8_stand_67 (fun c => absurd c (by decide)) (fun _ => ?_)
  refine r_iload_n 71 hX dX8_stand_70 rfl ?_
  refine r_iconst 72 hX dX8_stand_71 (v := 3) (by decide) ?_
  refine r_icmp_le 75 81 hX dX8_stand_72 (fun _ => ?_) (fun c => absurd c (by decide))
  refine r_sipush 84 hX dX8_stand_81 (v := 200) (by decide) ?_
  refine r_iastK 85 hX dX8_stand_84 rfl rfl (vpK rfl) (j := 2) (by decide) ?_
  refine r_iincK 88 hX dX8_stand_85 rfl (w := 3) (by decide) rfl ?_
  refine r_goto 9 hX dX8_stand_88 ?_
  refine r_iload_n 10 hX dX8_stand_9 rfl ?_
  refine r_bipush 12 hX dX8_stand_10 (v := 6) (by decide) ?_
  refine r_icmp_ge 15 91 hX dX8_stand_12 (fun c => absurd c (by decide)) (fun _ => ?_)
  refine r_aload_n 16 hX dX8_stand_15 rfl ?_
  refine r_getR 19 hX dX8_stand_16 fX8_32 rfl rfl rfl ?_
  refine r_bipush 21 hX dX8_stand_19 (v := 6) (by decide) ?_
  refine r_iload_n 22 hX dX8_stand_21 rfl ?_
  refine r_imulK 23 hX dX8_stand_22 (w := 0) (by decide) ?_
  refine r_iload_n 24 hX dX8_stand_23 rfl ?_
  refine r_iaddK 25 hX dX8_stand_24 (w := 3) (by decide) ?_
  refine r_iload_n 26 hX dX8_stand_25 rfl ?_
  refine r_iconst 27 hX dX8_stand_26 (v := 2) (by decide) ?_
  refine r_icmp_ge 30 36 hX dX8_stand_27 (fun _ => ?_) (fun c => absurd c (by decide))
  refine r_iload_n 37 hX dX8_stand_36 rfl ?_
  refine r_iconst 38 hX dX8_stand_37 (v := 2) (by decide) ?_
  refine r_icmp_eq 41 46 hX dX8_stand_38 (fun c => absurd c (by decide)) (fun _ => ?_)
  refine r_iload_n 42 hX dX8_stand_41 rfl ?_
  refine r_iconst 43 hX dX8_stand_42 (v := 5) (by decide) ?_
  refine r_icmp_ne 46 52 hX dX8_stand_43 (fun _ => ?_) (fun c => absurd c (by decide))
  refine r_sipush 55 hX dX8_stand_52 (v := 200) (by decide) ?_
  refine r_iastK 56 hX dX8_stand_55 rfl rfl (vpK rfl) (j := 3) (by decide) ?_
  refine r_aload_n 57 hX dX8_stand_56 rfl ?_
  refine r_getR 60 hX dX8_stand_57 fX8_35 rfl rfl rfl ?_
  refine r_bipush 62 hX dX8_stand_60 (v := 6) (by decide) ?_
  refine r_iload_n 63 hX dX8_stand_62 rfl ?_
  refine r_imulK 64 hX dX8_stand_63 (w := 0) (by decide) ?_
  refine r_iload_n 65 hX dX8_stand_64 rfl ?_
  refine r_iaddK 66 hX dX8_stand_65 (w := 3) (by decide) ?_
  refine r_iload_n 67 hX dX8_stand_66 rfl ?_
  refine r_if_eq 70 75 hX dX8_stand_67 (fun c => absurd c (by decide)) (fun _ => ?_)
  refine r_iload_n 71 hX dX8_stand_70 rfl ?_
  refine r_iconst 72 hX dX8_stand_71 (v := 3) (by decide) ?_
  refine r_icmp_le 75 81 hX dX8_stand_72 (fun _ => ?_) (fun c => absurd c (by decide))
  refine r_sipush 84 hX dX8_stand_81 (v := 200) (by decide) ?_
  refine r_iastK 85 hX dX8_stand_84 rfl rfl (vpK rfl) (j := 3) (by decide) ?_
  refine r_iincK 88 hX dX8_stand_85 rfl (w := 4) (by decide) rfl ?_
  refine (show mx_WW G X 88 [_, _, _] _ _ from ?_)
  refine r_goto 9 hX dX8_stand_88 ?_
  refine r_iload_n 10 hX dX8_stand_9 rfl ?_
  refine r_bipush 12 hX dX8_stand_10 (v := 6) (by decide) ?_
  refine r_icmp_ge 15 91 hX dX8_stand_12 (fun c => absurd c (by decide)) (fun _ => ?_)
  refine r_aload_n 16 hX dX8_stand_15 rfl ?_
  refine r_getR 19 hX dX8_stand_16 fX8_32 rfl rfl rfl ?_
  refine r_bipush 21 hX dX8_stand_19 (v := 6) (by decide) ?_
  refine r_iload_n 22 hX dX8_stand_21 rfl ?_
  refine r_imulK 23 hX dX8_stand_22 (w := 0) (by decide) ?_
  refine r_iload_n 24 hX dX8_stand_23 rfl ?_
  refine r_iaddK 25 hX dX8_stand_24 (w := 4) (by decide) ?_
  refine r_iload_n 26 hX dX8_stand_25 rfl ?_
  refine r_iconst 27 hX dX8_stand_26 (v := 2) (by decide) ?_
  refine r_icmp_ge 30 36 hX dX8_stand_27 (fun _ => ?_) (fun c => absurd c (by decide))
  refine r_iload_n 37 hX dX8_stand_36 rfl ?_
  refine r_iconst 38 hX dX8_stand_37 (v := 2) (by decide) ?_
  refine r_icmp_eq 41 46 hX dX8_stand_38 (fun c => absurd c (by decide)) (fun _ => ?_)
  refine r_iload_n 42 hX dX8_stand_41 rfl ?_
  refine r_iconst 43 hX dX8_stand_42 (v := 5) (by decide) ?_
  refine r_icmp_ne 46 52 hX dX8_stand_43 (fun _ => ?_) (fun c => absurd c (by decide))
  refine r_sipush 55 hX dX8_stand_52 (v := 200) (by decide) ?_
  refine r_iastK 56 hX dX8_stand_55 rfl rfl (vpK rfl) (j := 4) (by decide) ?_
  refine r_aload_n 57 hX dX8_stand_56 rfl ?_
  refine r_getR 60 hX dX8_stand_57 fX8_35 rfl rfl rfl ?_
  refine r_bipush 62 hX dX8_stand_60 (v := 6) (by decide) ?_
  refine r_iload_n 63 hX dX8_stand_62 rfl ?_
  refine r_imulK 64 hX dX8_stand_63 (w := 0) (by decide) ?_
  refine r_iload_n 65 hX dX8_stand_64 rfl ?_
  refine r_iaddK 66 hX dX8_stand_65 (w := 4) (by decide) ?_
  refine r_iload_n 67 hX dX8_stand_66 rfl ?_
  refine r_if_eq 70 75 hX dX8_stand_67 (fun c => absurd c (by decide)) (fun _ => ?_)
  refine r_iload_n 71 hX dX8_stand_70 rfl ?_
  refine r_iconst 72 hX dX8_stand_71 (v := 3) (by decide) ?_
  refine r_icmp_le 75 81 hX dX8_stand_72 (fun c => absurd c (by decide)) (fun _ => ?_)
  refine r_sipush 78 hX dX8_stand_75 (v := 800) (by decide) ?_
  refine r_goto 84 hX dX8_stand_78 ?_
  refine r_iastK 85 hX dX8_stand_84 rfl rfl (vpK rfl) (j := 4) (by decide) ?_
  refine r_iincK 88 hX dX8_stand_85 rfl (w := 5) (by decide) rfl ?_
  refine r_goto 9 hX dX8_stand_88 ?_
  refine r_iload_n 10 hX dX8_stand_9 rfl ?_
  refine r_bipush 12 hX dX8_stand_10 (v := 6) (by decide) ?_
  refine r_icmp_ge 15 91 hX dX8_stand_12 (fun c => absurd c (by decide)) (fun _ => ?_)
  refine r_aload_n 16 hX dX8_stand_15 rfl ?_
  refine r_getR 19 hX dX8_stand_16 fX8_32 rfl rfl rfl ?_
  refine r_bipush 21 hX dX8_stand_19 (v := 6) (by decide) ?_
  refine r_iload_n 22 hX dX8_stand_21 rfl ?_
  refine r_imulK 23 hX dX8_stand_22 (w := 0) (by decide) ?_
  refine r_iload_n 24 hX dX8_stand_23 rfl ?_
  refine r_iaddK 25 hX dX8_stand_24 (w := 5) (by decide) ?_
  refine r_iload_n 26 hX dX8_stand_25 rfl ?_
  refine r_iconst 27 hX dX8_stand_26 (v := 2) (by decide) ?_
  refine r_icmp_ge 30 36 hX dX8_stand_27 (fun _ => ?_) (fun c => absurd c (by decide))
  refine r_iload_n 37 hX dX8_stand_36 rfl ?_
  refine r_iconst 38 hX dX8_stand_37 (v := 2) (by decide) ?_
  refine r_icmp_eq 41 46 hX dX8_stand_38 (fun c => absurd c (by decide)) (fun _ => ?_)
  refine r_iload_n 42 hX dX8_stand_41 rfl ?_
  refine r_iconst 43 hX dX8_stand_42 (v := 5) (by decide) ?_
  refine r_icmp_ne 46 52 hX dX8_stand_43 (fun c => absurd c (by decide)) (fun _ => ?_)
  refine r_sipush 49 hX dX8_stand_46 (v := 500) (by decide) ?_
  refine r_goto 55 hX dX8_stand_49 ?_
  refine r_iastK 56 hX dX8_stand_55 rfl rfl (vpK rfl) (j := 5) (by decide) ?_
  refine r_aload_n 57 hX dX8_stand_56 rfl ?_
  refine r_getR 60 hX dX8_stand_57 fX8_35 rfl rfl rfl ?_
  refine r_bipush 62 hX dX8_stand_60 (v := 6) (by decide) ?_
  refine r_iload_n 63 hX dX8_stand_62 rfl ?_
  refine r_imulK 64 hX dX8_stand_63 (w := 0) (by decide) ?_
  refine r_iload_n 65 hX dX8_stand_64 rfl ?_
  refine r_iaddK 66 hX dX8_stand_65 (w := 5) (by decide) ?_
  refine r_iload_n 67 hX dX8_stand_66 rfl ?_
  refine r_if_eq 70 75 hX dX8_stand_67 (fun c => absurd c (by decide)) (fun _ => ?_)
  refine r_iload_n 71 hX dX8_stand_70 rfl ?_
  refine r_iconst 72 hX dX8_stand_71 (v := 3) (by decide) ?_
  refine r_icmp_le 75 81 hX dX8_stand_72 (fun c => absurd c (by decide)) (fun _ => ?_)
  refine r_sipush 78 hX dX8_stand_75 (v := 800) (by decide) ?_
  refine r_goto 84 hX dX8_stand_78 ?_
  refine r_iastK 85 hX dX8_stand_84 rfl rfl (vpK rfl) (j := 5) (by decide) ?_
  refine r_iincK 88 hX dX8_stand_85 rfl (w := 6) (by decide) rfl ?_
  refine r_goto 9 hX dX8_stand_88 ?_
  refine r_iload_n 10 hX dX8_stand_9 rfl ?_
  refine r_bipush 12 hX dX8_stand_10 (v := 6) (by decide) ?_
  refine r_icmp_ge 15 91 hX dX8_stand_12 (fun _ => ?_) (fun c => absurd c (by decide))
  refine r_iincK 94 hX dX8_stand_91 rfl (w := 1) (by decide) rfl ?_
  refine (show mx_WW G X 94 [_, _, _] _ _ from ?_)
  refine r_goto 2 hX dX8_stand_94 ?_
  refine r_iload_n 3 hX dX8_stand_2 rfl ?_
  refine r_iconst 4 hX dX8_stand_3 (v := 2) (by decide) ?_
  refine r_icmp_ge 7 97 hX dX8_stand_4 (fun c => absurd c (by decide)) (fun _ => ?_)
  refine r_iconst 8 hX dX8_stand_7 (v := 0) (by decide) ?_
  refine r_istore_n 9 hX dX8_stand_8 rfl ?_
  refine r_iload_n 10 hX dX8_stand_9 rfl ?_
  refine r_bipush 12 hX dX8_stand_10 (v := 6) (by decide) ?_
  refine r_icmp_ge 15 91 hX dX8_stand_12 (fun c => absurd c (by decide)) (fun _ => ?_)
  refine r_aload_n 16 hX dX8_stand_15 rfl ?_
  refine r_getR 19 hX dX8_stand_16 fX8_32 rfl rfl rfl ?_
  refine r_bipush 21 hX dX8_stand_19 (v := 6) (by decide) ?_
  refine r_iload_n 22 hX dX8_stand_21 rfl ?_
  refine r_imulK 23 hX dX8_stand_22 (w := 6) (by decide) ?_
  refine r_iload_n 24 hX dX8_stand_23 rfl ?_
  refine r_iaddK 25 hX dX8_stand_24 (w := 6) (by decide) ?_
  refine r_iload_n 26 hX dX8_stand_25 rfl ?_
  refine r_iconst 27 hX dX8_stand_26 (v := 2) (by decide) ?_
  refine r_icmp_ge 30 36 hX dX8_stand_27 (fun c => absurd c (by decide)) (fun _ => ?_)
  refine r_sipush 33 hX dX8_stand_30 (v := 800) (by decide) ?_
  refine r_goto 55 hX dX8_stand_33 ?_
  refine r_iastK 56 hX dX8_stand_55 rfl rfl (vpK rfl) (j := 6) (by decide) ?_
  refine r_aload_n 57 hX dX8_stand_56 rfl ?_
  refine r_getR 60 hX dX8_stand_57 fX8_35 rfl rfl rfl ?_
  refine r_bipush 62 hX dX8_stand_60 (v := 6) (by decide) ?_
  refine r_iload_n 63 hX dX8_stand_62 rfl ?_
  refine r_imulK 64 hX dX8_stand_63 (w := 6) (by decide) ?_
  refine r_iload_n 65 hX dX8_stand_64 rfl ?_
  refine r_iaddK 66 hX dX8_stand_65 (w := 6) (by decide) ?_
  refine r_iload_n 67 hX dX8_stand_66 rfl ?_
  refine r_if_eq 70 75 hX dX8_stand_67 (fun _ => ?_) (fun c => absurd c (by decide))
  refine r_sipush 78 hX dX8_stand_75 (v := 800) (by decide) ?_
  refine r_goto 84 hX dX8_stand_78 ?_
  refine r_iastK 85 hX dX8_stand_84 rfl rfl (vpK rfl) (j := 6) (by decide) ?_
  refine r_iincK 88 hX dX8_stand_85 rfl (w := 1) (by decide) rfl ?_
  refine r_goto 9 hX dX8_stand_88 ?_
  refine r_iload_n 10 hX dX8_stand_9 rfl ?_
  refine r_bipush 12 hX dX8_stand_10 (v := 6) (by decide) ?_
  refine r_icmp_ge 15 91 hX dX8_stand_12 (fun c => absurd c (by decide)) (fun _ => ?_)
  refine r_aload_n 16 hX dX8_stand_15 rfl ?_
  refine r_getR 19 hX dX8_stand_16 fX8_32 rfl rfl rfl ?_
  refine r_bipush 21 hX dX8_stand_19 (v := 6) (by decide) ?_
  refine r_iload_n 22 hX dX8_stand_21 rfl ?_
  refine r_imulK 23 hX dX8_stand_22 (w := 6) (by decide) ?_
  refine r_iload_n 24 hX dX8_stand_23 rfl ?_
  refine r_iaddK 25 hX dX8_stand_24 (w := 7) (by decide) ?_
  refine r_iload_n 26 hX dX8_stand_25 rfl ?_
  refine r_iconst 27 hX dX8_stand_26 (v := 2) (by decide) ?_
  refine r_icmp_ge 30 36 hX dX8_stand_27 (fun c => absurd c (by decide)) (fun _ => ?_)
  refine r_sipush 33 hX dX8_stand_30 (v := 800) (by decide) ?_
  refine r_goto 55 hX dX8_stand_33 ?_
  refine r_iastK 56 hX dX8_stand_55 rfl rfl (vpK rfl) (j := 7) (by decide) ?_
  refine r_aload_n 57 hX dX8_stand_56 rfl ?_
  refine r_getR 60 hX dX8_stand_57 fX8_35 rfl rfl rfl ?_
  refine r_bipush 62 hX dX8_stand_60 (v := 6) (by decide) ?_
  refine r_iload_n 63 hX dX8_stand_62 rfl ?_
  refine r_imulK 64 hX dX8_stand_63 (w := 6) (by decide) ?_
  refine r_iload_n 65 hX dX8_stand_64 rfl ?_
  refine r_iaddK 66 hX dX8_stand_65 (w := 7) (by decide) ?_
  refine r_iload_n 67 hX dX8_stand_66 rfl ?_
  refine r_if_eq 70 75 hX dX8_stand_67 (fun c => absurd c (by decide)) (fun _ => ?_)
  refine r_iload_n 71 hX dX8_stand_70 rfl ?_
  refine r_iconst 72 hX dX8_stand_71 (v := 3) (by decide) ?_
  refine r_icmp_le 75 81 hX dX8_stand_72 (fun _ => ?_) (fun c => absurd c (by decide))
  refine r_sipush 84 hX dX8_stand_81 (v := 200) (by decide) ?_
  refine r_iastK 85 hX dX8_stand_84 rfl rfl (vpK rfl) (j := 7) (by decide) ?_
  refine r_iincK 88 hX dX8_stand_85 rfl (w := 2) (by decide) rfl ?_
  refine (show mx_WW G X 88 [_, _, _] _ _ from ?_)
  refine r_goto 9 hX dX8_stand_88 ?_
  refine r_iload_n 10 hX dX8_stand_9 rfl ?_
  refine r_bipush 12 hX dX8_stand_10 (v := 6) (by decide) ?_
  refine r_icmp_ge 15 91 hX dX8_stand_12 (fun c => absurd c (by decide)) (fun _ => ?_)
  refine r_aload_n 16 hX dX8_stand_15 rfl ?_
  refine r_getR 19 hX dX8_stand_16 fX8_32 rfl rfl rfl ?_
  refine r_bipush 21 hX dX8_stand_19 (v := 6) (by decide) ?_
  refine r_iload_n 22 hX dX8_stand_21 rfl ?_
  refine r_imulK 23 hX dX8_stand_22 (w := 6) (by decide) ?_
  refine r_iload_n 24 hX dX8_stand_23 rfl ?_
  refine r_iaddK 25 hX dX8_stand_24 (w := 8) (by decide) ?_
  refine r_iload_n 26 hX dX8_stand_25 rfl ?_
  refine r_iconst 27 hX dX8_stand_26 (v := 2) (by decide) ?_
  refine r_icmp_ge 30 36 hX dX8_stand_27 (fun _ => ?_) (fun c => absurd c (by decide))
  refine r_iload_n 37 hX dX8_stand_36 rfl ?_
  refine r_iconst 38 hX dX8_stand_37 (v := 2) (by decide) ?_
  refine r_icmp_eq 41 46 hX dX8_stand_38 (fun _ => ?_) (fun c => absurd c (by decide))
  refine r_sipush 49 hX dX8_stand_46 (v := 500) (by decide) ?_
  refine r_goto 55 hX dX8_stand_49 ?_
  refine r_iastK 56 hX dX8_stand_55 rfl rfl (vpK rfl) (j := 8) (by decide) ?_
  refine r_aload_n 57 hX dX8_stand_56 rfl ?_
  refine r_getR 60 hX dX8_stand_57 fX8_35 rfl rfl rfl ?_
  refine r_bipush 62 hX dX8_stand_60 (v := 6) (by decide) ?_
  refine r_iload_n 63 hX dX8_stand_62 rfl ?_
  refine r_imulK 64 hX dX8_stand_63 (w := 6) (by decide) ?_
  refine r_iload_n 65 hX dX8_stand_64 rfl ?_
  refine r_iaddK 66 hX dX8_stand_65 (w := 8) (by decide) ?_
  refine r_iload_n 67 hX dX8_stand_66 rfl ?_
  refine r_if_eq 70 75 hX dX8_stand_67 (fun c => absurd c (by decide)) (fun _ => ?_)
  refine r_iload_n 71 hX dX8_stand_70 rfl ?_
  refine r_iconst 72 hX dX8_stand_71 (v := 3) (by decide) ?_
  refine r_icmp_le 75 81 hX dX8_stand_72 (fun _ => ?_) (fun c => absurd c (by decide))
  refine r_sipush 84 hX dX8_stand_81 (v := 200) (by decide) ?_
  refine r_iastK 85 hX dX8_stand_84 rfl rfl (vpK rfl) (j := 8) (by decide) ?_
  refine r_iincK 88 hX dX8_stand_85 rfl (w := 3) (by decide) rfl ?_
  refine r_goto 9 hX dX8_stand_88 ?_
  refine r_iload_n 10 hX dX8_stand_9 rfl ?_
  refine r_bipush 12 hX dX8_stand_10 (v := 6) (by decide) ?_
  refine r_icmp_ge 15 91 hX dX8_stand_12 (fun c => absurd c (by decide)) (fun _ => ?_)
  refine r_aload_n 16 hX dX8_stand_15 rfl ?_
  refine r_getR 19 hX dX8_stand_16 fX8_32 rfl rfl rfl ?_
  refine r_bipush 21 hX dX8_stand_19 (v := 6) (by decide) ?_
  refine r_iload_n 22 hX dX8_stand_21 rfl ?_
  refine r_imulK 23 hX dX8_stand_22 (w := 6) (by decide) ?_
  refine r_iload_n 24 hX dX8_stand_23 rfl ?_
  refine r_iaddK 25 hX dX8_stand_24 (w := 9) (by decide) ?_
  refine r_iload_n 26 hX dX8_stand_25 rfl ?_
  refine r_iconst 27 hX dX8_stand_26 (v := 2) (by decide) ?_
  refine r_icmp_ge 30 36 hX dX8_stand_27 (fun _ => ?_) (fun c => absurd c (by decide))
  refine r_iload_n 37 hX dX8_stand_36 rfl ?_
  refine r_iconst 38 hX dX8_stand_37 (v := 2) (by decide) ?_
  refine r_icmp_eq 41 46 hX dX8_stand_38 (fun c => absurd c (by decide)) (fun _ => ?_)
  refine r_iload_n 42 hX dX8_stand_41 rfl ?_
  refine r_iconst 43 hX dX8_stand_42 (v := 5) (by decide) ?_
  refine r_icmp_ne 46 52 hX dX8_stand_43 (fun _ => ?_) (fun c => absurd c (by decide))
  refine r_sipush 55 hX dX8_stand_52 (v := 200) (by decide) ?_
  refine r_iastK 56 hX dX8_stand_55 rfl rfl (vpK rfl) (j := 9) (by decide) ?_
  refine r_aload_n 57 hX dX8_stand_56 rfl ?_
  refine r_getR 60 hX dX8_stand_57 fX8_35 rfl rfl rfl ?_
  refine r_bipush 62 hX dX8_stand_60 (v := 6) (by decide) ?_
  refine r_iload_n 63 hX dX8_stand_62 rfl ?_
  refine r_imulK 64 hX dX8_stand_63 (w := 6) (by decide) ?_
  refine r_iload_n 65 hX dX8_stand_64 rfl ?_
  refine r_iaddK 66 hX dX8_stand_65 (w := 9) (by decide) ?_
  refine r_iload_n 67 hX dX8_stand_66 rfl ?_
  refine r_if_eq 70 75 hX dX8_stand_67 (fun c => absurd c (by decide)) (fun _ => ?_)
  refine r_iload_n 71 hX dX8_stand_70 rfl ?_
  refine r_iconst 72 hX dX8_stand_71 (v := 3) (by decide) ?_
  refine r_icmp_le 75 81 hX dX8_stand_72 (fun _ => ?_) (fun c => absurd c (by decide))
  refine r_sipush 84 hX dX8_stand_81 (v := 200) (by decide) ?_
  refine r_iastK 85 hX dX8_stand_84 rfl rfl (vpK rfl) (j := 9) (by decide) ?_
  refine r_iincK 88 hX dX8_stand_85 rfl (w := 4) (by decide) rfl ?_
  refine r_goto 9 hX dX8_stand_88 ?_
  refine r_iload_n 10 hX dX8_stand_9 rfl ?_
  refine r_bipush 12 hX dX8_stand_10 (v := 6) (by decide) ?_
  refine r_icmp_ge 15 91 hX dX8_stand_12 (fun c => absurd c (by decide)) (fun _ => ?_)
  refine r_aload_n 16 hX dX8_stand_15 rfl ?_
  refine r_getR 19 hX dX8_stand_16 fX8_32 rfl rfl rfl ?_
  refine r_bipush 21 hX dX8_stand_19 (v := 6) (by decide) ?_
  refine r_iload_n 22 hX dX8_stand_21 rfl ?_
  refine r_imulK 23 hX dX8_stand_22 (w := 6) (by decide) ?_
  refine r_iload_n 24 hX dX8_stand_23 rfl ?_
  refine r_iaddK 25 hX dX8_stand_24 (w := 10) (by decide) ?_
  refine r_iload_n 26 hX dX8_stand_25 rfl ?_
  refine r_iconst 27 hX dX8_stand_26 (v := 2) (by decide) ?_
  refine r_icmp_ge 30 36 hX dX8_stand_27 (fun _ => ?_) (fun c => absurd c (by decide))
  refine r_iload_n 37 hX dX8_stand_36 rfl ?_
  refine r_iconst 38 hX dX8_stand_37 (v := 2) (by decide) ?_
  refine r_icmp_eq 41 46 hX dX8_stand_38 (fun c => absurd c (by decide)) (fun _ => ?_)
  refine r_iload_n 42 hX dX8_stand_41 rfl ?_
  refine r_iconst 43 hX dX8_stand_42 (v := 5) (by decide) ?_
  refine r_icmp_ne 46 52 hX dX8_stand_43 (fun _ => ?_) (fun c => absurd c (by decide))
  refine r_sipush 55 hX dX8_stand_52 (v := 200) (by decide) ?_
  refine r_iastK 56 hX dX8_stand_55 rfl rfl (vpK rfl) (j := 10) (by decide) ?_
  refine r_aload_n 57 hX dX8_stand_56 rfl ?_
  refine r_getR 60 hX dX8_stand_57 fX8_35 rfl rfl rfl ?_
  refine r_bipush 62 hX dX8_stand_60 (v := 6) (by decide) ?_
  refine r_iload_n 63 hX dX8_stand_62 rfl ?_
  refine r_imulK 64 hX dX8_stand_63 (w := 6) (by decide) ?_
  refine r_iload_n 65 hX dX8_stand_64 rfl ?_
  refine r_iaddK 66 hX dX8_stand_65 (w := 10) (by decide) ?_
  refine r_iload_n 67 hX dX8_stand_66 rfl ?_
  refine r_if_eq 70 75 hX dX8_stand_67 (fun c => absurd c (by decide)) (fun _ => ?_)
  refine r_iload_n 71 hX dX8_stand_70 rfl ?_
  refine r_iconst 72 hX dX8_stand_71 (v := 3) (by decide) ?_
  refine r_icmp_le 75 81 hX dX8_stand_72 (fun c => absurd c (by decide)) (fun _ => ?_)
  refine r_sipush 78 hX dX8_stand_75 (v := 800) (by decide) ?_
  refine r_goto 84 hX dX8_stand_78 ?_
  refine r_iastK 85 hX dX8_stand_84 rfl rfl (vpK rfl) (j := 10) (by decide) ?_
  refine r_iincK 88 hX dX8_stand_85 rfl (w := 5) (by decide) rfl ?_
  refine (show mx_WW G X 88 [_, _, _] _ _ from ?_)
  refine r_goto 9 hX dX8_stand_88 ?_
  refine r_iload_n 10 hX dX8_stand_9 rfl ?_
  refine r_bipush 12 hX dX8_stand_10 (v := 6) (by decide) ?_
  refine r_icmp_ge 15 91 hX dX8_stand_12 (fun c => absurd c (by decide)) (fun _ => ?_)
  refine r_aload_n 16 hX dX8_stand_15 rfl ?_
  refine r_getR 19 hX dX8_stand_16 fX8_32 rfl rfl rfl ?_
  refine r_bipush 21 hX dX8_stand_19 (v := 6) (by decide) ?_
  refine r_iload_n 22 hX dX8_stand_21 rfl ?_
  refine r_imulK 23 hX dX8_stand_22 (w := 6) (by decide) ?_
  refine r_iload_n 24 hX dX8_stand_23 rfl ?_
  refine r_iaddK 25 hX dX8_stand_24 (w := 11) (by decide) ?_
  refine r_iload_n 26 hX dX8_stand_25 rfl ?_
  refine r_iconst 27 hX dX8_stand_26 (v := 2) (by decide) ?_
  refine r_icmp_ge 30 36 hX dX8_stand_27 (fun _ => ?_) (fun c => absurd c (by decide))
  refine r_iload_n 37 hX dX8_stand_36 rfl ?_
  refine r_iconst 38 hX dX8_stand_37 (v := 2) (by decide) ?_
  refine r_icmp_eq 41 46 hX dX8_stand_38 (fun c => absurd c (by decide)) (fun _ => ?_)
  refine r_iload_n 42 hX dX8_stand_41 rfl ?_
  refine r_iconst 43 hX dX8_stand_42 (v := 5) (by decide) ?_
  refine r_icmp_ne 46 52 hX dX8_stand_43 (fun c => absurd c (by decide)) (fun _ => ?_)
  refine r_sipush 49 hX dX8_stand_46 (v := 500) (by decide) ?_
  refine r_goto 55 hX dX8_stand_49 ?_
  refine r_iastK 56 hX dX8_stand_55 rfl rfl (vpK rfl) (j := 11) (by decide) ?_
  refine r_aload_n 57 hX dX8_stand_56 rfl ?_
  refine r_getR 60 hX dX8_stand_57 fX8_35 rfl rfl rfl ?_
  refine r_bipush 62 hX dX8_stand_60 (v := 6) (by decide) ?_
  refine r_iload_n 63 hX dX8_stand_62 rfl ?_
  refine r_imulK 64 hX dX8_stand_63 (w := 6) (by decide) ?_
  refine r_iload_n 65 hX dX8_stand_64 rfl ?_
  refine r_iaddK 66 hX dX8_stand_65 (w := 11) (by decide) ?_
  refine r_iload_n 67 hX dX8_stand_66 rfl ?_
  refine r_if_eq 70 75 hX dX8_stand_67 (fun c => absurd c (by decide)) (fun _ => ?_)
  refine r_iload_n 71 hX dX8_stand_70 rfl ?_
  refine r_iconst 72 hX dX8_stand_71 (v := 3) (by decide) ?_
  refine r_icmp_le 75 81 hX dX8_stand_72 (fun c => absurd c (by decide)) (fun _ => ?_)
  refine r_sipush 78 hX dX8_stand_75 (v := 800) (by decide) ?_
  refine r_goto 84 hX dX8_stand_78 ?_
  refine r_iastK 85 hX dX8_stand_84 rfl rfl (vpK rfl) (j := 11) (by decide) ?_
  refine r_iincK 88 hX dX8_stand_85 rfl (w := 6) (by decide) rfl ?_
  refine r_goto 9 hX dX8_stand_88 ?_
  refine r_iload_n 10 hX dX8_stand_9 rfl ?_
  refine r_bipush 12 hX dX8_stand_10 (v := 6) (by decide) ?_
  refine r_icmp_ge 15 91 hX dX8_stand_12 (fun _ => ?_) (fun c => absurd c (by decide))
  refine r_iincK 94 hX dX8_stand_91 rfl (w := 2) (by decide) rfl ?_
  refine r_goto 2 hX dX8_stand_94 ?_
  refine r_iload_n 3 hX dX8_stand_2 rfl ?_
  refine r_iconst 4 hX dX8_stand_3 (v := 2) (by decide) ?_
  refine r_icmp_ge 7 97 hX dX8_stand_4 (fun _ => ?_) (fun c => absurd c (by decide))
  refine r_vret hX hT dX8_stand_97 ?_
  exact ⟨rfl, rfl⟩
def mcy (a b : Nat) (M : mx_Mem) : Nat → mx_Mem
  | 0 => M
  | n + 1 => mI (mcy a b M n) b n ((mcy a b M n).1 a n)
set_option maxRecDepth 100000 in
set_option maxHeartbeats 4000000 in
theorem tX8_putAside {l : Launch} {G : mx_G} {M : mx_Mem} : mx_Met l G yX8_putAside cX8_putAside 2 (none) 0 0 [.ref 46] M (mx_F none (mcy 52 53 M 106)) := by
  refine mx_enter (own := RX8) (L := [.ref 46, .null]) (by decide +kernel) rfl rfl rfl ?_
  intro X hlX hX hR hT
  have lp : mx_WW G X 2 [.ref 46, .int (nI 0)] [] M := by
    refine mx_back (P := fun i => mx_WW G X 2 [.ref 46, .int (nI i)] [] (mcy 52 53 M i)) 106 (fun i hi ih => ?_) ?_
    · show mx_WW G X 2 [.ref 46, .int (nI i)] [] (mcy 52 53 M i)
      have hv : vp_in (nI i) 106 := vp_in_nI hi (by decide)
      have hc : (nI i).toNatClampNeg = i := nI_clamp (by omega)
      refine r_iload_n 3 hX dX8_putAside_2 rfl ?_
      refine r_bipush 5 hX dX8_putAside_3 (v := 106) (by decide) ?_
      refine r_icmp_ge 8 26 hX dX8_putAside_5 (fun c1 => absurd c1 (nI_ge (b := 106) hi (by decide))) (fun c1 => ?_)
      refine r_aload_n 9 hX dX8_putAside_8 rfl ?_
      refine r_getR 12 hX dX8_putAside_9 fX8_29 rfl rfl rfl ?_
      refine r_iload_n 13 hX dX8_putAside_12 rfl ?_
      refine r_aload_n 14 hX dX8_putAside_13 rfl ?_
      refine r_getR 17 hX dX8_putAside_14 fX8_26 rfl rfl rfl ?_
      refine r_iload_n 18 hX dX8_putAside_17 rfl ?_
      refine r_ialdK 19 hX dX8_putAside_18 rfl rfl hv (j := i) hc ?_
      refine r_iastK 20 hX dX8_putAside_19 rfl rfl hv (j := i) hc ?_
      refine r_iinc 23 hX dX8_putAside_20 rfl (v := 1) (by decide) rfl ?_
      refine r_goto 2 hX dX8_putAside_23 ?_
      rw [nI_1]
      exact ih
    · show mx_WW G X 2 [.ref 46, .int (nI 106)] [] (mcy 52 53 M 106)
      refine r_iload_n 3 hX dX8_putAside_2 rfl ?_
      refine r_bipush 5 hX dX8_putAside_3 (v := 106) (by decide) ?_
      refine r_icmp_ge 8 26 hX dX8_putAside_5 (fun c1 => ?_) (fun c1 => absurd (show (106 : Int32) ≤ nI 106 by decide) c1)
      refine r_vret hX hT dX8_putAside_26 ?_
      exact ⟨rfl, rfl⟩
  refine r_iconst 1 hX dX8_putAside_0 (v := 0) (by decide) ?_
  refine r_istore_n 2 hX dX8_putAside_1 rfl ?_
  exact lp
set_option maxRecDepth 100000 in
set_option maxHeartbeats 4000000 in
theorem tX8_putBack {l : Launch} {G : mx_G} {M : mx_Mem} : mx_Met l G yX8_putBack cX8_putBack 2 (none) 0 0 [.ref 46] M (mx_F none (mcy 53 52 M 106)) := by
  refine mx_enter (own := RX8) (L := [.ref 46, .null]) (by decide +kernel) rfl rfl rfl ?_
  intro X hlX hX hR hT
  have lp : mx_WW G X 2 [.ref 46, .int (nI 0)] [] M := by
    refine mx_back (P := fun i => mx_WW G X 2 [.ref 46, .int (nI i)] [] (mcy 53 52 M i)) 106 (fun i hi ih => ?_) ?_
    · show mx_WW G X 2 [.ref 46, .int (nI i)] [] (mcy 53 52 M i)
      have hv : vp_in (nI i) 106 := vp_in_nI hi (by decide)
      have hc : (nI i).toNatClampNeg = i := nI_clamp (by omega)
      refine r_iload_n 3 hX dX8_putBack_2 rfl ?_
      refine r_bipush 5 hX dX8_putBack_3 (v := 106) (by decide) ?_
      refine r_icmp_ge 8 26 hX dX8_putBack_5 (fun c1 => absurd c1 (nI_ge (b := 106) hi (by decide))) (fun c1 => ?_)
      refine r_aload_n 9 hX dX8_putBack_8 rfl ?_
      refine r_getR 12 hX dX8_putBack_9 fX8_26 rfl rfl rfl ?_
      refine r_iload_n 13 hX dX8_putBack_12 rfl ?_
      refine r_aload_n 14 hX dX8_putBack_13 rfl ?_
      refine r_getR 17 hX dX8_putBack_14 fX8_29 rfl rfl rfl ?_
      refine r_iload_n 18 hX dX8_putBack_17 rfl ?_
      refine r_ialdK 19 hX dX8_putBack_18 rfl rfl hv (j := i) hc ?_
      refine r_iastK 20 hX dX8_putBack_19 rfl rfl hv (j := i) hc ?_
      refine r_iinc 23 hX dX8_putBack_20 rfl (v := 1) (by decide) rfl ?_
      refine r_goto 2 hX dX8_putBack_23 ?_
      rw [nI_1]
      exact ih
    · show mx_WW G X 2 [.ref 46, .int (nI 106)] [] (mcy 53 52 M 106)
      refine r_iload_n 3 hX dX8_putBack_2 rfl ?_
      refine r_bipush 5 hX dX8_putBack_3 (v := 106) (by decide) ?_
      refine r_icmp_ge 8 26 hX dX8_putBack_5 (fun c1 => ?_) (fun c1 => absurd (show (106 : Int32) ≤ nI 106 by decide) c1)
      refine r_vret hX hT dX8_putBack_26 ?_
      exact ⟨rfl, rfl⟩
  refine r_iconst 1 hX dX8_putBack_0 (v := 0) (by decide) ?_
  refine r_istore_n 2 hX dX8_putBack_1 rfl ?_
  exact lp
def bby (v s : Int32) : Int32 := (v >>> (s &&& 31)).toInt8.toInt32
def apB (M : mx_Mem) (n : Nat) (c : Int32) : mx_Mem := mI (mI M 46 10 (nI n + 1)) 56 n c
def msg (M : mx_Mem) (n : Nat) (v : Int32) : mx_Mem := apB (apB (apB (apB (th0 M) n (bby v 24)) (n + 1) (bby v 16)) (n + 1 + 1) (bby v 8)) (n + 1 + 1 + 1) (bby v 0)
set_option maxRecDepth 100000 in
set_option maxHeartbeats 4000000 in
theorem tX8_sign_ok {l : Launch} {G : mx_G} {v : Int32} {n : Nat} {M : mx_Mem} (hn : M.1 46 10 = nI n) (hl : n + 4 ≤ 100) : mx_Met l G yX8_sign cX8_sign 3 ((some FieldType.int)) 0 0 [.ref 46, .int v] M (mx_F (some (.int (nI (n + 4)))) (msg M n v)) := by
  refine mx_enter (own := RX8) (L := [.ref 46, .int v, .null]) (by decide +kernel) rfl rfl rfl ?_
  intro X hlX hX hR hT
  have a4 : M.1 46 10 + 4 ≤ 100 := by rw [hn]; exact (show nI n + nI 4 ≤ nI 100 by rw [nI_add]; exact nI_le hl (by omega))
  refine r_aload_n 1 hX dX8_sign_0 rfl ?_
  refine r_iconst 2 hX dX8_sign_1 (v := 0) (by decide) ?_
  refine r_putI 5 hX dX8_sign_2 fX8_63 fp8_13 rfl rfl rfl ?_
  refine r_aload_n 6 hX dX8_sign_5 rfl ?_
  refine r_getI 9 hX dX8_sign_6 fX8_135 rfl rfl rfl ?_
  refine r_iconst 10 hX dX8_sign_9 (v := 4) (by decide) ?_
  refine r_iadd 11 hX dX8_sign_10 ?_
  refine r_bipush 13 hX dX8_sign_11 (v := 100) (by decide) ?_
  refine r_icmp_le 16 18 hX dX8_sign_13 (fun c1 => ?_) (fun c1 => absurd a4 c1)
  refine r_iconst 19 hX dX8_sign_18 (v := 3) (by decide) ?_
  refine r_istore_n 20 hX dX8_sign_19 rfl ?_
  refine r_iload_n 21 hX dX8_sign_20 rfl ?_
  refine r_If_lt 24 53 hX dX8_sign_21 (fun c => absurd c (by decide)) (fun _ => ?_)
  refine r_aload_n 25 hX dX8_sign_24 rfl ?_
  refine r_getR 28 hX dX8_sign_25 fX8_38 rfl rfl rfl ?_
  refine r_aload_n 29 hX dX8_sign_28 rfl ?_
  refine r_dup 30 hX dX8_sign_29 rfl ?_
  refine r_getI 33 hX dX8_sign_30 fX8_135 rfl rfl rfl ?_
  refine mx_top (by first | exact hn | exact nI_1 _) ?_
  refine r_dup_x1 34 hX dX8_sign_33 rfl rfl ?_
  refine r_iconst 35 hX dX8_sign_34 (v := 1) (by decide) ?_
  refine r_iadd 36 hX dX8_sign_35 ?_
  refine r_putI 39 hX dX8_sign_36 fX8_135 fp8_10 rfl rfl rfl ?_
  refine r_iload_n 40 hX dX8_sign_39 rfl ?_
  refine r_bipush 42 hX dX8_sign_40 (v := 8) (by decide) ?_
  refine r_iload_n 43 hX dX8_sign_42 rfl ?_
  refine r_imulK 44 hX dX8_sign_43 (w := 24) (by decide) ?_
  refine r_ishr 45 hX dX8_sign_44 ?_
  refine r_i2b 46 hX dX8_sign_45 ?_
  refine r_bastK 47 hX dX8_sign_46 rfl rfl (vp_in_nI (by omega) (by decide)) (nI_clamp (by omega)) (pk_vb _) ?_
  refine r_iincK 50 hX dX8_sign_47 rfl (w := 2) (by decide) rfl ?_
  refine r_goto 20 hX dX8_sign_50 ?_
  refine r_iload_n 21 hX dX8_sign_20 rfl ?_
  refine r_If_lt 24 53 hX dX8_sign_21 (fun c => absurd c (by decide)) (fun _ => ?_)
  refine r_aload_n 25 hX dX8_sign_24 rfl ?_
  refine r_getR 28 hX dX8_sign_25 fX8_38 rfl rfl rfl ?_
  refine r_aload_n 29 hX dX8_sign_28 rfl ?_
  refine r_dup 30 hX dX8_sign_29 rfl ?_
  refine r_getI 33 hX dX8_sign_30 fX8_135 rfl rfl rfl ?_
  refine mx_top (by first | exact hn | exact nI_1 _) ?_
  refine r_dup_x1 34 hX dX8_sign_33 rfl rfl ?_
  refine r_iconst 35 hX dX8_sign_34 (v := 1) (by decide) ?_
  refine r_iadd 36 hX dX8_sign_35 ?_
  refine r_putI 39 hX dX8_sign_36 fX8_135 fp8_10 rfl rfl rfl ?_
  refine r_iload_n 40 hX dX8_sign_39 rfl ?_
  refine r_bipush 42 hX dX8_sign_40 (v := 8) (by decide) ?_
  refine r_iload_n 43 hX dX8_sign_42 rfl ?_
  refine r_imulK 44 hX dX8_sign_43 (w := 16) (by decide) ?_
  refine r_ishr 45 hX dX8_sign_44 ?_
  refine r_i2b 46 hX dX8_sign_45 ?_
  refine r_bastK 47 hX dX8_sign_46 rfl rfl (vp_in_nI (by omega) (by decide)) (nI_clamp (by omega)) (pk_vb _) ?_
  refine r_iincK 50 hX dX8_sign_47 rfl (w := 1) (by decide) rfl ?_
  refine (show mx_WW G X 50 [_, _, _] _ _ from ?_)
  refine r_goto 20 hX dX8_sign_50 ?_
  refine r_iload_n 21 hX dX8_sign_20 rfl ?_
  refine r_If_lt 24 53 hX dX8_sign_21 (fun c => absurd c (by decide)) (fun _ => ?_)
  refine r_aload_n 25 hX dX8_sign_24 rfl ?_
  refine r_getR 28 hX dX8_sign_25 fX8_38 rfl rfl rfl ?_
  refine r_aload_n 29 hX dX8_sign_28 rfl ?_
  refine r_dup 30 hX dX8_sign_29 rfl ?_
  refine r_getI 33 hX dX8_sign_30 fX8_135 rfl rfl rfl ?_
  refine mx_top (by first | exact hn | exact nI_1 _) ?_
  refine r_dup_x1 34 hX dX8_sign_33 rfl rfl ?_
  refine r_iconst 35 hX dX8_sign_34 (v := 1) (by decide) ?_
  refine r_iadd 36 hX dX8_sign_35 ?_
  refine r_putI 39 hX dX8_sign_36 fX8_135 fp8_10 rfl rfl rfl ?_
  refine r_iload_n 40 hX dX8_sign_39 rfl ?_
  refine r_bipush 42 hX dX8_sign_40 (v := 8) (by decide) ?_
  refine r_iload_n 43 hX dX8_sign_42 rfl ?_
  refine r_imulK 44 hX dX8_sign_43 (w := 8) (by decide) ?_
  refine r_ishr 45 hX dX8_sign_44 ?_
  refine r_i2b 46 hX dX8_sign_45 ?_
  refine r_bastK 47 hX dX8_sign_46 rfl rfl (vp_in_nI (by omega) (by decide)) (nI_clamp (by omega)) (pk_vb _) ?_
  refine r_iincK 50 hX dX8_sign_47 rfl (w := 0) (by decide) rfl ?_
  refine r_goto 20 hX dX8_sign_50 ?_
  refine r_iload_n 21 hX dX8_sign_20 rfl ?_
  refine r_If_lt 24 53 hX dX8_sign_21 (fun c => absurd c (by decide)) (fun _ => ?_)
  refine r_aload_n 25 hX dX8_sign_24 rfl ?_
  refine r_getR 28 hX dX8_sign_25 fX8_38 rfl rfl rfl ?_
  refine r_aload_n 29 hX dX8_sign_28 rfl ?_
  refine r_dup 30 hX dX8_sign_29 rfl ?_
  refine r_getI 33 hX dX8_sign_30 fX8_135 rfl rfl rfl ?_
  refine mx_top (by first | exact hn | exact nI_1 _) ?_
  refine r_dup_x1 34 hX dX8_sign_33 rfl rfl ?_
  refine r_iconst 35 hX dX8_sign_34 (v := 1) (by decide) ?_
  refine r_iadd 36 hX dX8_sign_35 ?_
  refine r_putI 39 hX dX8_sign_36 fX8_135 fp8_10 rfl rfl rfl ?_
  refine r_iload_n 40 hX dX8_sign_39 rfl ?_
  refine r_bipush 42 hX dX8_sign_40 (v := 8) (by decide) ?_
  refine r_iload_n 43 hX dX8_sign_42 rfl ?_
  refine r_imulK 44 hX dX8_sign_43 (w := 0) (by decide) ?_
  refine r_ishr 45 hX dX8_sign_44 ?_
  refine r_i2b 46 hX dX8_sign_45 ?_
  refine r_bastK 47 hX dX8_sign_46 rfl rfl (vp_in_nI (by omega) (by decide)) (nI_clamp (by omega)) (pk_vb _) ?_
  refine r_iincK 50 hX dX8_sign_47 rfl (w := (-1)) (by decide) rfl ?_
  refine r_goto 20 hX dX8_sign_50 ?_
  refine r_iload_n 21 hX dX8_sign_20 rfl ?_
  refine r_If_lt 24 53 hX dX8_sign_21 (fun _ => ?_) (fun c => absurd c (by decide))
  refine r_aload_n 54 hX dX8_sign_53 rfl ?_
  refine r_getI 57 hX dX8_sign_54 fX8_135 rfl rfl rfl ?_
  refine r_iret hX hT dX8_sign_57 ?_
  refine ⟨?_, rfl⟩
  have e : nI (n + 1 + 1 + 1) + 1 = nI (n + 4) := nI_1 _
  rw [← e]
  rfl
set_option maxRecDepth 100000 in
set_option maxHeartbeats 4000000 in
theorem tX8_sign_no {l : Launch} {G : mx_G} {v : Int32} {n : Nat} {M : mx_Mem} (hn : M.1 46 10 = nI n) (hl : 100 < n + 4) (hm : n ≤ 100) : mx_Met l G yX8_sign cX8_sign 3 ((some FieldType.int)) 0 0 [.ref 46, .int v] M (mx_F (some (.int (-1))) (th0 M)) := by
  refine mx_enter (own := RX8) (L := [.ref 46, .int v, .null]) (by decide +kernel) rfl rfl rfl ?_
  intro X hlX hX hR hT
  have a4 : ¬ M.1 46 10 + 4 ≤ 100 := by rw [hn]; exact (show ¬ nI n + nI 4 ≤ nI 100 by rw [nI_add]; exact nI_ge hl (by omega))
  refine r_aload_n 1 hX dX8_sign_0 rfl ?_
  refine r_iconst 2 hX dX8_sign_1 (v := 0) (by decide) ?_
  refine r_putI 5 hX dX8_sign_2 fX8_63 fp8_13 rfl rfl rfl ?_
  refine r_aload_n 6 hX dX8_sign_5 rfl ?_
  refine r_getI 9 hX dX8_sign_6 fX8_135 rfl rfl rfl ?_
  refine r_iconst 10 hX dX8_sign_9 (v := 4) (by decide) ?_
  refine r_iadd 11 hX dX8_sign_10 ?_
  refine r_bipush 13 hX dX8_sign_11 (v := 100) (by decide) ?_
  refine r_icmp_le 16 18 hX dX8_sign_13 (fun c1 => absurd c1 a4) (fun c1 => ?_)
  refine r_iconst 17 hX dX8_sign_16 (v := -1) (by decide) ?_
  refine r_iret hX hT dX8_sign_17 ?_
  exact ⟨rfl, rfl⟩
def mrb (f : Nat → Int32) (a e : Nat) (k : Nat) : Int32 := if a + k < e then f (a + k) else -1
def mrd (f : Nat → Int32) (a e : Nat) : Int32 :=
  if f a = 65 ∨ f a = 66 then 1 else if ¬ f a = 97 ∧ ¬ f a = 98 then -1 - nI a else if mrb f a e 1 = 33 ∨ mrb f a e 1 = 45 then 2
  else if ¬ mrb f a e 1 = 42 ∧ plo (mrb f a e 1) = -1 then -2 - nI a else if plo (mrb f a e 2) = -1 then -3 - nI a else 3
set_option maxRecDepth 100000 in
set_option maxHeartbeats 4000000 in
theorem tX8_reads {l : Launch} {G : mx_G} {a e : Nat} {M : mx_Mem} (ha : a < e) (he : e ≤ 100) : mx_Met l G yX8_reads cX8_reads 6 ((some FieldType.int)) 1 20 [.ref 46, .int (nI a), .int (nI e)] M (mx_F (some (.int (mrd (M.1 56) a e))) M) := by
  refine mx_enter (own := RX8) (L := [.ref 46, .int (nI a), .int (nI e), .null, .null, .null]) (by decide +kernel) rfl rfl rfl ?_
  intro X hlX hX hR hT
  have k1 : nI a + 1 = nI (a + 1) := nI_1 a
  have k2 : nI a + 2 = nI (a + 2) := nI_add a 2
  have b1 : ∀ k, k ≤ 2 → (nI e ≤ nI (a + k) → mrb (M.1 56) a e k = -1) ∧ (¬ nI e ≤ nI (a + k) → (a + k < e) ∧ mrb (M.1 56) a e k = M.1 56 (a + k)) := fun k hk => by
    unfold mrb
    by_cases h : a + k < e
    · exact ⟨fun q => absurd q (nI_ge h (by omega)), fun _ => ⟨h, if_pos h⟩⟩
    · exact ⟨fun _ => if_neg h, fun q => absurd (nI_le (by omega) (by omega)) q⟩
  refine r_aload_n 1 hX dX8_reads_0 rfl ?_
  refine r_getR 4 hX dX8_reads_1 fX8_38 rfl rfl rfl ?_
  refine r_iload_n 5 hX dX8_reads_4 rfl ?_
  refine r_baldK 6 hX dX8_reads_5 rfl rfl (vp_in_nI (show a < 100 by omega) (by decide)) (j := a) (nI_clamp (by omega)) ?_
  refine r_istore_n 7 hX dX8_reads_6 rfl ?_
  refine r_iload_n 8 hX dX8_reads_7 rfl ?_
  refine r_bipush 10 hX dX8_reads_8 (v := 65) (by decide) ?_
  refine r_icmp_eq 13 19 hX dX8_reads_10 (fun c1 => ?_) (fun c1 => ?_)
  · refine r_iconst 20 hX dX8_reads_19 (v := 1) (by decide) ?_
    refine r_iret hX hT dX8_reads_20 ?_
    clear hT hX hR hlX b1 k1 k2
    exact ⟨by first | (simp only [mrd, *, if_true, if_false, or_true, true_or, not_true, not_false_iff, and_true, true_and, and_false, false_and, or_self, and_self, or_false, false_or]; done) | (simp [mrd, *]; done) | (simp_all [mrd, plo]; done), rfl⟩
  · refine r_iload_n 14 hX dX8_reads_13 rfl ?_
    refine r_bipush 16 hX dX8_reads_14 (v := 66) (by decide) ?_
    refine r_icmp_ne 19 21 hX dX8_reads_16 (fun c2 => ?_) (fun c2 => ?_)
    · refine r_iload_n 22 hX dX8_reads_21 rfl ?_
      refine r_bipush 24 hX dX8_reads_22 (v := 97) (by decide) ?_
      refine r_icmp_eq 27 37 hX dX8_reads_24 (fun c3 => ?_) (fun c3 => ?_)
      · refine r_iload_n 38 hX dX8_reads_37 rfl ?_
        refine r_iconst 39 hX dX8_reads_38 (v := 1) (by decide) ?_
        refine r_iadd 40 hX dX8_reads_39 ?_
        rw [k1]
        refine r_iload_n 41 hX dX8_reads_40 rfl ?_
        refine r_icmp_ge 44 55 hX dX8_reads_41 (fun c4 => ?_) (fun c4 => ?_)
        · have e1 := (b1 1 (by decide)).1 (by assumption)
          refine r_iconst 56 hX dX8_reads_55 (v := -1) (by decide) ?_
          refine r_istore 58 hX dX8_reads_56 rfl ?_
          refine r_iload 60 hX dX8_reads_58 rfl ?_
          refine r_bipush 62 hX dX8_reads_60 (v := 33) (by decide) ?_
          refine r_icmp_eq 65 72 hX dX8_reads_62 (fun c => absurd c (by decide)) (fun _ => ?_)
          refine r_iload 67 hX dX8_reads_65 rfl ?_
          refine r_bipush 69 hX dX8_reads_67 (v := 45) (by decide) ?_
          refine r_icmp_ne 72 74 hX dX8_reads_69 (fun _ => ?_) (fun c => absurd c (by decide))
          refine r_iload 76 hX dX8_reads_74 rfl ?_
          refine r_bipush 78 hX dX8_reads_76 (v := 42) (by decide) ?_
          refine r_icmp_eq 81 95 hX dX8_reads_78 (fun c => absurd c (by decide)) (fun _ => ?_)
          refine r_iload 83 hX dX8_reads_81 rfl ?_
          refine r_cS1F 86 hX hR tX8_playerOf dX8_reads_83 kX8_playerOf lX8_144 rfl rfl rfl ?_
          refine r_iconst 87 hX dX8_reads_86 (v := -1) (by decide) ?_
          refine r_icmp_ne 90 95 hX dX8_reads_87 (fun c5 => ?_) (fun c5 => ?_)
          · refine r_iload_n 96 hX dX8_reads_95 rfl ?_
            refine r_iconst 97 hX dX8_reads_96 (v := 2) (by decide) ?_
            refine r_iadd 98 hX dX8_reads_97 ?_
            rw [k2]
            refine r_iload_n 99 hX dX8_reads_98 rfl ?_
            refine r_icmp_ge 102 113 hX dX8_reads_99 (fun c6 => ?_) (fun c6 => ?_)
            · have e2 := (b1 2 (by decide)).1 (by assumption)
              refine r_iconst 114 hX dX8_reads_113 (v := -1) (by decide) ?_
              refine r_istore 116 hX dX8_reads_114 rfl ?_
              refine (show mx_WW G X 116 [_, _, _, _, _, _] _ _ from ?_)
              refine r_iload 118 hX dX8_reads_116 rfl ?_
              refine r_cS1F 121 hX hR tX8_playerOf dX8_reads_118 kX8_playerOf lX8_144 rfl rfl rfl ?_
              refine r_iconst 122 hX dX8_reads_121 (v := -1) (by decide) ?_
              refine r_icmp_ne 125 132 hX dX8_reads_122 (fun c7 => ?_) (fun c7 => ?_)
              · refine r_iconst 133 hX dX8_reads_132 (v := 3) (by decide) ?_
                refine r_iret hX hT dX8_reads_133 ?_
                clear hT hX hR hlX b1 k1 k2
                exact ⟨by first | (simp only [mrd, *, if_true, if_false, or_true, true_or, not_true, not_false_iff, and_true, true_and, and_false, false_and, or_self, and_self, or_false, false_or]; done) | (simp [mrd, *]; done) | (simp_all [mrd, plo]; done), rfl⟩
              · refine r_bipush 127 hX dX8_reads_125 (v := -3) (by decide) ?_
                refine r_iload_n 128 hX dX8_reads_127 rfl ?_
                refine r_isub 129 hX dX8_reads_128 ?_
                refine r_goto 133 hX dX8_reads_129 ?_
                refine r_iret hX hT dX8_reads_133 ?_
                clear hT hX hR hlX b1 k1 k2
                exact ⟨by first | (simp only [mrd, *, if_true, if_false, or_true, true_or, not_true, not_false_iff, and_true, true_and, and_false, false_and, or_self, and_self, or_false, false_or]; done) | (simp [mrd, *]; done) | (simp_all [mrd, plo]; done), rfl⟩
            · obtain ⟨l2, e2⟩ := (b1 2 (by decide)).2 (by assumption)
              refine r_aload_n 103 hX dX8_reads_102 rfl ?_
              refine r_getR 106 hX dX8_reads_103 fX8_38 rfl rfl rfl ?_
              refine r_iload_n 107 hX dX8_reads_106 rfl ?_
              refine r_iconst 108 hX dX8_reads_107 (v := 2) (by decide) ?_
              refine r_iadd 109 hX dX8_reads_108 ?_
              rw [k2]
              refine r_baldK 110 hX dX8_reads_109 rfl rfl (vp_in_nI (show a + 2 < 100 by omega) (by decide)) (j := a + 2) (nI_clamp (by omega)) ?_
              refine r_goto 114 hX dX8_reads_110 ?_
              refine r_istore 116 hX dX8_reads_114 rfl ?_
              refine (show mx_WW G X 116 [_, _, _, _, _, _] _ _ from ?_)
              refine r_iload 118 hX dX8_reads_116 rfl ?_
              refine r_cS1F 121 hX hR tX8_playerOf dX8_reads_118 kX8_playerOf lX8_144 rfl rfl rfl ?_
              refine r_iconst 122 hX dX8_reads_121 (v := -1) (by decide) ?_
              refine r_icmp_ne 125 132 hX dX8_reads_122 (fun c7 => ?_) (fun c7 => ?_)
              · refine r_iconst 133 hX dX8_reads_132 (v := 3) (by decide) ?_
                refine r_iret hX hT dX8_reads_133 ?_
                clear hT hX hR hlX b1 k1 k2
                exact ⟨by first | (simp only [mrd, *, if_true, if_false, or_true, true_or, not_true, not_false_iff, and_true, true_and, and_false, false_and, or_self, and_self, or_false, false_or]; done) | (simp [mrd, *]; done) | (simp_all [mrd, plo]; done), rfl⟩
              · refine r_bipush 127 hX dX8_reads_125 (v := -3) (by decide) ?_
                refine r_iload_n 128 hX dX8_reads_127 rfl ?_
                refine r_isub 129 hX dX8_reads_128 ?_
                refine r_goto 133 hX dX8_reads_129 ?_
                refine r_iret hX hT dX8_reads_133 ?_
                clear hT hX hR hlX b1 k1 k2
                exact ⟨by first | (simp only [mrd, *, if_true, if_false, or_true, true_or, not_true, not_false_iff, and_true, true_and, and_false, false_and, or_self, and_self, or_false, false_or]; done) | (simp [mrd, *]; done) | (simp_all [mrd, plo]; done), rfl⟩
          · refine r_bipush 92 hX dX8_reads_90 (v := -2) (by decide) ?_
            refine r_iload_n 93 hX dX8_reads_92 rfl ?_
            refine r_isub 94 hX dX8_reads_93 ?_
            refine r_iret hX hT dX8_reads_94 ?_
            clear hT hX hR hlX b1 k1 k2
            exact ⟨by first | (simp only [mrd, *, if_true, if_false, or_true, true_or, not_true, not_false_iff, and_true, true_and, and_false, false_and, or_self, and_self, or_false, false_or]; done) | (simp [mrd, *]; done) | (simp_all [mrd, plo]; done), rfl⟩
        · obtain ⟨l1, e1⟩ := (b1 1 (by decide)).2 (by assumption)
          refine r_aload_n 45 hX dX8_reads_44 rfl ?_
          refine r_getR 48 hX dX8_reads_45 fX8_38 rfl rfl rfl ?_
          refine r_iload_n 49 hX dX8_reads_48 rfl ?_
          refine r_iconst 50 hX dX8_reads_49 (v := 1) (by decide) ?_
          refine r_iadd 51 hX dX8_reads_50 ?_
          rw [k1]
          refine r_baldK 52 hX dX8_reads_51 rfl rfl (vp_in_nI (show a + 1 < 100 by omega) (by decide)) (j := a + 1) (nI_clamp (by omega)) ?_
          refine r_goto 56 hX dX8_reads_52 ?_
          refine r_istore 58 hX dX8_reads_56 rfl ?_
          refine r_iload 60 hX dX8_reads_58 rfl ?_
          refine r_bipush 62 hX dX8_reads_60 (v := 33) (by decide) ?_
          refine r_icmp_eq 65 72 hX dX8_reads_62 (fun c5 => ?_) (fun c5 => ?_)
          · refine r_iconst 73 hX dX8_reads_72 (v := 2) (by decide) ?_
            refine r_iret hX hT dX8_reads_73 ?_
            clear hT hX hR hlX b1 k1 k2
            exact ⟨by first | (simp only [mrd, *, if_true, if_false, or_true, true_or, not_true, not_false_iff, and_true, true_and, and_false, false_and, or_self, and_self, or_false, false_or]; done) | (simp [mrd, *]; done) | (simp_all [mrd, plo]; done), rfl⟩
          · refine r_iload 67 hX dX8_reads_65 rfl ?_
            refine r_bipush 69 hX dX8_reads_67 (v := 45) (by decide) ?_
            refine r_icmp_ne 72 74 hX dX8_reads_69 (fun c6 => ?_) (fun c6 => ?_)
            · refine r_iload 76 hX dX8_reads_74 rfl ?_
              refine r_bipush 78 hX dX8_reads_76 (v := 42) (by decide) ?_
              refine r_icmp_eq 81 95 hX dX8_reads_78 (fun c7 => ?_) (fun c7 => ?_)
              · refine r_iload_n 96 hX dX8_reads_95 rfl ?_
                refine r_iconst 97 hX dX8_reads_96 (v := 2) (by decide) ?_
                refine r_iadd 98 hX dX8_reads_97 ?_
                rw [k2]
                refine r_iload_n 99 hX dX8_reads_98 rfl ?_
                refine r_icmp_ge 102 113 hX dX8_reads_99 (fun c8 => ?_) (fun c8 => ?_)
                · have e2 := (b1 2 (by decide)).1 (by assumption)
                  refine r_iconst 114 hX dX8_reads_113 (v := -1) (by decide) ?_
                  refine r_istore 116 hX dX8_reads_114 rfl ?_
                  refine (show mx_WW G X 116 [_, _, _, _, _, _] _ _ from ?_)
                  refine r_iload 118 hX dX8_reads_116 rfl ?_
                  refine r_cS1F 121 hX hR tX8_playerOf dX8_reads_118 kX8_playerOf lX8_144 rfl rfl rfl ?_
                  refine r_iconst 122 hX dX8_reads_121 (v := -1) (by decide) ?_
                  refine r_icmp_ne 125 132 hX dX8_reads_122 (fun c9 => ?_) (fun c9 => ?_)
                  · refine r_iconst 133 hX dX8_reads_132 (v := 3) (by decide) ?_
                    refine r_iret hX hT dX8_reads_133 ?_
                    clear hT hX hR hlX b1 k1 k2
                    exact ⟨by first | (simp only [mrd, *, if_true, if_false, or_true, true_or, not_true, not_false_iff, and_true, true_and, and_false, false_and, or_self, and_self, or_false, false_or]; done) | (simp [mrd, *]; done) | (simp_all [mrd, plo]; done), rfl⟩
                  · refine r_bipush 127 hX dX8_reads_125 (v := -3) (by decide) ?_
                    refine r_iload_n 128 hX dX8_reads_127 rfl ?_
                    refine r_isub 129 hX dX8_reads_128 ?_
                    refine r_goto 133 hX dX8_reads_129 ?_
                    refine r_iret hX hT dX8_reads_133 ?_
                    clear hT hX hR hlX b1 k1 k2
                    exact ⟨by first | (simp only [mrd, *, if_true, if_false, or_true, true_or, not_true, not_false_iff, and_true, true_and, and_false, false_and, or_self, and_self, or_false, false_or]; done) | (simp [mrd, *]; done) | (simp_all [mrd, plo]; done), rfl⟩
                · obtain ⟨l2, e2⟩ := (b1 2 (by decide)).2 (by assumption)
                  refine r_aload_n 103 hX dX8_reads_102 rfl ?_
                  refine r_getR 106 hX dX8_reads_103 fX8_38 rfl rfl rfl ?_
                  refine r_iload_n 107 hX dX8_reads_106 rfl ?_
                  refine r_iconst 108 hX dX8_reads_107 (v := 2) (by decide) ?_
                  refine r_iadd 109 hX dX8_reads_108 ?_
                  rw [k2]
                  refine r_baldK 110 hX dX8_reads_109 rfl rfl (vp_in_nI (show a + 2 < 100 by omega) (by decide)) (j := a + 2) (nI_clamp (by omega)) ?_
                  refine r_goto 114 hX dX8_reads_110 ?_
                  refine r_istore 116 hX dX8_reads_114 rfl ?_
                  refine (show mx_WW G X 116 [_, _, _, _, _, _] _ _ from ?_)
                  refine r_iload 118 hX dX8_reads_116 rfl ?_
                  refine r_cS1F 121 hX hR tX8_playerOf dX8_reads_118 kX8_playerOf lX8_144 rfl rfl rfl ?_
                  refine r_iconst 122 hX dX8_reads_121 (v := -1) (by decide) ?_
                  refine r_icmp_ne 125 132 hX dX8_reads_122 (fun c9 => ?_) (fun c9 => ?_)
                  · refine r_iconst 133 hX dX8_reads_132 (v := 3) (by decide) ?_
                    refine r_iret hX hT dX8_reads_133 ?_
                    clear hT hX hR hlX b1 k1 k2
                    exact ⟨by first | (simp only [mrd, *, if_true, if_false, or_true, true_or, not_true, not_false_iff, and_true, true_and, and_false, false_and, or_self, and_self, or_false, false_or]; done) | (simp [mrd, *]; done) | (simp_all [mrd, plo]; done), rfl⟩
                  · refine r_bipush 127 hX dX8_reads_125 (v := -3) (by decide) ?_
                    refine r_iload_n 128 hX dX8_reads_127 rfl ?_
                    refine r_isub 129 hX dX8_reads_128 ?_
                    refine r_goto 133 hX dX8_reads_129 ?_
                    refine r_iret hX hT dX8_reads_133 ?_
                    clear hT hX hR hlX b1 k1 k2
                    exact ⟨by first | (simp only [mrd, *, if_true, if_false, or_true, true_or, not_true, not_false_iff, and_true, true_and, and_false, false_and, or_self, and_self, or_false, false_or]; done) | (simp [mrd, *]; done) | (simp_all [mrd, plo]; done), rfl⟩
              · refine r_iload 83 hX dX8_reads_81 rfl ?_
                refine r_cS1F 86 hX hR tX8_playerOf dX8_reads_83 kX8_playerOf lX8_144 rfl rfl rfl ?_
                refine r_iconst 87 hX dX8_reads_86 (v := -1) (by decide) ?_
                refine r_icmp_ne 90 95 hX dX8_reads_87 (fun c8 => ?_) (fun c8 => ?_)
                · refine r_iload_n 96 hX dX8_reads_95 rfl ?_
                  refine r_iconst 97 hX dX8_reads_96 (v := 2) (by decide) ?_
                  refine r_iadd 98 hX dX8_reads_97 ?_
                  rw [k2]
                  refine r_iload_n 99 hX dX8_reads_98 rfl ?_
                  refine r_icmp_ge 102 113 hX dX8_reads_99 (fun c9 => ?_) (fun c9 => ?_)
                  · have e2 := (b1 2 (by decide)).1 (by assumption)
                    refine r_iconst 114 hX dX8_reads_113 (v := -1) (by decide) ?_
                    refine r_istore 116 hX dX8_reads_114 rfl ?_
                    refine (show mx_WW G X 116 [_, _, _, _, _, _] _ _ from ?_)
                    refine r_iload 118 hX dX8_reads_116 rfl ?_
                    refine r_cS1F 121 hX hR tX8_playerOf dX8_reads_118 kX8_playerOf lX8_144 rfl rfl rfl ?_
                    refine r_iconst 122 hX dX8_reads_121 (v := -1) (by decide) ?_
                    refine r_icmp_ne 125 132 hX dX8_reads_122 (fun c10 => ?_) (fun c10 => ?_)
                    · refine r_iconst 133 hX dX8_reads_132 (v := 3) (by decide) ?_
                      refine r_iret hX hT dX8_reads_133 ?_
                      clear hT hX hR hlX b1 k1 k2
                      exact ⟨by first | (simp only [mrd, *, if_true, if_false, or_true, true_or, not_true, not_false_iff, and_true, true_and, and_false, false_and, or_self, and_self, or_false, false_or]; done) | (simp [mrd, *]; done) | (simp_all [mrd, plo]; done), rfl⟩
                    · refine r_bipush 127 hX dX8_reads_125 (v := -3) (by decide) ?_
                      refine r_iload_n 128 hX dX8_reads_127 rfl ?_
                      refine r_isub 129 hX dX8_reads_128 ?_
                      refine r_goto 133 hX dX8_reads_129 ?_
                      refine r_iret hX hT dX8_reads_133 ?_
                      clear hT hX hR hlX b1 k1 k2
                      exact ⟨by first | (simp only [mrd, *, if_true, if_false, or_true, true_or, not_true, not_false_iff, and_true, true_and, and_false, false_and, or_self, and_self, or_false, false_or]; done) | (simp [mrd, *]; done) | (simp_all [mrd, plo]; done), rfl⟩
                  · obtain ⟨l2, e2⟩ := (b1 2 (by decide)).2 (by assumption)
                    refine r_aload_n 103 hX dX8_reads_102 rfl ?_
                    refine r_getR 106 hX dX8_reads_103 fX8_38 rfl rfl rfl ?_
                    refine r_iload_n 107 hX dX8_reads_106 rfl ?_
                    refine r_iconst 108 hX dX8_reads_107 (v := 2) (by decide) ?_
                    refine r_iadd 109 hX dX8_reads_108 ?_
                    rw [k2]
                    refine r_baldK 110 hX dX8_reads_109 rfl rfl (vp_in_nI (show a + 2 < 100 by omega) (by decide)) (j := a + 2) (nI_clamp (by omega)) ?_
                    refine r_goto 114 hX dX8_reads_110 ?_
                    refine r_istore 116 hX dX8_reads_114 rfl ?_
                    refine (show mx_WW G X 116 [_, _, _, _, _, _] _ _ from ?_)
                    refine r_iload 118 hX dX8_reads_116 rfl ?_
                    refine r_cS1F 121 hX hR tX8_playerOf dX8_reads_118 kX8_playerOf lX8_144 rfl rfl rfl ?_
                    refine r_iconst 122 hX dX8_reads_121 (v := -1) (by decide) ?_
                    refine r_icmp_ne 125 132 hX dX8_reads_122 (fun c10 => ?_) (fun c10 => ?_)
                    · refine r_iconst 133 hX dX8_reads_132 (v := 3) (by decide) ?_
                      refine r_iret hX hT dX8_reads_133 ?_
                      clear hT hX hR hlX b1 k1 k2
                      exact ⟨by first | (simp only [mrd, *, if_true, if_false, or_true, true_or, not_true, not_false_iff, and_true, true_and, and_false, false_and, or_self, and_self, or_false, false_or]; done) | (simp [mrd, *]; done) | (simp_all [mrd, plo]; done), rfl⟩
                    · refine r_bipush 127 hX dX8_reads_125 (v := -3) (by decide) ?_
                      refine r_iload_n 128 hX dX8_reads_127 rfl ?_
                      refine r_isub 129 hX dX8_reads_128 ?_
                      refine r_goto 133 hX dX8_reads_129 ?_
                      refine r_iret hX hT dX8_reads_133 ?_
                      clear hT hX hR hlX b1 k1 k2
                      exact ⟨by first | (simp only [mrd, *, if_true, if_false, or_true, true_or, not_true, not_false_iff, and_true, true_and, and_false, false_and, or_self, and_self, or_false, false_or]; done) | (simp [mrd, *]; done) | (simp_all [mrd, plo]; done), rfl⟩
                · refine r_bipush 92 hX dX8_reads_90 (v := -2) (by decide) ?_
                  refine r_iload_n 93 hX dX8_reads_92 rfl ?_
                  refine r_isub 94 hX dX8_reads_93 ?_
                  refine r_iret hX hT dX8_reads_94 ?_
                  clear hT hX hR hlX b1 k1 k2
                  exact ⟨by first | (simp only [mrd, *, if_true, if_false, or_true, true_or, not_true, not_false_iff, and_true, true_and, and_false, false_and, or_self, and_self, or_false, false_or]; done) | (simp [mrd, *]; done) | (simp_all [mrd, plo]; done), rfl⟩
            · refine r_iconst 73 hX dX8_reads_72 (v := 2) (by decide) ?_
              refine r_iret hX hT dX8_reads_73 ?_
              clear hT hX hR hlX b1 k1 k2
              exact ⟨by first | (simp only [mrd, *, if_true, if_false, or_true, true_or, not_true, not_false_iff, and_true, true_and, and_false, false_and, or_self, and_self, or_false, false_or]; done) | (simp [mrd, *]; done) | (simp_all [mrd, plo]; done), rfl⟩
      · refine r_iload_n 28 hX dX8_reads_27 rfl ?_
        refine r_bipush 30 hX dX8_reads_28 (v := 98) (by decide) ?_
        refine r_icmp_eq 33 37 hX dX8_reads_30 (fun c4 => ?_) (fun c4 => ?_)
        · refine r_iload_n 38 hX dX8_reads_37 rfl ?_
          refine r_iconst 39 hX dX8_reads_38 (v := 1) (by decide) ?_
          refine r_iadd 40 hX dX8_reads_39 ?_
          rw [k1]
          refine r_iload_n 41 hX dX8_reads_40 rfl ?_
          refine r_icmp_ge 44 55 hX dX8_reads_41 (fun c5 => ?_) (fun c5 => ?_)
          · have e1 := (b1 1 (by decide)).1 (by assumption)
            refine r_iconst 56 hX dX8_reads_55 (v := -1) (by decide) ?_
            refine r_istore 58 hX dX8_reads_56 rfl ?_
            refine r_iload 60 hX dX8_reads_58 rfl ?_
            refine r_bipush 62 hX dX8_reads_60 (v := 33) (by decide) ?_
            refine r_icmp_eq 65 72 hX dX8_reads_62 (fun c => absurd c (by decide)) (fun _ => ?_)
            refine r_iload 67 hX dX8_reads_65 rfl ?_
            refine r_bipush 69 hX dX8_reads_67 (v := 45) (by decide) ?_
            refine r_icmp_ne 72 74 hX dX8_reads_69 (fun _ => ?_) (fun c => absurd c (by decide))
            refine r_iload 76 hX dX8_reads_74 rfl ?_
            refine r_bipush 78 hX dX8_reads_76 (v := 42) (by decide) ?_
            refine r_icmp_eq 81 95 hX dX8_reads_78 (fun c => absurd c (by decide)) (fun _ => ?_)
            refine r_iload 83 hX dX8_reads_81 rfl ?_
            refine r_cS1F 86 hX hR tX8_playerOf dX8_reads_83 kX8_playerOf lX8_144 rfl rfl rfl ?_
            refine r_iconst 87 hX dX8_reads_86 (v := -1) (by decide) ?_
            refine r_icmp_ne 90 95 hX dX8_reads_87 (fun c6 => ?_) (fun c6 => ?_)
            · refine r_iload_n 96 hX dX8_reads_95 rfl ?_
              refine r_iconst 97 hX dX8_reads_96 (v := 2) (by decide) ?_
              refine r_iadd 98 hX dX8_reads_97 ?_
              rw [k2]
              refine r_iload_n 99 hX dX8_reads_98 rfl ?_
              refine r_icmp_ge 102 113 hX dX8_reads_99 (fun c7 => ?_) (fun c7 => ?_)
              · have e2 := (b1 2 (by decide)).1 (by assumption)
                refine r_iconst 114 hX dX8_reads_113 (v := -1) (by decide) ?_
                refine r_istore 116 hX dX8_reads_114 rfl ?_
                refine (show mx_WW G X 116 [_, _, _, _, _, _] _ _ from ?_)
                refine r_iload 118 hX dX8_reads_116 rfl ?_
                refine r_cS1F 121 hX hR tX8_playerOf dX8_reads_118 kX8_playerOf lX8_144 rfl rfl rfl ?_
                refine r_iconst 122 hX dX8_reads_121 (v := -1) (by decide) ?_
                refine r_icmp_ne 125 132 hX dX8_reads_122 (fun c8 => ?_) (fun c8 => ?_)
                · refine r_iconst 133 hX dX8_reads_132 (v := 3) (by decide) ?_
                  refine r_iret hX hT dX8_reads_133 ?_
                  clear hT hX hR hlX b1 k1 k2
                  exact ⟨by first | (simp only [mrd, *, if_true, if_false, or_true, true_or, not_true, not_false_iff, and_true, true_and, and_false, false_and, or_self, and_self, or_false, false_or]; done) | (simp [mrd, *]; done) | (simp_all [mrd, plo]; done), rfl⟩
                · refine r_bipush 127 hX dX8_reads_125 (v := -3) (by decide) ?_
                  refine r_iload_n 128 hX dX8_reads_127 rfl ?_
                  refine r_isub 129 hX dX8_reads_128 ?_
                  refine r_goto 133 hX dX8_reads_129 ?_
                  refine r_iret hX hT dX8_reads_133 ?_
                  clear hT hX hR hlX b1 k1 k2
                  exact ⟨by first | (simp only [mrd, *, if_true, if_false, or_true, true_or, not_true, not_false_iff, and_true, true_and, and_false, false_and, or_self, and_self, or_false, false_or]; done) | (simp [mrd, *]; done) | (simp_all [mrd, plo]; done), rfl⟩
              · obtain ⟨l2, e2⟩ := (b1 2 (by decide)).2 (by assumption)
                refine r_aload_n 103 hX dX8_reads_102 rfl ?_
                refine r_getR 106 hX dX8_reads_103 fX8_38 rfl rfl rfl ?_
                refine r_iload_n 107 hX dX8_reads_106 rfl ?_
                refine r_iconst 108 hX dX8_reads_107 (v := 2) (by decide) ?_
                refine r_iadd 109 hX dX8_reads_108 ?_
                rw [k2]
                refine r_baldK 110 hX dX8_reads_109 rfl rfl (vp_in_nI (show a + 2 < 100 by omega) (by decide)) (j := a + 2) (nI_clamp (by omega)) ?_
                refine r_goto 114 hX dX8_reads_110 ?_
                refine r_istore 116 hX dX8_reads_114 rfl ?_
                refine (show mx_WW G X 116 [_, _, _, _, _, _] _ _ from ?_)
                refine r_iload 118 hX dX8_reads_116 rfl ?_
                refine r_cS1F 121 hX hR tX8_playerOf dX8_reads_118 kX8_playerOf lX8_144 rfl rfl rfl ?_
                refine r_iconst 122 hX dX8_reads_121 (v := -1) (by decide) ?_
                refine r_icmp_ne 125 132 hX dX8_reads_122 (fun c8 => ?_) (fun c8 => ?_)
                · refine r_iconst 133 hX dX8_reads_132 (v := 3) (by decide) ?_
                  refine r_iret hX hT dX8_reads_133 ?_
                  clear hT hX hR hlX b1 k1 k2
                  exact ⟨by first | (simp only [mrd, *, if_true, if_false, or_true, true_or, not_true, not_false_iff, and_true, true_and, and_false, false_and, or_self, and_self, or_false, false_or]; done) | (simp [mrd, *]; done) | (simp_all [mrd, plo]; done), rfl⟩
                · refine r_bipush 127 hX dX8_reads_125 (v := -3) (by decide) ?_
                  refine r_iload_n 128 hX dX8_reads_127 rfl ?_
                  refine r_isub 129 hX dX8_reads_128 ?_
                  refine r_goto 133 hX dX8_reads_129 ?_
                  refine r_iret hX hT dX8_reads_133 ?_
                  clear hT hX hR hlX b1 k1 k2
                  exact ⟨by first | (simp only [mrd, *, if_true, if_false, or_true, true_or, not_true, not_false_iff, and_true, true_and, and_false, false_and, or_self, and_self, or_false, false_or]; done) | (simp [mrd, *]; done) | (simp_all [mrd, plo]; done), rfl⟩
            · refine r_bipush 92 hX dX8_reads_90 (v := -2) (by decide) ?_
              refine r_iload_n 93 hX dX8_reads_92 rfl ?_
              refine r_isub 94 hX dX8_reads_93 ?_
              refine r_iret hX hT dX8_reads_94 ?_
              clear hT hX hR hlX b1 k1 k2
              exact ⟨by first | (simp only [mrd, *, if_true, if_false, or_true, true_or, not_true, not_false_iff, and_true, true_and, and_false, false_and, or_self, and_self, or_false, false_or]; done) | (simp [mrd, *]; done) | (simp_all [mrd, plo]; done), rfl⟩
          · obtain ⟨l1, e1⟩ := (b1 1 (by decide)).2 (by assumption)
            refine r_aload_n 45 hX dX8_reads_44 rfl ?_
            refine r_getR 48 hX dX8_reads_45 fX8_38 rfl rfl rfl ?_
            refine r_iload_n 49 hX dX8_reads_48 rfl ?_
            refine r_iconst 50 hX dX8_reads_49 (v := 1) (by decide) ?_
            refine r_iadd 51 hX dX8_reads_50 ?_
            rw [k1]
            refine r_baldK 52 hX dX8_reads_51 rfl rfl (vp_in_nI (show a + 1 < 100 by omega) (by decide)) (j := a + 1) (nI_clamp (by omega)) ?_
            refine r_goto 56 hX dX8_reads_52 ?_
            refine r_istore 58 hX dX8_reads_56 rfl ?_
            refine r_iload 60 hX dX8_reads_58 rfl ?_
            refine r_bipush 62 hX dX8_reads_60 (v := 33) (by decide) ?_
            refine r_icmp_eq 65 72 hX dX8_reads_62 (fun c6 => ?_) (fun c6 => ?_)
            · refine r_iconst 73 hX dX8_reads_72 (v := 2) (by decide) ?_
              refine r_iret hX hT dX8_reads_73 ?_
              clear hT hX hR hlX b1 k1 k2
              exact ⟨by first | (simp only [mrd, *, if_true, if_false, or_true, true_or, not_true, not_false_iff, and_true, true_and, and_false, false_and, or_self, and_self, or_false, false_or]; done) | (simp [mrd, *]; done) | (simp_all [mrd, plo]; done), rfl⟩
            · refine r_iload 67 hX dX8_reads_65 rfl ?_
              refine r_bipush 69 hX dX8_reads_67 (v := 45) (by decide) ?_
              refine r_icmp_ne 72 74 hX dX8_reads_69 (fun c7 => ?_) (fun c7 => ?_)
              · refine r_iload 76 hX dX8_reads_74 rfl ?_
                refine r_bipush 78 hX dX8_reads_76 (v := 42) (by decide) ?_
                refine r_icmp_eq 81 95 hX dX8_reads_78 (fun c8 => ?_) (fun c8 => ?_)
                · refine r_iload_n 96 hX dX8_reads_95 rfl ?_
                  refine r_iconst 97 hX dX8_reads_96 (v := 2) (by decide) ?_
                  refine r_iadd 98 hX dX8_reads_97 ?_
                  rw [k2]
                  refine r_iload_n 99 hX dX8_reads_98 rfl ?_
                  refine r_icmp_ge 102 113 hX dX8_reads_99 (fun c9 => ?_) (fun c9 => ?_)
                  · have e2 := (b1 2 (by decide)).1 (by assumption)
                    refine r_iconst 114 hX dX8_reads_113 (v := -1) (by decide) ?_
                    refine r_istore 116 hX dX8_reads_114 rfl ?_
                    refine (show mx_WW G X 116 [_, _, _, _, _, _] _ _ from ?_)
                    refine r_iload 118 hX dX8_reads_116 rfl ?_
                    refine r_cS1F 121 hX hR tX8_playerOf dX8_reads_118 kX8_playerOf lX8_144 rfl rfl rfl ?_
                    refine r_iconst 122 hX dX8_reads_121 (v := -1) (by decide) ?_
                    refine r_icmp_ne 125 132 hX dX8_reads_122 (fun c10 => ?_) (fun c10 => ?_)
                    · refine r_iconst 133 hX dX8_reads_132 (v := 3) (by decide) ?_
                      refine r_iret hX hT dX8_reads_133 ?_
                      clear hT hX hR hlX b1 k1 k2
                      exact ⟨by first | (simp only [mrd, *, if_true, if_false, or_true, true_or, not_true, not_false_iff, and_true, true_and, and_false, false_and, or_self, and_self, or_false, false_or]; done) | (simp [mrd, *]; done) | (simp_all [mrd, plo]; done), rfl⟩
                    · refine r_bipush 127 hX dX8_reads_125 (v := -3) (by decide) ?_
                      refine r_iload_n 128 hX dX8_reads_127 rfl ?_
                      refine r_isub 129 hX dX8_reads_128 ?_
                      refine r_goto 133 hX dX8_reads_129 ?_
                      refine r_iret hX hT dX8_reads_133 ?_
                      clear hT hX hR hlX b1 k1 k2
                      exact ⟨by first | (simp only [mrd, *, if_true, if_false, or_true, true_or, not_true, not_false_iff, and_true, true_and, and_false, false_and, or_self, and_self, or_false, false_or]; done) | (simp [mrd, *]; done) | (simp_all [mrd, plo]; done), rfl⟩
                  · obtain ⟨l2, e2⟩ := (b1 2 (by decide)).2 (by assumption)
                    refine r_aload_n 103 hX dX8_reads_102 rfl ?_
                    refine r_getR 106 hX dX8_reads_103 fX8_38 rfl rfl rfl ?_
                    refine r_iload_n 107 hX dX8_reads_106 rfl ?_
                    refine r_iconst 108 hX dX8_reads_107 (v := 2) (by decide) ?_
                    refine r_iadd 109 hX dX8_reads_108 ?_
                    rw [k2]
                    refine r_baldK 110 hX dX8_reads_109 rfl rfl (vp_in_nI (show a + 2 < 100 by omega) (by decide)) (j := a + 2) (nI_clamp (by omega)) ?_
                    refine r_goto 114 hX dX8_reads_110 ?_
                    refine r_istore 116 hX dX8_reads_114 rfl ?_
                    refine (show mx_WW G X 116 [_, _, _, _, _, _] _ _ from ?_)
                    refine r_iload 118 hX dX8_reads_116 rfl ?_
                    refine r_cS1F 121 hX hR tX8_playerOf dX8_reads_118 kX8_playerOf lX8_144 rfl rfl rfl ?_
                    refine r_iconst 122 hX dX8_reads_121 (v := -1) (by decide) ?_
                    refine r_icmp_ne 125 132 hX dX8_reads_122 (fun c10 => ?_) (fun c10 => ?_)
                    · refine r_iconst 133 hX dX8_reads_132 (v := 3) (by decide) ?_
                      refine r_iret hX hT dX8_reads_133 ?_
                      clear hT hX hR hlX b1 k1 k2
                      exact ⟨by first | (simp only [mrd, *, if_true, if_false, or_true, true_or, not_true, not_false_iff, and_true, true_and, and_false, false_and, or_self, and_self, or_false, false_or]; done) | (simp [mrd, *]; done) | (simp_all [mrd, plo]; done), rfl⟩
                    · refine r_bipush 127 hX dX8_reads_125 (v := -3) (by decide) ?_
                      refine r_iload_n 128 hX dX8_reads_127 rfl ?_
                      refine r_isub 129 hX dX8_reads_128 ?_
                      refine r_goto 133 hX dX8_reads_129 ?_
                      refine r_iret hX hT dX8_reads_133 ?_
                      clear hT hX hR hlX b1 k1 k2
                      exact ⟨by first | (simp only [mrd, *, if_true, if_false, or_true, true_or, not_true, not_false_iff, and_true, true_and, and_false, false_and, or_self, and_self, or_false, false_or]; done) | (simp [mrd, *]; done) | (simp_all [mrd, plo]; done), rfl⟩
                · refine r_iload 83 hX dX8_reads_81 rfl ?_
                  refine r_cS1F 86 hX hR tX8_playerOf dX8_reads_83 kX8_playerOf lX8_144 rfl rfl rfl ?_
                  refine r_iconst 87 hX dX8_reads_86 (v := -1) (by decide) ?_
                  refine r_icmp_ne 90 95 hX dX8_reads_87 (fun c9 => ?_) (fun c9 => ?_)
                  · refine r_iload_n 96 hX dX8_reads_95 rfl ?_
                    refine r_iconst 97 hX dX8_reads_96 (v := 2) (by decide) ?_
                    refine r_iadd 98 hX dX8_reads_97 ?_
                    rw [k2]
                    refine r_iload_n 99 hX dX8_reads_98 rfl ?_
                    refine r_icmp_ge 102 113 hX dX8_reads_99 (fun c10 => ?_) (fun c10 => ?_)
                    · have e2 := (b1 2 (by decide)).1 (by assumption)
                      refine r_iconst 114 hX dX8_reads_113 (v := -1) (by decide) ?_
                      refine r_istore 116 hX dX8_reads_114 rfl ?_
                      refine (show mx_WW G X 116 [_, _, _, _, _, _] _ _ from ?_)
                      refine r_iload 118 hX dX8_reads_116 rfl ?_
                      refine r_cS1F 121 hX hR tX8_playerOf dX8_reads_118 kX8_playerOf lX8_144 rfl rfl rfl ?_
                      refine r_iconst 122 hX dX8_reads_121 (v := -1) (by decide) ?_
                      refine r_icmp_ne 125 132 hX dX8_reads_122 (fun c11 => ?_) (fun c11 => ?_)
                      · refine r_iconst 133 hX dX8_reads_132 (v := 3) (by decide) ?_
                        refine r_iret hX hT dX8_reads_133 ?_
                        clear hT hX hR hlX b1 k1 k2
                        exact ⟨by first | (simp only [mrd, *, if_true, if_false, or_true, true_or, not_true, not_false_iff, and_true, true_and, and_false, false_and, or_self, and_self, or_false, false_or]; done) | (simp [mrd, *]; done) | (simp_all [mrd, plo]; done), rfl⟩
                      · refine r_bipush 127 hX dX8_reads_125 (v := -3) (by decide) ?_
                        refine r_iload_n 128 hX dX8_reads_127 rfl ?_
                        refine r_isub 129 hX dX8_reads_128 ?_
                        refine r_goto 133 hX dX8_reads_129 ?_
                        refine r_iret hX hT dX8_reads_133 ?_
                        clear hT hX hR hlX b1 k1 k2
                        exact ⟨by first | (simp only [mrd, *, if_true, if_false, or_true, true_or, not_true, not_false_iff, and_true, true_and, and_false, false_and, or_self, and_self, or_false, false_or]; done) | (simp [mrd, *]; done) | (simp_all [mrd, plo]; done), rfl⟩
                    · obtain ⟨l2, e2⟩ := (b1 2 (by decide)).2 (by assumption)
                      refine r_aload_n 103 hX dX8_reads_102 rfl ?_
                      refine r_getR 106 hX dX8_reads_103 fX8_38 rfl rfl rfl ?_
                      refine r_iload_n 107 hX dX8_reads_106 rfl ?_
                      refine r_iconst 108 hX dX8_reads_107 (v := 2) (by decide) ?_
                      refine r_iadd 109 hX dX8_reads_108 ?_
                      rw [k2]
                      refine r_baldK 110 hX dX8_reads_109 rfl rfl (vp_in_nI (show a + 2 < 100 by omega) (by decide)) (j := a + 2) (nI_clamp (by omega)) ?_
                      refine r_goto 114 hX dX8_reads_110 ?_
                      refine r_istore 116 hX dX8_reads_114 rfl ?_
                      refine (show mx_WW G X 116 [_, _, _, _, _, _] _ _ from ?_)
                      refine r_iload 118 hX dX8_reads_116 rfl ?_
                      refine r_cS1F 121 hX hR tX8_playerOf dX8_reads_118 kX8_playerOf lX8_144 rfl rfl rfl ?_
                      refine r_iconst 122 hX dX8_reads_121 (v := -1) (by decide) ?_
                      refine r_icmp_ne 125 132 hX dX8_reads_122 (fun c11 => ?_) (fun c11 => ?_)
                      · refine r_iconst 133 hX dX8_reads_132 (v := 3) (by decide) ?_
                        refine r_iret hX hT dX8_reads_133 ?_
                        clear hT hX hR hlX b1 k1 k2
                        exact ⟨by first | (simp only [mrd, *, if_true, if_false, or_true, true_or, not_true, not_false_iff, and_true, true_and, and_false, false_and, or_self, and_self, or_false, false_or]; done) | (simp [mrd, *]; done) | (simp_all [mrd, plo]; done), rfl⟩
                      · refine r_bipush 127 hX dX8_reads_125 (v := -3) (by decide) ?_
                        refine r_iload_n 128 hX dX8_reads_127 rfl ?_
                        refine r_isub 129 hX dX8_reads_128 ?_
                        refine r_goto 133 hX dX8_reads_129 ?_
                        refine r_iret hX hT dX8_reads_133 ?_
                        clear hT hX hR hlX b1 k1 k2
                        exact ⟨by first | (simp only [mrd, *, if_true, if_false, or_true, true_or, not_true, not_false_iff, and_true, true_and, and_false, false_and, or_self, and_self, or_false, false_or]; done) | (simp [mrd, *]; done) | (simp_all [mrd, plo]; done), rfl⟩
                  · refine r_bipush 92 hX dX8_reads_90 (v := -2) (by decide) ?_
                    refine r_iload_n 93 hX dX8_reads_92 rfl ?_
                    refine r_isub 94 hX dX8_reads_93 ?_
                    refine r_iret hX hT dX8_reads_94 ?_
                    clear hT hX hR hlX b1 k1 k2
                    exact ⟨by first | (simp only [mrd, *, if_true, if_false, or_true, true_or, not_true, not_false_iff, and_true, true_and, and_false, false_and, or_self, and_self, or_false, false_or]; done) | (simp [mrd, *]; done) | (simp_all [mrd, plo]; done), rfl⟩
              · refine r_iconst 73 hX dX8_reads_72 (v := 2) (by decide) ?_
                refine r_iret hX hT dX8_reads_73 ?_
                clear hT hX hR hlX b1 k1 k2
                exact ⟨by first | (simp only [mrd, *, if_true, if_false, or_true, true_or, not_true, not_false_iff, and_true, true_and, and_false, false_and, or_self, and_self, or_false, false_or]; done) | (simp [mrd, *]; done) | (simp_all [mrd, plo]; done), rfl⟩
        · refine r_iconst 34 hX dX8_reads_33 (v := -1) (by decide) ?_
          refine r_iload_n 35 hX dX8_reads_34 rfl ?_
          refine r_isub 36 hX dX8_reads_35 ?_
          refine r_iret hX hT dX8_reads_36 ?_
          clear hT hX hR hlX b1 k1 k2
          exact ⟨by first | (simp only [mrd, *, if_true, if_false, or_true, true_or, not_true, not_false_iff, and_true, true_and, and_false, false_and, or_self, and_self, or_false, false_or]; done) | (simp [mrd, *]; done) | (simp_all [mrd, plo]; done), rfl⟩
    · refine r_iconst 20 hX dX8_reads_19 (v := 1) (by decide) ?_
      refine r_iret hX hT dX8_reads_20 ?_
      clear hT hX hR hlX b1 k1 k2
      exact ⟨by first | (simp only [mrd, *, if_true, if_false, or_true, true_or, not_true, not_false_iff, and_true, true_and, and_false, false_and, or_self, and_self, or_false, false_or]; done) | (simp [mrd, *]; done) | (simp_all [mrd, plo]; done), rfl⟩

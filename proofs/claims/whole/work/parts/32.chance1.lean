/-! chances of the class: a rally -/
def th3 (fs fo : Nat → Int32) (r a b c : Nat) (w : Int32) : Int32 := (0 + sko fs (fo ((a + r) % 6)) w + sko fs (fo ((b + r) % 6)) w + sko fs (fo ((c + r) % 6)) w) / 3
set_option maxRecDepth 100000 in
set_option maxHeartbeats 4000000 in
theorem tX4_third_3_F {l : Launch} {G : mx_G} {r : Nat} {w : Int32} {M : mx_Mem} (hr : r ≤ 6) : mx_Met l G yX4_third cX4_third 7 ((some FieldType.int)) 1 23 [.ref 3, .ref 40, .int (nI r), .ref 62, .int w] M (mx_F (some (.int (th3 (M.1 4) (M.1 40) r 1 2 3 w))) M) := by
  refine mx_enter (own := RX4) (L := [.ref 3, .ref 40, .int (nI r), .ref 62, .int w, .null, .null]) (by decide +kernel) rfl rfl rfl ?_
  intro X hlX hX hR hT
  refine r_iconst 1 hX dX4_third_0 (v := 0) (by decide) ?_
  refine r_istore 3 hX dX4_third_1 rfl ?_
  refine r_iconst 4 hX dX4_third_3 (v := 0) (by decide) ?_
  refine r_istore 6 hX dX4_third_4 rfl ?_
  refine r_iload 8 hX dX4_third_6 rfl ?_
  refine r_aload_n 9 hX dX4_third_8 rfl ?_
  refine r_tlen 10 hX dX4_third_9 (j := 0) rfl (v := 3) (by decide) ?_
  refine r_icmp_ge 13 43 hX dX4_third_10 (fun c => absurd c (by decide)) (fun _ => ?_)
  refine r_iload 15 hX dX4_third_13 rfl ?_
  refine r_aload_n 16 hX dX4_third_15 rfl ?_
  refine r_aload_n 17 hX dX4_third_16 rfl ?_
  refine r_aload_n 18 hX dX4_third_17 rfl ?_
  refine r_iload 20 hX dX4_third_18 rfl ?_
  refine r_taldK 21 hX dX4_third_20 (j := 0) rfl (vpK rfl) (v := 1) (by decide) ?_
  refine r_iload_n 22 hX dX4_third_21 rfl ?_
  refine r_iadd 23 hX dX4_third_22 ?_
  refine mx_top (show (1 : Int32) + nI r = nI (1 + r) from nI_add 1 r) ?_
  refine r_bipush 25 hX dX4_third_23 (v := 6) (by decide) ?_
  refine r_cS2F 28 hX hR (tJ9_floorMod_7cf53 (a := 1 + r) (by omega)) dX4_third_25 kJ9_floorMod_7cf53 lX4_26 rfl rfl rfl ?_
  refine r_ialdK 29 hX dX4_third_28 rfl rfl (vp_in_nI (show (1 + r) % 6 < 6 by omega) (by decide)) (j := (1 + r) % 6) (nI_clamp (by omega)) ?_
  refine r_iload 31 hX dX4_third_29 rfl ?_
  refine r_cV2F 34 hX hR tX4_skillOf_3 dX4_third_31 kX4_skillOf lX4_32 rfl rfl rfl rfl rfl rfl ?_
  refine r_iadd 35 hX dX4_third_34 ?_
  refine r_istore 37 hX dX4_third_35 rfl ?_
  refine (show mx_WW G X 37 [_, _, _, _, _, _, _] _ _ from ?_)
  refine r_iincK 40 hX dX4_third_37 rfl (w := 1) (by decide) rfl ?_
  refine r_goto 6 hX dX4_third_40 ?_
  refine r_iload 8 hX dX4_third_6 rfl ?_
  refine r_aload_n 9 hX dX4_third_8 rfl ?_
  refine r_tlen 10 hX dX4_third_9 (j := 0) rfl (v := 3) (by decide) ?_
  refine r_icmp_ge 13 43 hX dX4_third_10 (fun c => absurd c (by decide)) (fun _ => ?_)
  refine r_iload 15 hX dX4_third_13 rfl ?_
  refine r_aload_n 16 hX dX4_third_15 rfl ?_
  refine r_aload_n 17 hX dX4_third_16 rfl ?_
  refine r_aload_n 18 hX dX4_third_17 rfl ?_
  refine r_iload 20 hX dX4_third_18 rfl ?_
  refine r_taldK 21 hX dX4_third_20 (j := 0) rfl (vpK rfl) (v := 2) (by decide) ?_
  refine r_iload_n 22 hX dX4_third_21 rfl ?_
  refine r_iadd 23 hX dX4_third_22 ?_
  refine mx_top (show (2 : Int32) + nI r = nI (2 + r) from nI_add 2 r) ?_
  refine r_bipush 25 hX dX4_third_23 (v := 6) (by decide) ?_
  refine r_cS2F 28 hX hR (tJ9_floorMod_7cf53 (a := 2 + r) (by omega)) dX4_third_25 kJ9_floorMod_7cf53 lX4_26 rfl rfl rfl ?_
  refine r_ialdK 29 hX dX4_third_28 rfl rfl (vp_in_nI (show (2 + r) % 6 < 6 by omega) (by decide)) (j := (2 + r) % 6) (nI_clamp (by omega)) ?_
  refine r_iload 31 hX dX4_third_29 rfl ?_
  refine r_cV2F 34 hX hR tX4_skillOf_3 dX4_third_31 kX4_skillOf lX4_32 rfl rfl rfl rfl rfl rfl ?_
  refine r_iadd 35 hX dX4_third_34 ?_
  refine r_istore 37 hX dX4_third_35 rfl ?_
  refine r_iincK 40 hX dX4_third_37 rfl (w := 2) (by decide) rfl ?_
  refine (show mx_WW G X 40 [_, _, _, _, _, _, _] _ _ from ?_)
  refine r_goto 6 hX dX4_third_40 ?_
  refine r_iload 8 hX dX4_third_6 rfl ?_
  refine r_aload_n 9 hX dX4_third_8 rfl ?_
  refine r_tlen 10 hX dX4_third_9 (j := 0) rfl (v := 3) (by decide) ?_
  refine r_icmp_ge 13 43 hX dX4_third_10 (fun c => absurd c (by decide)) (fun _ => ?_)
  refine r_iload 15 hX dX4_third_13 rfl ?_
  refine r_aload_n 16 hX dX4_third_15 rfl ?_
  refine r_aload_n 17 hX dX4_third_16 rfl ?_
  refine r_aload_n 18 hX dX4_third_17 rfl ?_
  refine r_iload 20 hX dX4_third_18 rfl ?_
  refine r_taldK 21 hX dX4_third_20 (j := 0) rfl (vpK rfl) (v := 3) (by decide) ?_
  refine r_iload_n 22 hX dX4_third_21 rfl ?_
  refine r_iadd 23 hX dX4_third_22 ?_
  refine mx_top (show (3 : Int32) + nI r = nI (3 + r) from nI_add 3 r) ?_
  refine r_bipush 25 hX dX4_third_23 (v := 6) (by decide) ?_
  refine r_cS2F 28 hX hR (tJ9_floorMod_7cf53 (a := 3 + r) (by omega)) dX4_third_25 kJ9_floorMod_7cf53 lX4_26 rfl rfl rfl ?_
  refine r_ialdK 29 hX dX4_third_28 rfl rfl (vp_in_nI (show (3 + r) % 6 < 6 by omega) (by decide)) (j := (3 + r) % 6) (nI_clamp (by omega)) ?_
  refine r_iload 31 hX dX4_third_29 rfl ?_
  refine r_cV2F 34 hX hR tX4_skillOf_3 dX4_third_31 kX4_skillOf lX4_32 rfl rfl rfl rfl rfl rfl ?_
  refine r_iadd 35 hX dX4_third_34 ?_
  refine r_istore 37 hX dX4_third_35 rfl ?_
  refine r_iincK 40 hX dX4_third_37 rfl (w := 3) (by decide) rfl ?_
  refine r_goto 6 hX dX4_third_40 ?_
  refine r_iload 8 hX dX4_third_6 rfl ?_
  refine r_aload_n 9 hX dX4_third_8 rfl ?_
  refine r_tlen 10 hX dX4_third_9 (j := 0) rfl (v := 3) (by decide) ?_
  refine r_icmp_ge 13 43 hX dX4_third_10 (fun _ => ?_) (fun c => absurd c (by decide))
  refine r_iload 45 hX dX4_third_43 rfl ?_
  refine r_iconst 46 hX dX4_third_45 (v := 3) (by decide) ?_
  refine r_idiv 47 hX dX4_third_46 (by decide) ?_
  refine r_iret hX hT dX4_third_47 ?_
  exact ⟨rfl, rfl⟩
set_option maxRecDepth 100000 in
set_option maxHeartbeats 4000000 in
theorem tX4_third_3_B {l : Launch} {G : mx_G} {r : Nat} {w : Int32} {M : mx_Mem} (hr : r ≤ 6) : mx_Met l G yX4_third cX4_third 7 ((some FieldType.int)) 1 23 [.ref 3, .ref 40, .int (nI r), .ref 63, .int w] M (mx_F (some (.int (th3 (M.1 4) (M.1 40) r 0 4 5 w))) M) := by
  refine mx_enter (own := RX4) (L := [.ref 3, .ref 40, .int (nI r), .ref 63, .int w, .null, .null]) (by decide +kernel) rfl rfl rfl ?_
  intro X hlX hX hR hT
  refine r_iconst 1 hX dX4_third_0 (v := 0) (by decide) ?_
  refine r_istore 3 hX dX4_third_1 rfl ?_
  refine r_iconst 4 hX dX4_third_3 (v := 0) (by decide) ?_
  refine r_istore 6 hX dX4_third_4 rfl ?_
  refine r_iload 8 hX dX4_third_6 rfl ?_
  refine r_aload_n 9 hX dX4_third_8 rfl ?_
  refine r_tlen 10 hX dX4_third_9 (j := 1) rfl (v := 3) (by decide) ?_
  refine r_icmp_ge 13 43 hX dX4_third_10 (fun c => absurd c (by decide)) (fun _ => ?_)
  refine r_iload 15 hX dX4_third_13 rfl ?_
  refine r_aload_n 16 hX dX4_third_15 rfl ?_
  refine r_aload_n 17 hX dX4_third_16 rfl ?_
  refine r_aload_n 18 hX dX4_third_17 rfl ?_
  refine r_iload 20 hX dX4_third_18 rfl ?_
  refine r_taldK 21 hX dX4_third_20 (j := 1) rfl (vpK rfl) (v := 0) (by decide) ?_
  refine r_iload_n 22 hX dX4_third_21 rfl ?_
  refine r_iadd 23 hX dX4_third_22 ?_
  refine mx_top (show (0 : Int32) + nI r = nI (0 + r) from nI_add 0 r) ?_
  refine r_bipush 25 hX dX4_third_23 (v := 6) (by decide) ?_
  refine r_cS2F 28 hX hR (tJ9_floorMod_7cf53 (a := 0 + r) (by omega)) dX4_third_25 kJ9_floorMod_7cf53 lX4_26 rfl rfl rfl ?_
  refine r_ialdK 29 hX dX4_third_28 rfl rfl (vp_in_nI (show (0 + r) % 6 < 6 by omega) (by decide)) (j := (0 + r) % 6) (nI_clamp (by omega)) ?_
  refine r_iload 31 hX dX4_third_29 rfl ?_
  refine r_cV2F 34 hX hR tX4_skillOf_3 dX4_third_31 kX4_skillOf lX4_32 rfl rfl rfl rfl rfl rfl ?_
  refine r_iadd 35 hX dX4_third_34 ?_
  refine r_istore 37 hX dX4_third_35 rfl ?_
  refine (show mx_WW G X 37 [_, _, _, _, _, _, _] _ _ from ?_)
  refine r_iincK 40 hX dX4_third_37 rfl (w := 1) (by decide) rfl ?_
  refine r_goto 6 hX dX4_third_40 ?_
  refine r_iload 8 hX dX4_third_6 rfl ?_
  refine r_aload_n 9 hX dX4_third_8 rfl ?_
  refine r_tlen 10 hX dX4_third_9 (j := 1) rfl (v := 3) (by decide) ?_
  refine r_icmp_ge 13 43 hX dX4_third_10 (fun c => absurd c (by decide)) (fun _ => ?_)
  refine r_iload 15 hX dX4_third_13 rfl ?_
  refine r_aload_n 16 hX dX4_third_15 rfl ?_
  refine r_aload_n 17 hX dX4_third_16 rfl ?_
  refine r_aload_n 18 hX dX4_third_17 rfl ?_
  refine r_iload 20 hX dX4_third_18 rfl ?_
  refine r_taldK 21 hX dX4_third_20 (j := 1) rfl (vpK rfl) (v := 4) (by decide) ?_
  refine r_iload_n 22 hX dX4_third_21 rfl ?_
  refine r_iadd 23 hX dX4_third_22 ?_
  refine mx_top (show (4 : Int32) + nI r = nI (4 + r) from nI_add 4 r) ?_
  refine r_bipush 25 hX dX4_third_23 (v := 6) (by decide) ?_
  refine r_cS2F 28 hX hR (tJ9_floorMod_7cf53 (a := 4 + r) (by omega)) dX4_third_25 kJ9_floorMod_7cf53 lX4_26 rfl rfl rfl ?_
  refine r_ialdK 29 hX dX4_third_28 rfl rfl (vp_in_nI (show (4 + r) % 6 < 6 by omega) (by decide)) (j := (4 + r) % 6) (nI_clamp (by omega)) ?_
  refine r_iload 31 hX dX4_third_29 rfl ?_
  refine r_cV2F 34 hX hR tX4_skillOf_3 dX4_third_31 kX4_skillOf lX4_32 rfl rfl rfl rfl rfl rfl ?_
  refine r_iadd 35 hX dX4_third_34 ?_
  refine r_istore 37 hX dX4_third_35 rfl ?_
  refine r_iincK 40 hX dX4_third_37 rfl (w := 2) (by decide) rfl ?_
  refine (show mx_WW G X 40 [_, _, _, _, _, _, _] _ _ from ?_)
  refine r_goto 6 hX dX4_third_40 ?_
  refine r_iload 8 hX dX4_third_6 rfl ?_
  refine r_aload_n 9 hX dX4_third_8 rfl ?_
  refine r_tlen 10 hX dX4_third_9 (j := 1) rfl (v := 3) (by decide) ?_
  refine r_icmp_ge 13 43 hX dX4_third_10 (fun c => absurd c (by decide)) (fun _ => ?_)
  refine r_iload 15 hX dX4_third_13 rfl ?_
  refine r_aload_n 16 hX dX4_third_15 rfl ?_
  refine r_aload_n 17 hX dX4_third_16 rfl ?_
  refine r_aload_n 18 hX dX4_third_17 rfl ?_
  refine r_iload 20 hX dX4_third_18 rfl ?_
  refine r_taldK 21 hX dX4_third_20 (j := 1) rfl (vpK rfl) (v := 5) (by decide) ?_
  refine r_iload_n 22 hX dX4_third_21 rfl ?_
  refine r_iadd 23 hX dX4_third_22 ?_
  refine mx_top (show (5 : Int32) + nI r = nI (5 + r) from nI_add 5 r) ?_
  refine r_bipush 25 hX dX4_third_23 (v := 6) (by decide) ?_
  refine r_cS2F 28 hX hR (tJ9_floorMod_7cf53 (a := 5 + r) (by omega)) dX4_third_25 kJ9_floorMod_7cf53 lX4_26 rfl rfl rfl ?_
  refine r_ialdK 29 hX dX4_third_28 rfl rfl (vp_in_nI (show (5 + r) % 6 < 6 by omega) (by decide)) (j := (5 + r) % 6) (nI_clamp (by omega)) ?_
  refine r_iload 31 hX dX4_third_29 rfl ?_
  refine r_cV2F 34 hX hR tX4_skillOf_3 dX4_third_31 kX4_skillOf lX4_32 rfl rfl rfl rfl rfl rfl ?_
  refine r_iadd 35 hX dX4_third_34 ?_
  refine r_istore 37 hX dX4_third_35 rfl ?_
  refine r_iincK 40 hX dX4_third_37 rfl (w := 3) (by decide) rfl ?_
  refine r_goto 6 hX dX4_third_40 ?_
  refine r_iload 8 hX dX4_third_6 rfl ?_
  refine r_aload_n 9 hX dX4_third_8 rfl ?_
  refine r_tlen 10 hX dX4_third_9 (j := 1) rfl (v := 3) (by decide) ?_
  refine r_icmp_ge 13 43 hX dX4_third_10 (fun _ => ?_) (fun c => absurd c (by decide))
  refine r_iload 45 hX dX4_third_43 rfl ?_
  refine r_iconst 46 hX dX4_third_45 (v := 3) (by decide) ?_
  refine r_idiv 47 hX dX4_third_46 (by decide) ?_
  refine r_iret hX hT dX4_third_47 ?_
  exact ⟨rfl, rfl⟩
set_option maxRecDepth 100000 in
set_option maxHeartbeats 4000000 in
theorem tX4_third_6_F {l : Launch} {G : mx_G} {r : Nat} {w : Int32} {M : mx_Mem} (hr : r ≤ 6) : mx_Met l G yX4_third cX4_third 7 ((some FieldType.int)) 1 23 [.ref 6, .ref 41, .int (nI r), .ref 62, .int w] M (mx_F (some (.int (th3 (M.1 7) (M.1 41) r 1 2 3 w))) M) := by
  refine mx_enter (own := RX4) (L := [.ref 6, .ref 41, .int (nI r), .ref 62, .int w, .null, .null]) (by decide +kernel) rfl rfl rfl ?_
  intro X hlX hX hR hT
  refine r_iconst 1 hX dX4_third_0 (v := 0) (by decide) ?_
  refine r_istore 3 hX dX4_third_1 rfl ?_
  refine r_iconst 4 hX dX4_third_3 (v := 0) (by decide) ?_
  refine r_istore 6 hX dX4_third_4 rfl ?_
  refine r_iload 8 hX dX4_third_6 rfl ?_
  refine r_aload_n 9 hX dX4_third_8 rfl ?_
  refine r_tlen 10 hX dX4_third_9 (j := 0) rfl (v := 3) (by decide) ?_
  refine r_icmp_ge 13 43 hX dX4_third_10 (fun c => absurd c (by decide)) (fun _ => ?_)
  refine r_iload 15 hX dX4_third_13 rfl ?_
  refine r_aload_n 16 hX dX4_third_15 rfl ?_
  refine r_aload_n 17 hX dX4_third_16 rfl ?_
  refine r_aload_n 18 hX dX4_third_17 rfl ?_
  refine r_iload 20 hX dX4_third_18 rfl ?_
  refine r_taldK 21 hX dX4_third_20 (j := 0) rfl (vpK rfl) (v := 1) (by decide) ?_
  refine r_iload_n 22 hX dX4_third_21 rfl ?_
  refine r_iadd 23 hX dX4_third_22 ?_
  refine mx_top (show (1 : Int32) + nI r = nI (1 + r) from nI_add 1 r) ?_
  refine r_bipush 25 hX dX4_third_23 (v := 6) (by decide) ?_
  refine r_cS2F 28 hX hR (tJ9_floorMod_7cf53 (a := 1 + r) (by omega)) dX4_third_25 kJ9_floorMod_7cf53 lX4_26 rfl rfl rfl ?_
  refine r_ialdK 29 hX dX4_third_28 rfl rfl (vp_in_nI (show (1 + r) % 6 < 6 by omega) (by decide)) (j := (1 + r) % 6) (nI_clamp (by omega)) ?_
  refine r_iload 31 hX dX4_third_29 rfl ?_
  refine r_cV2F 34 hX hR tX4_skillOf_6 dX4_third_31 kX4_skillOf lX4_32 rfl rfl rfl rfl rfl rfl ?_
  refine r_iadd 35 hX dX4_third_34 ?_
  refine r_istore 37 hX dX4_third_35 rfl ?_
  refine (show mx_WW G X 37 [_, _, _, _, _, _, _] _ _ from ?_)
  refine r_iincK 40 hX dX4_third_37 rfl (w := 1) (by decide) rfl ?_
  refine r_goto 6 hX dX4_third_40 ?_
  refine r_iload 8 hX dX4_third_6 rfl ?_
  refine r_aload_n 9 hX dX4_third_8 rfl ?_
  refine r_tlen 10 hX dX4_third_9 (j := 0) rfl (v := 3) (by decide) ?_
  refine r_icmp_ge 13 43 hX dX4_third_10 (fun c => absurd c (by decide)) (fun _ => ?_)
  refine r_iload 15 hX dX4_third_13 rfl ?_
  refine r_aload_n 16 hX dX4_third_15 rfl ?_
  refine r_aload_n 17 hX dX4_third_16 rfl ?_
  refine r_aload_n 18 hX dX4_third_17 rfl ?_
  refine r_iload 20 hX dX4_third_18 rfl ?_
  refine r_taldK 21 hX dX4_third_20 (j := 0) rfl (vpK rfl) (v := 2) (by decide) ?_
  refine r_iload_n 22 hX dX4_third_21 rfl ?_
  refine r_iadd 23 hX dX4_third_22 ?_
  refine mx_top (show (2 : Int32) + nI r = nI (2 + r) from nI_add 2 r) ?_
  refine r_bipush 25 hX dX4_third_23 (v := 6) (by decide) ?_
  refine r_cS2F 28 hX hR (tJ9_floorMod_7cf53 (a := 2 + r) (by omega)) dX4_third_25 kJ9_floorMod_7cf53 lX4_26 rfl rfl rfl ?_
  refine r_ialdK 29 hX dX4_third_28 rfl rfl (vp_in_nI (show (2 + r) % 6 < 6 by omega) (by decide)) (j := (2 + r) % 6) (nI_clamp (by omega)) ?_
  refine r_iload 31 hX dX4_third_29 rfl ?_
  refine r_cV2F 34 hX hR tX4_skillOf_6 dX4_third_31 kX4_skillOf lX4_32 rfl rfl rfl rfl rfl rfl ?_
  refine r_iadd 35 hX dX4_third_34 ?_
  refine r_istore 37 hX dX4_third_35 rfl ?_
  refine r_iincK 40 hX dX4_third_37 rfl (w := 2) (by decide) rfl ?_
  refine (show mx_WW G X 40 [_, _, _, _, _, _, _] _ _ from ?_)
  refine r_goto 6 hX dX4_third_40 ?_
  refine r_iload 8 hX dX4_third_6 rfl ?_
  refine r_aload_n 9 hX dX4_third_8 rfl ?_
  refine r_tlen 10 hX dX4_third_9 (j := 0) rfl (v := 3) (by decide) ?_
  refine r_icmp_ge 13 43 hX dX4_third_10 (fun c => absurd c (by decide)) (fun _ => ?_)
  refine r_iload 15 hX dX4_third_13 rfl ?_
  refine r_aload_n 16 hX dX4_third_15 rfl ?_
  refine r_aload_n 17 hX dX4_third_16 rfl ?_
  refine r_aload_n 18 hX dX4_third_17 rfl ?_
  refine r_iload 20 hX dX4_third_18 rfl ?_
  refine r_taldK 21 hX dX4_third_20 (j := 0) rfl (vpK rfl) (v := 3) (by decide) ?_
  refine r_iload_n 22 hX dX4_third_21 rfl ?_
  refine r_iadd 23 hX dX4_third_22 ?_
  refine mx_top (show (3 : Int32) + nI r = nI (3 + r) from nI_add 3 r) ?_
  refine r_bipush 25 hX dX4_third_23 (v := 6) (by decide) ?_
  refine r_cS2F 28 hX hR (tJ9_floorMod_7cf53 (a := 3 + r) (by omega)) dX4_third_25 kJ9_floorMod_7cf53 lX4_26 rfl rfl rfl ?_
  refine r_ialdK 29 hX dX4_third_28 rfl rfl (vp_in_nI (show (3 + r) % 6 < 6 by omega) (by decide)) (j := (3 + r) % 6) (nI_clamp (by omega)) ?_
  refine r_iload 31 hX dX4_third_29 rfl ?_
  refine r_cV2F 34 hX hR tX4_skillOf_6 dX4_third_31 kX4_skillOf lX4_32 rfl rfl rfl rfl rfl rfl ?_
  refine r_iadd 35 hX dX4_third_34 ?_
  refine r_istore 37 hX dX4_third_35 rfl ?_
  refine r_iincK 40 hX dX4_third_37 rfl (w := 3) (by decide) rfl ?_
  refine r_goto 6 hX dX4_third_40 ?_
  refine r_iload 8 hX dX4_third_6 rfl ?_
  refine r_aload_n 9 hX dX4_third_8 rfl ?_
  refine r_tlen 10 hX dX4_third_9 (j := 0) rfl (v := 3) (by decide) ?_
  refine r_icmp_ge 13 43 hX dX4_third_10 (fun _ => ?_) (fun c => absurd c (by decide))
  refine r_iload 45 hX dX4_third_43 rfl ?_
  refine r_iconst 46 hX dX4_third_45 (v := 3) (by decide) ?_
  refine r_idiv 47 hX dX4_third_46 (by decide) ?_
  refine r_iret hX hT dX4_third_47 ?_
  exact ⟨rfl, rfl⟩
set_option maxRecDepth 100000 in
set_option maxHeartbeats 4000000 in
theorem tX4_third_6_B {l : Launch} {G : mx_G} {r : Nat} {w : Int32} {M : mx_Mem} (hr : r ≤ 6) : mx_Met l G yX4_third cX4_third 7 ((some FieldType.int)) 1 23 [.ref 6, .ref 41, .int (nI r), .ref 63, .int w] M (mx_F (some (.int (th3 (M.1 7) (M.1 41) r 0 4 5 w))) M) := by
  refine mx_enter (own := RX4) (L := [.ref 6, .ref 41, .int (nI r), .ref 63, .int w, .null, .null]) (by decide +kernel) rfl rfl rfl ?_
  intro X hlX hX hR hT
  refine r_iconst 1 hX dX4_third_0 (v := 0) (by decide) ?_
  refine r_istore 3 hX dX4_third_1 rfl ?_
  refine r_iconst 4 hX dX4_third_3 (v := 0) (by decide) ?_
  refine r_istore 6 hX dX4_third_4 rfl ?_
  refine r_iload 8 hX dX4_third_6 rfl ?_
  refine r_aload_n 9 hX dX4_third_8 rfl ?_
  refine r_tlen 10 hX dX4_third_9 (j := 1) rfl (v := 3) (by decide) ?_
  refine r_icmp_ge 13 43 hX dX4_third_10 (fun c => absurd c (by decide)) (fun _ => ?_)
  refine r_iload 15 hX dX4_third_13 rfl ?_
  refine r_aload_n 16 hX dX4_third_15 rfl ?_
  refine r_aload_n 17 hX dX4_third_16 rfl ?_
  refine r_aload_n 18 hX dX4_third_17 rfl ?_
  refine r_iload 20 hX dX4_third_18 rfl ?_
  refine r_taldK 21 hX dX4_third_20 (j := 1) rfl (vpK rfl) (v := 0) (by decide) ?_
  refine r_iload_n 22 hX dX4_third_21 rfl ?_
  refine r_iadd 23 hX dX4_third_22 ?_
  refine mx_top (show (0 : Int32) + nI r = nI (0 + r) from nI_add 0 r) ?_
  refine r_bipush 25 hX dX4_third_23 (v := 6) (by decide) ?_
  refine r_cS2F 28 hX hR (tJ9_floorMod_7cf53 (a := 0 + r) (by omega)) dX4_third_25 kJ9_floorMod_7cf53 lX4_26 rfl rfl rfl ?_
  refine r_ialdK 29 hX dX4_third_28 rfl rfl (vp_in_nI (show (0 + r) % 6 < 6 by omega) (by decide)) (j := (0 + r) % 6) (nI_clamp (by omega)) ?_
  refine r_iload 31 hX dX4_third_29 rfl ?_
  refine r_cV2F 34 hX hR tX4_skillOf_6 dX4_third_31 kX4_skillOf lX4_32 rfl rfl rfl rfl rfl rfl ?_
  refine r_iadd 35 hX dX4_third_34 ?_
  refine r_istore 37 hX dX4_third_35 rfl ?_
  refine (show mx_WW G X 37 [_, _, _, _, _, _, _] _ _ from ?_)
  refine r_iincK 40 hX dX4_third_37 rfl (w := 1) (by decide) rfl ?_
  refine r_goto 6 hX dX4_third_40 ?_
  refine r_iload 8 hX dX4_third_6 rfl ?_
  refine r_aload_n 9 hX dX4_third_8 rfl ?_
  refine r_tlen 10 hX dX4_third_9 (j := 1) rfl (v := 3) (by decide) ?_
  refine r_icmp_ge 13 43 hX dX4_third_10 (fun c => absurd c (by decide)) (fun _ => ?_)
  refine r_iload 15 hX dX4_third_13 rfl ?_
  refine r_aload_n 16 hX dX4_third_15 rfl ?_
  refine r_aload_n 17 hX dX4_third_16 rfl ?_
  refine r_aload_n 18 hX dX4_third_17 rfl ?_
  refine r_iload 20 hX dX4_third_18 rfl ?_
  refine r_taldK 21 hX dX4_third_20 (j := 1) rfl (vpK rfl) (v := 4) (by decide) ?_
  refine r_iload_n 22 hX dX4_third_21 rfl ?_
  refine r_iadd 23 hX dX4_third_22 ?_
  refine mx_top (show (4 : Int32) + nI r = nI (4 + r) from nI_add 4 r) ?_
  refine r_bipush 25 hX dX4_third_23 (v := 6) (by decide) ?_
  refine r_cS2F 28 hX hR (tJ9_floorMod_7cf53 (a := 4 + r) (by omega)) dX4_third_25 kJ9_floorMod_7cf53 lX4_26 rfl rfl rfl ?_
  refine r_ialdK 29 hX dX4_third_28 rfl rfl (vp_in_nI (show (4 + r) % 6 < 6 by omega) (by decide)) (j := (4 + r) % 6) (nI_clamp (by omega)) ?_
  refine r_iload 31 hX dX4_third_29 rfl ?_
  refine r_cV2F 34 hX hR tX4_skillOf_6 dX4_third_31 kX4_skillOf lX4_32 rfl rfl rfl rfl rfl rfl ?_
  refine r_iadd 35 hX dX4_third_34 ?_
  refine r_istore 37 hX dX4_third_35 rfl ?_
  refine r_iincK 40 hX dX4_third_37 rfl (w := 2) (by decide) rfl ?_
  refine (show mx_WW G X 40 [_, _, _, _, _, _, _] _ _ from ?_)
  refine r_goto 6 hX dX4_third_40 ?_
  refine r_iload 8 hX dX4_third_6 rfl ?_
  refine r_aload_n 9 hX dX4_third_8 rfl ?_
  refine r_tlen 10 hX dX4_third_9 (j := 1) rfl (v := 3) (by decide) ?_
  refine r_icmp_ge 13 43 hX dX4_third_10 (fun c => absurd c (by decide)) (fun _ => ?_)
  refine r_iload 15 hX dX4_third_13 rfl ?_
  refine r_aload_n 16 hX dX4_third_15 rfl ?_
  refine r_aload_n 17 hX dX4_third_16 rfl ?_
  refine r_aload_n 18 hX dX4_third_17 rfl ?_
  refine r_iload 20 hX dX4_third_18 rfl ?_
  refine r_taldK 21 hX dX4_third_20 (j := 1) rfl (vpK rfl) (v := 5) (by decide) ?_
  refine r_iload_n 22 hX dX4_third_21 rfl ?_
  refine r_iadd 23 hX dX4_third_22 ?_
  refine mx_top (show (5 : Int32) + nI r = nI (5 + r) from nI_add 5 r) ?_
  refine r_bipush 25 hX dX4_third_23 (v := 6) (by decide) ?_
  refine r_cS2F 28 hX hR (tJ9_floorMod_7cf53 (a := 5 + r) (by omega)) dX4_third_25 kJ9_floorMod_7cf53 lX4_26 rfl rfl rfl ?_
  refine r_ialdK 29 hX dX4_third_28 rfl rfl (vp_in_nI (show (5 + r) % 6 < 6 by omega) (by decide)) (j := (5 + r) % 6) (nI_clamp (by omega)) ?_
  refine r_iload 31 hX dX4_third_29 rfl ?_
  refine r_cV2F 34 hX hR tX4_skillOf_6 dX4_third_31 kX4_skillOf lX4_32 rfl rfl rfl rfl rfl rfl ?_
  refine r_iadd 35 hX dX4_third_34 ?_
  refine r_istore 37 hX dX4_third_35 rfl ?_
  refine r_iincK 40 hX dX4_third_37 rfl (w := 3) (by decide) rfl ?_
  refine r_goto 6 hX dX4_third_40 ?_
  refine r_iload 8 hX dX4_third_6 rfl ?_
  refine r_aload_n 9 hX dX4_third_8 rfl ?_
  refine r_tlen 10 hX dX4_third_9 (j := 1) rfl (v := 3) (by decide) ?_
  refine r_icmp_ge 13 43 hX dX4_third_10 (fun _ => ?_) (fun c => absurd c (by decide))
  refine r_iload 45 hX dX4_third_43 rfl ?_
  refine r_iconst 46 hX dX4_third_45 (v := 3) (by decide) ?_
  refine r_idiv 47 hX dX4_third_46 (by decide) ?_
  refine r_iret hX hT dX4_third_47 ?_
  exact ⟨rfl, rfl⟩
def clp (x : Int32) : Int32 := if 50 ≤ (if 950 ≤ x then 950 else x) then (if 950 ≤ x then 950 else x) else 50
/-- own skills, other's skills, own order, other's order, own turns, other's turns -/
def rcF (fs gs fo go : Nat → Int32) (i j : Nat) : Int32 := clp (380 + sko fs (fo (i % 6)) 0 - th3 gs go j 0 4 5 1 + th3 fs fo i 1 2 3 3 - th3 gs go j 1 2 3 2)
set_option maxRecDepth 100000 in
set_option maxHeartbeats 4000000 in
theorem tX0_rallyChance_0 {l : Launch} {G : mx_G} {i j : Nat} {M : mx_Mem} (hi : i ≤ 6) (hj : j ≤ 6) : mx_Met l G yX0_rallyChance cX0_rallyChance 13 ((some FieldType.int)) 2 49 [.ref 39, .ref 3, .ref 6, .int (nI i), .int (nI j), .int 0] M (mx_F (some (.int (rcF (M.1 4) (M.1 7) (M.1 40) (M.1 41) i j))) M) := by
  refine mx_enter (own := RX0) (L := [.ref 39, .ref 3, .ref 6, .int (nI i), .int (nI j), .int 0, .null, .null, .null, .null, .null, .null, .null]) (by decide +kernel) rfl rfl rfl ?_
  intro X hlX hX hR hT
  refine r_iload 2 hX dX0_rallyChance_0 rfl ?_
  refine r_if_ne 5 9 hX dX0_rallyChance_2 (fun c => absurd c (by decide)) (fun _ => ?_)
  refine r_aload_n 6 hX dX0_rallyChance_5 rfl ?_
  refine r_goto 10 hX dX0_rallyChance_6 ?_
  refine r_astore 12 hX dX0_rallyChance_10 rfl ?_
  refine r_iload 14 hX dX0_rallyChance_12 rfl ?_
  refine r_if_ne 17 21 hX dX0_rallyChance_14 (fun c => absurd c (by decide)) (fun _ => ?_)
  refine r_aload_n 18 hX dX0_rallyChance_17 rfl ?_
  refine r_goto 22 hX dX0_rallyChance_18 ?_
  refine r_astore 24 hX dX0_rallyChance_22 rfl ?_
  refine r_iload 26 hX dX0_rallyChance_24 rfl ?_
  refine r_if_ne 29 36 hX dX0_rallyChance_26 (fun c => absurd c (by decide)) (fun _ => ?_)
  refine r_aload_n 30 hX dX0_rallyChance_29 rfl ?_
  refine r_getR 33 hX dX0_rallyChance_30 fX0_9 rfl rfl rfl ?_
  refine r_goto 40 hX dX0_rallyChance_33 ?_
  refine r_astore 42 hX dX0_rallyChance_40 rfl ?_
  refine (show mx_WW G X 42 [_, _, _, _, _, _, _, _, _, _, _, _, _] _ _ from ?_)
  refine r_iload 44 hX dX0_rallyChance_42 rfl ?_
  refine r_if_ne 47 54 hX dX0_rallyChance_44 (fun c => absurd c (by decide)) (fun _ => ?_)
  refine r_aload_n 48 hX dX0_rallyChance_47 rfl ?_
  refine r_getR 51 hX dX0_rallyChance_48 fX0_15 rfl rfl rfl ?_
  refine r_goto 58 hX dX0_rallyChance_51 ?_
  refine r_astore 60 hX dX0_rallyChance_58 rfl ?_
  refine r_iload 62 hX dX0_rallyChance_60 rfl ?_
  refine r_if_ne 65 69 hX dX0_rallyChance_62 (fun c => absurd c (by decide)) (fun _ => ?_)
  refine r_iload_n 66 hX dX0_rallyChance_65 rfl ?_
  refine r_goto 71 hX dX0_rallyChance_66 ?_
  refine r_istore 73 hX dX0_rallyChance_71 rfl ?_
  refine r_iload 75 hX dX0_rallyChance_73 rfl ?_
  refine r_if_ne 78 83 hX dX0_rallyChance_75 (fun c => absurd c (by decide)) (fun _ => ?_)
  refine r_iload 80 hX dX0_rallyChance_78 rfl ?_
  refine r_goto 84 hX dX0_rallyChance_80 ?_
  refine r_istore 86 hX dX0_rallyChance_84 rfl ?_
  refine (show mx_WW G X 86 [_, _, _, _, _, _, _, _, _, _, _, _, _] _ _ from ?_)
  refine r_sipush 89 hX dX0_rallyChance_86 (v := 380) (by decide) ?_
  refine r_aload 91 hX dX0_rallyChance_89 rfl ?_
  refine r_aload 93 hX dX0_rallyChance_91 rfl ?_
  refine r_iload 95 hX dX0_rallyChance_93 rfl ?_
  refine r_bipush 97 hX dX0_rallyChance_95 (v := 6) (by decide) ?_
  refine r_cS2F 100 hX hR (tJ9_floorMod_7cf53 (a := i) (by omega)) dX0_rallyChance_97 kJ9_floorMod_7cf53 lX0_30 rfl rfl rfl ?_
  refine r_ialdK 101 hX dX0_rallyChance_100 rfl rfl (vp_in_nI (show i % 6 < 6 by omega) (by decide)) (j := i % 6) (nI_clamp (by omega)) ?_
  refine r_iconst 102 hX dX0_rallyChance_101 (v := 0) (by decide) ?_
  refine r_cV2F 105 hX hR tX4_skillOf_3 dX0_rallyChance_102 kX4_skillOf lX0_36 rfl rfl rfl rfl rfl rfl ?_
  refine r_iadd 106 hX dX0_rallyChance_105 ?_
  refine r_aload 108 hX dX0_rallyChance_106 rfl ?_
  refine r_aload 110 hX dX0_rallyChance_108 rfl ?_
  refine r_iload 112 hX dX0_rallyChance_110 rfl ?_
  refine r_gets 115 hX dX0_rallyChance_112 sX0_41 ?_
  refine r_iconst 116 hX dX0_rallyChance_115 (v := 1) (by decide) ?_
  refine r_cV4F 119 hX hR (tX4_third_6_B (by assumption)) dX0_rallyChance_116 kX4_third lX0_44 rfl rfl rfl rfl rfl rfl ?_
  refine r_isub 120 hX dX0_rallyChance_119 ?_
  refine r_aload 122 hX dX0_rallyChance_120 rfl ?_
  refine r_aload 124 hX dX0_rallyChance_122 rfl ?_
  refine r_iload 126 hX dX0_rallyChance_124 rfl ?_
  refine r_gets 129 hX dX0_rallyChance_126 sX0_48 ?_
  refine r_iconst 130 hX dX0_rallyChance_129 (v := 3) (by decide) ?_
  refine r_cV4F 133 hX hR (tX4_third_3_F (by assumption)) dX0_rallyChance_130 kX4_third lX0_44 rfl rfl rfl rfl rfl rfl ?_
  refine r_iadd 134 hX dX0_rallyChance_133 ?_
  refine r_aload 136 hX dX0_rallyChance_134 rfl ?_
  refine r_aload 138 hX dX0_rallyChance_136 rfl ?_
  refine r_iload 140 hX dX0_rallyChance_138 rfl ?_
  refine r_gets 143 hX dX0_rallyChance_140 sX0_48 ?_
  refine r_iconst 144 hX dX0_rallyChance_143 (v := 2) (by decide) ?_
  refine r_cV4F 147 hX hR (tX4_third_6_F (by assumption)) dX0_rallyChance_144 kX4_third lX0_44 rfl rfl rfl rfl rfl rfl ?_
  refine r_isub 148 hX dX0_rallyChance_147 ?_
  refine r_istore 150 hX dX0_rallyChance_148 rfl ?_
  refine r_bipush 152 hX dX0_rallyChance_150 (v := 50) (by decide) ?_
  refine r_sipush 155 hX dX0_rallyChance_152 (v := 950) (by decide) ?_
  refine r_iload 157 hX dX0_rallyChance_155 rfl ?_
  refine r_mmin 160 hX hR dX0_rallyChance_157 lX0_51 rfl rfl rfl ?_
  refine r_mmax 163 hX hR dX0_rallyChance_160 lX0_54 rfl rfl rfl ?_
  refine r_iret hX hT dX0_rallyChance_163 ?_
  exact ⟨rfl, rfl⟩
set_option maxRecDepth 100000 in
set_option maxHeartbeats 4000000 in
theorem tX0_rallyChance_1 {l : Launch} {G : mx_G} {i j : Nat} {M : mx_Mem} (hi : i ≤ 6) (hj : j ≤ 6) : mx_Met l G yX0_rallyChance cX0_rallyChance 13 ((some FieldType.int)) 2 49 [.ref 39, .ref 3, .ref 6, .int (nI i), .int (nI j), .int 1] M (mx_F (some (.int (rcF (M.1 7) (M.1 4) (M.1 41) (M.1 40) j i))) M) := by
  refine mx_enter (own := RX0) (L := [.ref 39, .ref 3, .ref 6, .int (nI i), .int (nI j), .int 1, .null, .null, .null, .null, .null, .null, .null]) (by decide +kernel) rfl rfl rfl ?_
  intro X hlX hX hR hT
  refine r_iload 2 hX dX0_rallyChance_0 rfl ?_
  refine r_if_ne 5 9 hX dX0_rallyChance_2 (fun _ => ?_) (fun c => absurd c (by decide))
  refine r_aload_n 10 hX dX0_rallyChance_9 rfl ?_
  refine r_astore 12 hX dX0_rallyChance_10 rfl ?_
  refine r_iload 14 hX dX0_rallyChance_12 rfl ?_
  refine r_if_ne 17 21 hX dX0_rallyChance_14 (fun _ => ?_) (fun c => absurd c (by decide))
  refine r_aload_n 22 hX dX0_rallyChance_21 rfl ?_
  refine r_astore 24 hX dX0_rallyChance_22 rfl ?_
  refine r_iload 26 hX dX0_rallyChance_24 rfl ?_
  refine r_if_ne 29 36 hX dX0_rallyChance_26 (fun _ => ?_) (fun c => absurd c (by decide))
  refine r_aload_n 37 hX dX0_rallyChance_36 rfl ?_
  refine r_getR 40 hX dX0_rallyChance_37 fX0_15 rfl rfl rfl ?_
  refine r_astore 42 hX dX0_rallyChance_40 rfl ?_
  refine (show mx_WW G X 42 [_, _, _, _, _, _, _, _, _, _, _, _, _] _ _ from ?_)
  refine r_iload 44 hX dX0_rallyChance_42 rfl ?_
  refine r_if_ne 47 54 hX dX0_rallyChance_44 (fun _ => ?_) (fun c => absurd c (by decide))
  refine r_aload_n 55 hX dX0_rallyChance_54 rfl ?_
  refine r_getR 58 hX dX0_rallyChance_55 fX0_9 rfl rfl rfl ?_
  refine r_astore 60 hX dX0_rallyChance_58 rfl ?_
  refine r_iload 62 hX dX0_rallyChance_60 rfl ?_
  refine r_if_ne 65 69 hX dX0_rallyChance_62 (fun _ => ?_) (fun c => absurd c (by decide))
  refine r_iload 71 hX dX0_rallyChance_69 rfl ?_
  refine r_istore 73 hX dX0_rallyChance_71 rfl ?_
  refine r_iload 75 hX dX0_rallyChance_73 rfl ?_
  refine r_if_ne 78 83 hX dX0_rallyChance_75 (fun _ => ?_) (fun c => absurd c (by decide))
  refine r_iload_n 84 hX dX0_rallyChance_83 rfl ?_
  refine r_istore 86 hX dX0_rallyChance_84 rfl ?_
  refine (show mx_WW G X 86 [_, _, _, _, _, _, _, _, _, _, _, _, _] _ _ from ?_)
  refine r_sipush 89 hX dX0_rallyChance_86 (v := 380) (by decide) ?_
  refine r_aload 91 hX dX0_rallyChance_89 rfl ?_
  refine r_aload 93 hX dX0_rallyChance_91 rfl ?_
  refine r_iload 95 hX dX0_rallyChance_93 rfl ?_
  refine r_bipush 97 hX dX0_rallyChance_95 (v := 6) (by decide) ?_
  refine r_cS2F 100 hX hR (tJ9_floorMod_7cf53 (a := j) (by omega)) dX0_rallyChance_97 kJ9_floorMod_7cf53 lX0_30 rfl rfl rfl ?_
  refine r_ialdK 101 hX dX0_rallyChance_100 rfl rfl (vp_in_nI (show j % 6 < 6 by omega) (by decide)) (j := j % 6) (nI_clamp (by omega)) ?_
  refine r_iconst 102 hX dX0_rallyChance_101 (v := 0) (by decide) ?_
  refine r_cV2F 105 hX hR tX4_skillOf_6 dX0_rallyChance_102 kX4_skillOf lX0_36 rfl rfl rfl rfl rfl rfl ?_
  refine r_iadd 106 hX dX0_rallyChance_105 ?_
  refine r_aload 108 hX dX0_rallyChance_106 rfl ?_
  refine r_aload 110 hX dX0_rallyChance_108 rfl ?_
  refine r_iload 112 hX dX0_rallyChance_110 rfl ?_
  refine r_gets 115 hX dX0_rallyChance_112 sX0_41 ?_
  refine r_iconst 116 hX dX0_rallyChance_115 (v := 1) (by decide) ?_
  refine r_cV4F 119 hX hR (tX4_third_3_B (by assumption)) dX0_rallyChance_116 kX4_third lX0_44 rfl rfl rfl rfl rfl rfl ?_
  refine r_isub 120 hX dX0_rallyChance_119 ?_
  refine r_aload 122 hX dX0_rallyChance_120 rfl ?_
  refine r_aload 124 hX dX0_rallyChance_122 rfl ?_
  refine r_iload 126 hX dX0_rallyChance_124 rfl ?_
  refine r_gets 129 hX dX0_rallyChance_126 sX0_48 ?_
  refine r_iconst 130 hX dX0_rallyChance_129 (v := 3) (by decide) ?_
  refine r_cV4F 133 hX hR (tX4_third_6_F (by assumption)) dX0_rallyChance_130 kX4_third lX0_44 rfl rfl rfl rfl rfl rfl ?_
  refine r_iadd 134 hX dX0_rallyChance_133 ?_
  refine r_aload 136 hX dX0_rallyChance_134 rfl ?_
  refine r_aload 138 hX dX0_rallyChance_136 rfl ?_
  refine r_iload 140 hX dX0_rallyChance_138 rfl ?_
  refine r_gets 143 hX dX0_rallyChance_140 sX0_48 ?_
  refine r_iconst 144 hX dX0_rallyChance_143 (v := 2) (by decide) ?_
  refine r_cV4F 147 hX hR (tX4_third_3_F (by assumption)) dX0_rallyChance_144 kX4_third lX0_44 rfl rfl rfl rfl rfl rfl ?_
  refine r_isub 148 hX dX0_rallyChance_147 ?_
  refine r_istore 150 hX dX0_rallyChance_148 rfl ?_
  refine r_bipush 152 hX dX0_rallyChance_150 (v := 50) (by decide) ?_
  refine r_sipush 155 hX dX0_rallyChance_152 (v := 950) (by decide) ?_
  refine r_iload 157 hX dX0_rallyChance_155 rfl ?_
  refine r_mmin 160 hX hR dX0_rallyChance_157 lX0_51 rfl rfl rfl ?_
  refine r_mmax 163 hX hR dX0_rallyChance_160 lX0_54 rfl rfl rfl ?_
  refine r_iret hX hT dX0_rallyChance_163 ?_
  exact ⟨rfl, rfl⟩
def tkM (M : mx_Mem) (k : Nat) (f : Nat → Int32) (r : Nat) : mx_Mem := mI (mI (mI (mI (mI (mI M k 0 (f ((0 + r) % 6))) k 1 (f ((1 + r) % 6))) k 2 (f ((2 + r) % 6))) k 3 (f ((3 + r) % 6))) k 4 (f ((4 + r) % 6))) k 5 (f ((5 + r) % 6))
set_option maxRecDepth 100000 in
set_option maxHeartbeats 4000000 in
theorem tX0_take_10 {l : Launch} {G : mx_G} {r : Nat} {M : mx_Mem} (hr : r ≤ 5) : mx_Met l G yX0_take cX0_take 7 (none) 1 22 [.ref 39, .int 0, .ref 10, .int (nI r)] M (mx_F none (tkM M 40 (M.1 10) r)) := by
  refine mx_enter (own := RX0) (L := [.ref 39, .int 0, .ref 10, .int (nI r), .null, .null, .null]) (by decide +kernel) rfl rfl rfl ?_
  intro X hlX hX hR hT
  refine r_iload_n 1 hX dX0_take_0 rfl ?_
  refine r_if_ne 4 11 hX dX0_take_1 (fun c => absurd c (by decide)) (fun _ => ?_)
  refine r_aload_n 5 hX dX0_take_4 rfl ?_
  refine r_getR 8 hX dX0_take_5 fX0_9 rfl rfl rfl ?_
  refine r_goto 15 hX dX0_take_8 ?_
  refine r_astore 17 hX dX0_take_15 rfl ?_
  refine r_iconst 18 hX dX0_take_17 (v := 0) (by decide) ?_
  refine r_istore 20 hX dX0_take_18 rfl ?_
  refine r_iload 22 hX dX0_take_20 rfl ?_
  refine r_bipush 24 hX dX0_take_22 (v := 6) (by decide) ?_
  refine r_icmp_ge 27 60 hX dX0_take_24 (fun c => absurd c (by decide)) (fun _ => ?_)
  refine r_iload 29 hX dX0_take_27 rfl ?_
  refine r_iload_n 30 hX dX0_take_29 rfl ?_
  refine r_iadd 31 hX dX0_take_30 ?_
  refine mx_top (show (0 : Int32) + nI r = nI (0 + r) from nI_add 0 r) ?_
  refine r_bipush 33 hX dX0_take_31 (v := 6) (by decide) ?_
  refine r_cS2F 36 hX hR (tJ9_floorMod_7cf53 (a := 0 + r) (by omega)) dX0_take_33 kJ9_floorMod_7cf53 lX0_30 rfl rfl rfl ?_
  refine r_istore 38 hX dX0_take_36 rfl ?_
  refine (show mx_WW G X 38 [_, _, _, _, _, _, _] _ _ from ?_)
  refine r_iload 40 hX dX0_take_38 rfl ?_
  refine r_aload_n 41 hX dX0_take_40 rfl ?_
  refine r_alen 42 hX dX0_take_41 rfl rfl (v := 6) (by decide) ?_
  refine r_icmp_ge 45 54 hX dX0_take_42 (fun c1 => absurd c1 (nI_ge (b := 6) (show (0 + r) % 6 < 6 by omega) (by decide))) (fun c1 => ?_)
  refine r_aload 47 hX dX0_take_45 rfl ?_
  refine r_iload 49 hX dX0_take_47 rfl ?_
  refine r_aload_n 50 hX dX0_take_49 rfl ?_
  refine r_iload 52 hX dX0_take_50 rfl ?_
  refine r_ialdV 53 hX dX0_take_52 rfl rfl (vp_in_nI (show (0 + r) % 6 < 6 by omega) (by decide)) (nI_clamp (by omega)) (v := M.1 10 ((0 + r) % 6)) rfl ?_
  refine r_iastK 54 hX dX0_take_53 rfl rfl (vpK rfl) (j := 0) (by decide) ?_
  refine r_iincK 57 hX dX0_take_54 rfl (w := 1) (by decide) rfl ?_
  refine r_goto 20 hX dX0_take_57 ?_
  refine r_iload 22 hX dX0_take_20 rfl ?_
  refine r_bipush 24 hX dX0_take_22 (v := 6) (by decide) ?_
  refine r_icmp_ge 27 60 hX dX0_take_24 (fun c => absurd c (by decide)) (fun _ => ?_)
  refine r_iload 29 hX dX0_take_27 rfl ?_
  refine r_iload_n 30 hX dX0_take_29 rfl ?_
  refine r_iadd 31 hX dX0_take_30 ?_
  refine mx_top (show (1 : Int32) + nI r = nI (1 + r) from nI_add 1 r) ?_
  refine r_bipush 33 hX dX0_take_31 (v := 6) (by decide) ?_
  refine r_cS2F 36 hX hR (tJ9_floorMod_7cf53 (a := 1 + r) (by omega)) dX0_take_33 kJ9_floorMod_7cf53 lX0_30 rfl rfl rfl ?_
  refine r_istore 38 hX dX0_take_36 rfl ?_
  refine r_iload 40 hX dX0_take_38 rfl ?_
  refine r_aload_n 41 hX dX0_take_40 rfl ?_
  refine r_alen 42 hX dX0_take_41 rfl rfl (v := 6) (by decide) ?_
  refine r_icmp_ge 45 54 hX dX0_take_42 (fun c2 => absurd c2 (nI_ge (b := 6) (show (1 + r) % 6 < 6 by omega) (by decide))) (fun c2 => ?_)
  refine r_aload 47 hX dX0_take_45 rfl ?_
  refine r_iload 49 hX dX0_take_47 rfl ?_
  refine r_aload_n 50 hX dX0_take_49 rfl ?_
  refine r_iload 52 hX dX0_take_50 rfl ?_
  refine r_ialdV 53 hX dX0_take_52 rfl rfl (vp_in_nI (show (1 + r) % 6 < 6 by omega) (by decide)) (nI_clamp (by omega)) (v := M.1 10 ((1 + r) % 6)) rfl ?_
  refine r_iastK 54 hX dX0_take_53 rfl rfl (vpK rfl) (j := 1) (by decide) ?_
  refine r_iincK 57 hX dX0_take_54 rfl (w := 2) (by decide) rfl ?_
  refine (show mx_WW G X 57 [_, _, _, _, _, _, _] _ _ from ?_)
  refine r_goto 20 hX dX0_take_57 ?_
  refine r_iload 22 hX dX0_take_20 rfl ?_
  refine r_bipush 24 hX dX0_take_22 (v := 6) (by decide) ?_
  refine r_icmp_ge 27 60 hX dX0_take_24 (fun c => absurd c (by decide)) (fun _ => ?_)
  refine r_iload 29 hX dX0_take_27 rfl ?_
  refine r_iload_n 30 hX dX0_take_29 rfl ?_
  refine r_iadd 31 hX dX0_take_30 ?_
  refine mx_top (show (2 : Int32) + nI r = nI (2 + r) from nI_add 2 r) ?_
  refine r_bipush 33 hX dX0_take_31 (v := 6) (by decide) ?_
  refine r_cS2F 36 hX hR (tJ9_floorMod_7cf53 (a := 2 + r) (by omega)) dX0_take_33 kJ9_floorMod_7cf53 lX0_30 rfl rfl rfl ?_
  refine r_istore 38 hX dX0_take_36 rfl ?_
  refine r_iload 40 hX dX0_take_38 rfl ?_
  refine r_aload_n 41 hX dX0_take_40 rfl ?_
  refine r_alen 42 hX dX0_take_41 rfl rfl (v := 6) (by decide) ?_
  refine r_icmp_ge 45 54 hX dX0_take_42 (fun c3 => absurd c3 (nI_ge (b := 6) (show (2 + r) % 6 < 6 by omega) (by decide))) (fun c3 => ?_)
  refine r_aload 47 hX dX0_take_45 rfl ?_
  refine r_iload 49 hX dX0_take_47 rfl ?_
  refine r_aload_n 50 hX dX0_take_49 rfl ?_
  refine r_iload 52 hX dX0_take_50 rfl ?_
  refine r_ialdV 53 hX dX0_take_52 rfl rfl (vp_in_nI (show (2 + r) % 6 < 6 by omega) (by decide)) (nI_clamp (by omega)) (v := M.1 10 ((2 + r) % 6)) rfl ?_
  refine r_iastK 54 hX dX0_take_53 rfl rfl (vpK rfl) (j := 2) (by decide) ?_
  refine r_iincK 57 hX dX0_take_54 rfl (w := 3) (by decide) rfl ?_
  refine r_goto 20 hX dX0_take_57 ?_
  refine r_iload 22 hX dX0_take_20 rfl ?_
  refine r_bipush 24 hX dX0_take_22 (v := 6) (by decide) ?_
  refine r_icmp_ge 27 60 hX dX0_take_24 (fun c => absurd c (by decide)) (fun _ => ?_)
  refine r_iload 29 hX dX0_take_27 rfl ?_
  refine r_iload_n 30 hX dX0_take_29 rfl ?_
  refine r_iadd 31 hX dX0_take_30 ?_
  refine mx_top (show (3 : Int32) + nI r = nI (3 + r) from nI_add 3 r) ?_
  refine r_bipush 33 hX dX0_take_31 (v := 6) (by decide) ?_
  refine r_cS2F 36 hX hR (tJ9_floorMod_7cf53 (a := 3 + r) (by omega)) dX0_take_33 kJ9_floorMod_7cf53 lX0_30 rfl rfl rfl ?_
  refine r_istore 38 hX dX0_take_36 rfl ?_
  refine (show mx_WW G X 38 [_, _, _, _, _, _, _] _ _ from ?_)
  refine r_iload 40 hX dX0_take_38 rfl ?_
  refine r_aload_n 41 hX dX0_take_40 rfl ?_
  refine r_alen 42 hX dX0_take_41 rfl rfl (v := 6) (by decide) ?_
  refine r_icmp_ge 45 54 hX dX0_take_42 (fun c4 => absurd c4 (nI_ge (b := 6) (show (3 + r) % 6 < 6 by omega) (by decide))) (fun c4 => ?_)
  refine r_aload 47 hX dX0_take_45 rfl ?_
  refine r_iload 49 hX dX0_take_47 rfl ?_
  refine r_aload_n 50 hX dX0_take_49 rfl ?_
  refine r_iload 52 hX dX0_take_50 rfl ?_
  refine r_ialdV 53 hX dX0_take_52 rfl rfl (vp_in_nI (show (3 + r) % 6 < 6 by omega) (by decide)) (nI_clamp (by omega)) (v := M.1 10 ((3 + r) % 6)) rfl ?_
  refine r_iastK 54 hX dX0_take_53 rfl rfl (vpK rfl) (j := 3) (by decide) ?_
  refine r_iincK 57 hX dX0_take_54 rfl (w := 4) (by decide) rfl ?_
  refine r_goto 20 hX dX0_take_57 ?_
  refine r_iload 22 hX dX0_take_20 rfl ?_
  refine r_bipush 24 hX dX0_take_22 (v := 6) (by decide) ?_
  refine r_icmp_ge 27 60 hX dX0_take_24 (fun c => absurd c (by decide)) (fun _ => ?_)
  refine r_iload 29 hX dX0_take_27 rfl ?_
  refine r_iload_n 30 hX dX0_take_29 rfl ?_
  refine r_iadd 31 hX dX0_take_30 ?_
  refine mx_top (show (4 : Int32) + nI r = nI (4 + r) from nI_add 4 r) ?_
  refine r_bipush 33 hX dX0_take_31 (v := 6) (by decide) ?_
  refine r_cS2F 36 hX hR (tJ9_floorMod_7cf53 (a := 4 + r) (by omega)) dX0_take_33 kJ9_floorMod_7cf53 lX0_30 rfl rfl rfl ?_
  refine r_istore 38 hX dX0_take_36 rfl ?_
  refine r_iload 40 hX dX0_take_38 rfl ?_
  refine r_aload_n 41 hX dX0_take_40 rfl ?_
  refine r_alen 42 hX dX0_take_41 rfl rfl (v := 6) (by decide) ?_
  refine r_icmp_ge 45 54 hX dX0_take_42 (fun c5 => absurd c5 (nI_ge (b := 6) (show (4 + r) % 6 < 6 by omega) (by decide))) (fun c5 => ?_)
  refine r_aload 47 hX dX0_take_45 rfl ?_
  refine r_iload 49 hX dX0_take_47 rfl ?_
  refine r_aload_n 50 hX dX0_take_49 rfl ?_
  refine r_iload 52 hX dX0_take_50 rfl ?_
  refine r_ialdV 53 hX dX0_take_52 rfl rfl (vp_in_nI (show (4 + r) % 6 < 6 by omega) (by decide)) (nI_clamp (by omega)) (v := M.1 10 ((4 + r) % 6)) rfl ?_
  refine r_iastK 54 hX dX0_take_53 rfl rfl (vpK rfl) (j := 4) (by decide) ?_
  refine r_iincK 57 hX dX0_take_54 rfl (w := 5) (by decide) rfl ?_
  refine (show mx_WW G X 57 [_, _, _, _, _, _, _] _ _ from ?_)
  refine r_goto 20 hX dX0_take_57 ?_
  refine r_iload 22 hX dX0_take_20 rfl ?_
  refine r_bipush 24 hX dX0_take_22 (v := 6) (by decide) ?_
  refine r_icmp_ge 27 60 hX dX0_take_24 (fun c => absurd c (by decide)) (fun _ => ?_)
  refine r_iload 29 hX dX0_take_27 rfl ?_
  refine r_iload_n 30 hX dX0_take_29 rfl ?_
  refine r_iadd 31 hX dX0_take_30 ?_
  refine mx_top (show (5 : Int32) + nI r = nI (5 + r) from nI_add 5 r) ?_
  refine r_bipush 33 hX dX0_take_31 (v := 6) (by decide) ?_
  refine r_cS2F 36 hX hR (tJ9_floorMod_7cf53 (a := 5 + r) (by omega)) dX0_take_33 kJ9_floorMod_7cf53 lX0_30 rfl rfl rfl ?_
  refine r_istore 38 hX dX0_take_36 rfl ?_
  refine r_iload 40 hX dX0_take_38 rfl ?_
  refine r_aload_n 41 hX dX0_take_40 rfl ?_
  refine r_alen 42 hX dX0_take_41 rfl rfl (v := 6) (by decide) ?_
  refine r_icmp_ge 45 54 hX dX0_take_42 (fun c6 => absurd c6 (nI_ge (b := 6) (show (5 + r) % 6 < 6 by omega) (by decide))) (fun c6 => ?_)
  refine r_aload 47 hX dX0_take_45 rfl ?_
  refine r_iload 49 hX dX0_take_47 rfl ?_
  refine r_aload_n 50 hX dX0_take_49 rfl ?_
  refine r_iload 52 hX dX0_take_50 rfl ?_
  refine r_ialdV 53 hX dX0_take_52 rfl rfl (vp_in_nI (show (5 + r) % 6 < 6 by omega) (by decide)) (nI_clamp (by omega)) (v := M.1 10 ((5 + r) % 6)) rfl ?_
  refine r_iastK 54 hX dX0_take_53 rfl rfl (vpK rfl) (j := 5) (by decide) ?_
  refine r_iincK 57 hX dX0_take_54 rfl (w := 6) (by decide) rfl ?_
  refine r_goto 20 hX dX0_take_57 ?_
  refine r_iload 22 hX dX0_take_20 rfl ?_
  refine r_bipush 24 hX dX0_take_22 (v := 6) (by decide) ?_
  refine r_icmp_ge 27 60 hX dX0_take_24 (fun _ => ?_) (fun c => absurd c (by decide))
  refine r_vret hX hT dX0_take_60 ?_
  exact ⟨rfl, rfl⟩
set_option maxRecDepth 100000 in
set_option maxHeartbeats 4000000 in
theorem tX0_take_15 {l : Launch} {G : mx_G} {r : Nat} {M : mx_Mem} (hr : r ≤ 5) : mx_Met l G yX0_take cX0_take 7 (none) 1 22 [.ref 39, .int 1, .ref 15, .int (nI r)] M (mx_F none (tkM M 41 (M.1 15) r)) := by
  refine mx_enter (own := RX0) (L := [.ref 39, .int 1, .ref 15, .int (nI r), .null, .null, .null]) (by decide +kernel) rfl rfl rfl ?_
  intro X hlX hX hR hT
  refine r_iload_n 1 hX dX0_take_0 rfl ?_
  refine r_if_ne 4 11 hX dX0_take_1 (fun _ => ?_) (fun c => absurd c (by decide))
  refine r_aload_n 12 hX dX0_take_11 rfl ?_
  refine r_getR 15 hX dX0_take_12 fX0_15 rfl rfl rfl ?_
  refine r_astore 17 hX dX0_take_15 rfl ?_
  refine r_iconst 18 hX dX0_take_17 (v := 0) (by decide) ?_
  refine r_istore 20 hX dX0_take_18 rfl ?_
  refine r_iload 22 hX dX0_take_20 rfl ?_
  refine r_bipush 24 hX dX0_take_22 (v := 6) (by decide) ?_
  refine r_icmp_ge 27 60 hX dX0_take_24 (fun c => absurd c (by decide)) (fun _ => ?_)
  refine r_iload 29 hX dX0_take_27 rfl ?_
  refine r_iload_n 30 hX dX0_take_29 rfl ?_
  refine r_iadd 31 hX dX0_take_30 ?_
  refine mx_top (show (0 : Int32) + nI r = nI (0 + r) from nI_add 0 r) ?_
  refine r_bipush 33 hX dX0_take_31 (v := 6) (by decide) ?_
  refine r_cS2F 36 hX hR (tJ9_floorMod_7cf53 (a := 0 + r) (by omega)) dX0_take_33 kJ9_floorMod_7cf53 lX0_30 rfl rfl rfl ?_
  refine r_istore 38 hX dX0_take_36 rfl ?_
  refine (show mx_WW G X 38 [_, _, _, _, _, _, _] _ _ from ?_)
  refine r_iload 40 hX dX0_take_38 rfl ?_
  refine r_aload_n 41 hX dX0_take_40 rfl ?_
  refine r_alen 42 hX dX0_take_41 rfl rfl (v := 6) (by decide) ?_
  refine r_icmp_ge 45 54 hX dX0_take_42 (fun c1 => absurd c1 (nI_ge (b := 6) (show (0 + r) % 6 < 6 by omega) (by decide))) (fun c1 => ?_)
  refine r_aload 47 hX dX0_take_45 rfl ?_
  refine r_iload 49 hX dX0_take_47 rfl ?_
  refine r_aload_n 50 hX dX0_take_49 rfl ?_
  refine r_iload 52 hX dX0_take_50 rfl ?_
  refine r_ialdV 53 hX dX0_take_52 rfl rfl (vp_in_nI (show (0 + r) % 6 < 6 by omega) (by decide)) (nI_clamp (by omega)) (v := M.1 15 ((0 + r) % 6)) rfl ?_
  refine r_iastK 54 hX dX0_take_53 rfl rfl (vpK rfl) (j := 0) (by decide) ?_
  refine r_iincK 57 hX dX0_take_54 rfl (w := 1) (by decide) rfl ?_
  refine r_goto 20 hX dX0_take_57 ?_
  refine r_iload 22 hX dX0_take_20 rfl ?_
  refine r_bipush 24 hX dX0_take_22 (v := 6) (by decide) ?_
  refine r_icmp_ge 27 60 hX dX0_take_24 (fun c => absurd c (by decide)) (fun _ => ?_)
  refine r_iload 29 hX dX0_take_27 rfl ?_
  refine r_iload_n 30 hX dX0_take_29 rfl ?_
  refine r_iadd 31 hX dX0_take_30 ?_
  refine mx_top (show (1 : Int32) + nI r = nI (1 + r) from nI_add 1 r) ?_
  refine r_bipush 33 hX dX0_take_31 (v := 6) (by decide) ?_
  refine r_cS2F 36 hX hR (tJ9_floorMod_7cf53 (a := 1 + r) (by omega)) dX0_take_33 kJ9_floorMod_7cf53 lX0_30 rfl rfl rfl ?_
  refine r_istore 38 hX dX0_take_36 rfl ?_
  refine r_iload 40 hX dX0_take_38 rfl ?_
  refine r_aload_n 41 hX dX0_take_40 rfl ?_
  refine r_alen 42 hX dX0_take_41 rfl rfl (v := 6) (by decide) ?_
  refine r_icmp_ge 45 54 hX dX0_take_42 (fun c2 => absurd c2 (nI_ge (b := 6) (show (1 + r) % 6 < 6 by omega) (by decide))) (fun c2 => ?_)
  refine r_aload 47 hX dX0_take_45 rfl ?_
  refine r_iload 49 hX dX0_take_47 rfl ?_
  refine r_aload_n 50 hX dX0_take_49 rfl ?_
  refine r_iload 52 hX dX0_take_50 rfl ?_
  refine r_ialdV 53 hX dX0_take_52 rfl rfl (vp_in_nI (show (1 + r) % 6 < 6 by omega) (by decide)) (nI_clamp (by omega)) (v := M.1 15 ((1 + r) % 6)) rfl ?_
  refine r_iastK 54 hX dX0_take_53 rfl rfl (vpK rfl) (j := 1) (by decide) ?_
  refine r_iincK 57 hX dX0_take_54 rfl (w := 2) (by decide) rfl ?_
  refine (show mx_WW G X 57 [_, _, _, _, _, _, _] _ _ from ?_)
  refine r_goto 20 hX dX0_take_57 ?_
  refine r_iload 22 hX dX0_take_20 rfl ?_
  refine r_bipush 24 hX dX0_take_22 (v := 6) (by decide) ?_
  refine r_icmp_ge 27 60 hX dX0_take_24 (fun c => absurd c (by decide)) (fun _ => ?_)
  refine r_iload 29 hX dX0_take_27 rfl ?_
  refine r_iload_n 30 hX dX0_take_29 rfl ?_
  refine r_iadd 31 hX dX0_take_30 ?_
  refine mx_top (show (2 : Int32) + nI r = nI (2 + r) from nI_add 2 r) ?_
  refine r_bipush 33 hX dX0_take_31 (v := 6) (by decide) ?_
  refine r_cS2F 36 hX hR (tJ9_floorMod_7cf53 (a := 2 + r) (by omega)) dX0_take_33 kJ9_floorMod_7cf53 lX0_30 rfl rfl rfl ?_
  refine r_istore 38 hX dX0_take_36 rfl ?_
  refine r_iload 40 hX dX0_take_38 rfl ?_
  refine r_aload_n 41 hX dX0_take_40 rfl ?_
  refine r_alen 42 hX dX0_take_41 rfl rfl (v := 6) (by decide) ?_
  refine r_icmp_ge 45 54 hX dX0_take_42 (fun c3 => absurd c3 (nI_ge (b := 6) (show (2 + r) % 6 < 6 by omega) (by decide))) (fun c3 => ?_)
  refine r_aload 47 hX dX0_take_45 rfl ?_
  refine r_iload 49 hX dX0_take_47 rfl ?_
  refine r_aload_n 50 hX dX0_take_49 rfl ?_
  refine r_iload 52 hX dX0_take_50 rfl ?_
  refine r_ialdV 53 hX dX0_take_52 rfl rfl (vp_in_nI (show (2 + r) % 6 < 6 by omega) (by decide)) (nI_clamp (by omega)) (v := M.1 15 ((2 + r) % 6)) rfl ?_
  refine r_iastK 54 hX dX0_take_53 rfl rfl (vpK rfl) (j := 2) (by decide) ?_
  refine r_iincK 57 hX dX0_take_54 rfl (w := 3) (by decide) rfl ?_
  refine r_goto 20 hX dX0_take_57 ?_
  refine r_iload 22 hX dX0_take_20 rfl ?_
  refine r_bipush 24 hX dX0_take_22 (v := 6) (by decide) ?_
  refine r_icmp_ge 27 60 hX dX0_take_24 (fun c => absurd c (by decide)) (fun _ => ?_)
  refine r_iload 29 hX dX0_take_27 rfl ?_
  refine r_iload_n 30 hX dX0_take_29 rfl ?_
  refine r_iadd 31 hX dX0_take_30 ?_
  refine mx_top (show (3 : Int32) + nI r = nI (3 + r) from nI_add 3 r) ?_
  refine r_bipush 33 hX dX0_take_31 (v := 6) (by decide) ?_
  refine r_cS2F 36 hX hR (tJ9_floorMod_7cf53 (a := 3 + r) (by omega)) dX0_take_33 kJ9_floorMod_7cf53 lX0_30 rfl rfl rfl ?_
  refine r_istore 38 hX dX0_take_36 rfl ?_
  refine (show mx_WW G X 38 [_, _, _, _, _, _, _] _ _ from ?_)
  refine r_iload 40 hX dX0_take_38 rfl ?_
  refine r_aload_n 41 hX dX0_take_40 rfl ?_
  refine r_alen 42 hX dX0_take_41 rfl rfl (v := 6) (by decide) ?_
  refine r_icmp_ge 45 54 hX dX0_take_42 (fun c4 => absurd c4 (nI_ge (b := 6) (show (3 + r) % 6 < 6 by omega) (by decide))) (fun c4 => ?_)
  refine r_aload 47 hX dX0_take_45 rfl ?_
  refine r_iload 49 hX dX0_take_47 rfl ?_
  refine r_aload_n 50 hX dX0_take_49 rfl ?_
  refine r_iload 52 hX dX0_take_50 rfl ?_
  refine r_ialdV 53 hX dX0_take_52 rfl rfl (vp_in_nI (show (3 + r) % 6 < 6 by omega) (by decide)) (nI_clamp (by omega)) (v := M.1 15 ((3 + r) % 6)) rfl ?_
  refine r_iastK 54 hX dX0_take_53 rfl rfl (vpK rfl) (j := 3) (by decide) ?_
  refine r_iincK 57 hX dX0_take_54 rfl (w := 4) (by decide) rfl ?_
  refine r_goto 20 hX dX0_take_57 ?_
  refine r_iload 22 hX dX0_take_20 rfl ?_
  refine r_bipush 24 hX dX0_take_22 (v := 6) (by decide) ?_
  refine r_icmp_ge 27 60 hX dX0_take_24 (fun c => absurd c (by decide)) (fun _ => ?_)
  refine r_iload 29 hX dX0_take_27 rfl ?_
  refine r_iload_n 30 hX dX0_take_29 rfl ?_
  refine r_iadd 31 hX dX0_take_30 ?_
  refine mx_top (show (4 : Int32) + nI r = nI (4 + r) from nI_add 4 r) ?_
  refine r_bipush 33 hX dX0_take_31 (v := 6) (by decide) ?_
  refine r_cS2F 36 hX hR (tJ9_floorMod_7cf53 (a := 4 + r) (by omega)) dX0_take_33 kJ9_floorMod_7cf53 lX0_30 rfl rfl rfl ?_
  refine r_istore 38 hX dX0_take_36 rfl ?_
  refine r_iload 40 hX dX0_take_38 rfl ?_
  refine r_aload_n 41 hX dX0_take_40 rfl ?_
  refine r_alen 42 hX dX0_take_41 rfl rfl (v := 6) (by decide) ?_
  refine r_icmp_ge 45 54 hX dX0_take_42 (fun c5 => absurd c5 (nI_ge (b := 6) (show (4 + r) % 6 < 6 by omega) (by decide))) (fun c5 => ?_)
  refine r_aload 47 hX dX0_take_45 rfl ?_
  refine r_iload 49 hX dX0_take_47 rfl ?_
  refine r_aload_n 50 hX dX0_take_49 rfl ?_
  refine r_iload 52 hX dX0_take_50 rfl ?_
  refine r_ialdV 53 hX dX0_take_52 rfl rfl (vp_in_nI (show (4 + r) % 6 < 6 by omega) (by decide)) (nI_clamp (by omega)) (v := M.1 15 ((4 + r) % 6)) rfl ?_
  refine r_iastK 54 hX dX0_take_53 rfl rfl (vpK rfl) (j := 4) (by decide) ?_
  refine r_iincK 57 hX dX0_take_54 rfl (w := 5) (by decide) rfl ?_
  refine (show mx_WW G X 57 [_, _, _, _, _, _, _] _ _ from ?_)
  refine r_goto 20 hX dX0_take_57 ?_
  refine r_iload 22 hX dX0_take_20 rfl ?_
  refine r_bipush 24 hX dX0_take_22 (v := 6) (by decide) ?_
  refine r_icmp_ge 27 60 hX dX0_take_24 (fun c => absurd c (by decide)) (fun _ => ?_)
  refine r_iload 29 hX dX0_take_27 rfl ?_
  refine r_iload_n 30 hX dX0_take_29 rfl ?_
  refine r_iadd 31 hX dX0_take_30 ?_
  refine mx_top (show (5 : Int32) + nI r = nI (5 + r) from nI_add 5 r) ?_
  refine r_bipush 33 hX dX0_take_31 (v := 6) (by decide) ?_
  refine r_cS2F 36 hX hR (tJ9_floorMod_7cf53 (a := 5 + r) (by omega)) dX0_take_33 kJ9_floorMod_7cf53 lX0_30 rfl rfl rfl ?_
  refine r_istore 38 hX dX0_take_36 rfl ?_
  refine r_iload 40 hX dX0_take_38 rfl ?_
  refine r_aload_n 41 hX dX0_take_40 rfl ?_
  refine r_alen 42 hX dX0_take_41 rfl rfl (v := 6) (by decide) ?_
  refine r_icmp_ge 45 54 hX dX0_take_42 (fun c6 => absurd c6 (nI_ge (b := 6) (show (5 + r) % 6 < 6 by omega) (by decide))) (fun c6 => ?_)
  refine r_aload 47 hX dX0_take_45 rfl ?_
  refine r_iload 49 hX dX0_take_47 rfl ?_
  refine r_aload_n 50 hX dX0_take_49 rfl ?_
  refine r_iload 52 hX dX0_take_50 rfl ?_
  refine r_ialdV 53 hX dX0_take_52 rfl rfl (vp_in_nI (show (5 + r) % 6 < 6 by omega) (by decide)) (nI_clamp (by omega)) (v := M.1 15 ((5 + r) % 6)) rfl ?_
  refine r_iastK 54 hX dX0_take_53 rfl rfl (vpK rfl) (j := 5) (by decide) ?_
  refine r_iincK 57 hX dX0_take_54 rfl (w := 6) (by decide) rfl ?_
  refine r_goto 20 hX dX0_take_57 ?_
  refine r_iload 22 hX dX0_take_20 rfl ?_
  refine r_bipush 24 hX dX0_take_22 (v := 6) (by decide) ?_
  refine r_icmp_ge 27 60 hX dX0_take_24 (fun _ => ?_) (fun c => absurd c (by decide))
  refine r_vret hX hT dX0_take_60 ?_
  exact ⟨rfl, rfl⟩
set_option maxRecDepth 100000 in
set_option maxHeartbeats 4000000 in
theorem tX0_take_5 {l : Launch} {G : mx_G} {r : Nat} {M : mx_Mem} (hr : r ≤ 5) : mx_Met l G yX0_take cX0_take 7 (none) 1 22 [.ref 39, .int 0, .ref 5, .int (nI r)] M (mx_F none (tkM M 40 (M.1 5) r)) := by
  refine mx_enter (own := RX0) (L := [.ref 39, .int 0, .ref 5, .int (nI r), .null, .null, .null]) (by decide +kernel) rfl rfl rfl ?_
  intro X hlX hX hR hT
  refine r_iload_n 1 hX dX0_take_0 rfl ?_
  refine r_if_ne 4 11 hX dX0_take_1 (fun c => absurd c (by decide)) (fun _ => ?_)
  refine r_aload_n 5 hX dX0_take_4 rfl ?_
  refine r_getR 8 hX dX0_take_5 fX0_9 rfl rfl rfl ?_
  refine r_goto 15 hX dX0_take_8 ?_
  refine r_astore 17 hX dX0_take_15 rfl ?_
  refine r_iconst 18 hX dX0_take_17 (v := 0) (by decide) ?_
  refine r_istore 20 hX dX0_take_18 rfl ?_
  refine r_iload 22 hX dX0_take_20 rfl ?_
  refine r_bipush 24 hX dX0_take_22 (v := 6) (by decide) ?_
  refine r_icmp_ge 27 60 hX dX0_take_24 (fun c => absurd c (by decide)) (fun _ => ?_)
  refine r_iload 29 hX dX0_take_27 rfl ?_
  refine r_iload_n 30 hX dX0_take_29 rfl ?_
  refine r_iadd 31 hX dX0_take_30 ?_
  refine mx_top (show (0 : Int32) + nI r = nI (0 + r) from nI_add 0 r) ?_
  refine r_bipush 33 hX dX0_take_31 (v := 6) (by decide) ?_
  refine r_cS2F 36 hX hR (tJ9_floorMod_7cf53 (a := 0 + r) (by omega)) dX0_take_33 kJ9_floorMod_7cf53 lX0_30 rfl rfl rfl ?_
  refine r_istore 38 hX dX0_take_36 rfl ?_
  refine (show mx_WW G X 38 [_, _, _, _, _, _, _] _ _ from ?_)
  refine r_iload 40 hX dX0_take_38 rfl ?_
  refine r_aload_n 41 hX dX0_take_40 rfl ?_
  refine r_alen 42 hX dX0_take_41 rfl rfl (v := 6) (by decide) ?_
  refine r_icmp_ge 45 54 hX dX0_take_42 (fun c1 => absurd c1 (nI_ge (b := 6) (show (0 + r) % 6 < 6 by omega) (by decide))) (fun c1 => ?_)
  refine r_aload 47 hX dX0_take_45 rfl ?_
  refine r_iload 49 hX dX0_take_47 rfl ?_
  refine r_aload_n 50 hX dX0_take_49 rfl ?_
  refine r_iload 52 hX dX0_take_50 rfl ?_
  refine r_ialdV 53 hX dX0_take_52 rfl rfl (vp_in_nI (show (0 + r) % 6 < 6 by omega) (by decide)) (nI_clamp (by omega)) (v := M.1 5 ((0 + r) % 6)) rfl ?_
  refine r_iastK 54 hX dX0_take_53 rfl rfl (vpK rfl) (j := 0) (by decide) ?_
  refine r_iincK 57 hX dX0_take_54 rfl (w := 1) (by decide) rfl ?_
  refine r_goto 20 hX dX0_take_57 ?_
  refine r_iload 22 hX dX0_take_20 rfl ?_
  refine r_bipush 24 hX dX0_take_22 (v := 6) (by decide) ?_
  refine r_icmp_ge 27 60 hX dX0_take_24 (fun c => absurd c (by decide)) (fun _ => ?_)
  refine r_iload 29 hX dX0_take_27 rfl ?_
  refine r_iload_n 30 hX dX0_take_29 rfl ?_
  refine r_iadd 31 hX dX0_take_30 ?_
  refine mx_top (show (1 : Int32) + nI r = nI (1 + r) from nI_add 1 r) ?_
  refine r_bipush 33 hX dX0_take_31 (v := 6) (by decide) ?_
  refine r_cS2F 36 hX hR (tJ9_floorMod_7cf53 (a := 1 + r) (by omega)) dX0_take_33 kJ9_floorMod_7cf53 lX0_30 rfl rfl rfl ?_
  refine r_istore 38 hX dX0_take_36 rfl ?_
  refine r_iload 40 hX dX0_take_38 rfl ?_
  refine r_aload_n 41 hX dX0_take_40 rfl ?_
  refine r_alen 42 hX dX0_take_41 rfl rfl (v := 6) (by decide) ?_
  refine r_icmp_ge 45 54 hX dX0_take_42 (fun c2 => absurd c2 (nI_ge (b := 6) (show (1 + r) % 6 < 6 by omega) (by decide))) (fun c2 => ?_)
  refine r_aload 47 hX dX0_take_45 rfl ?_
  refine r_iload 49 hX dX0_take_47 rfl ?_
  refine r_aload_n 50 hX dX0_take_49 rfl ?_
  refine r_iload 52 hX dX0_take_50 rfl ?_
  refine r_ialdV 53 hX dX0_take_52 rfl rfl (vp_in_nI (show (1 + r) % 6 < 6 by omega) (by decide)) (nI_clamp (by omega)) (v := M.1 5 ((1 + r) % 6)) rfl ?_
  refine r_iastK 54 hX dX0_take_53 rfl rfl (vpK rfl) (j := 1) (by decide) ?_
  refine r_iincK 57 hX dX0_take_54 rfl (w := 2) (by decide) rfl ?_
  refine (show mx_WW G X 57 [_, _, _, _, _, _, _] _ _ from ?_)
  refine r_goto 20 hX dX0_take_57 ?_
  refine r_iload 22 hX dX0_take_20 rfl ?_
  refine r_bipush 24 hX dX0_take_22 (v := 6) (by decide) ?_
  refine r_icmp_ge 27 60 hX dX0_take_24 (fun c => absurd c (by decide)) (fun _ => ?_)
  refine r_iload 29 hX dX0_take_27 rfl ?_
  refine r_iload_n 30 hX dX0_take_29 rfl ?_
  refine r_iadd 31 hX dX0_take_30 ?_
  refine mx_top (show (2 : Int32) + nI r = nI (2 + r) from nI_add 2 r) ?_
  refine r_bipush 33 hX dX0_take_31 (v := 6) (by decide) ?_
  refine r_cS2F 36 hX hR (tJ9_floorMod_7cf53 (a := 2 + r) (by omega)) dX0_take_33 kJ9_floorMod_7cf53 lX0_30 rfl rfl rfl ?_
  refine r_istore 38 hX dX0_take_36 rfl ?_
  refine r_iload 40 hX dX0_take_38 rfl ?_
  refine r_aload_n 41 hX dX0_take_40 rfl ?_
  refine r_alen 42 hX dX0_take_41 rfl rfl (v := 6) (by decide) ?_
  refine r_icmp_ge 45 54 hX dX0_take_42 (fun c3 => absurd c3 (nI_ge (b := 6) (show (2 + r) % 6 < 6 by omega) (by decide))) (fun c3 => ?_)
  refine r_aload 47 hX dX0_take_45 rfl ?_
  refine r_iload 49 hX dX0_take_47 rfl ?_
  refine r_aload_n 50 hX dX0_take_49 rfl ?_
  refine r_iload 52 hX dX0_take_50 rfl ?_
  refine r_ialdV 53 hX dX0_take_52 rfl rfl (vp_in_nI (show (2 + r) % 6 < 6 by omega) (by decide)) (nI_clamp (by omega)) (v := M.1 5 ((2 + r) % 6)) rfl ?_
  refine r_iastK 54 hX dX0_take_53 rfl rfl (vpK rfl) (j := 2) (by decide) ?_
  refine r_iincK 57 hX dX0_take_54 rfl (w := 3) (by decide) rfl ?_
  refine r_goto 20 hX dX0_take_57 ?_
  refine r_iload 22 hX dX0_take_20 rfl ?_
  refine r_bipush 24 hX dX0_take_22 (v := 6) (by decide) ?_
  refine r_icmp_ge 27 60 hX dX0_take_24 (fun c => absurd c (by decide)) (fun _ => ?_)
  refine r_iload 29 hX dX0_take_27 rfl ?_
  refine r_iload_n 30 hX dX0_take_29 rfl ?_
  refine r_iadd 31 hX dX0_take_30 ?_
  refine mx_top (show (3 : Int32) + nI r = nI (3 + r) from nI_add 3 r) ?_
  refine r_bipush 33 hX dX0_take_31 (v := 6) (by decide) ?_
  refine r_cS2F 36 hX hR (tJ9_floorMod_7cf53 (a := 3 + r) (by omega)) dX0_take_33 kJ9_floorMod_7cf53 lX0_30 rfl rfl rfl ?_
  refine r_istore 38 hX dX0_take_36 rfl ?_
  refine (show mx_WW G X 38 [_, _, _, _, _, _, _] _ _ from ?_)
  refine r_iload 40 hX dX0_take_38 rfl ?_
  refine r_aload_n 41 hX dX0_take_40 rfl ?_
  refine r_alen 42 hX dX0_take_41 rfl rfl (v := 6) (by decide) ?_
  refine r_icmp_ge 45 54 hX dX0_take_42 (fun c4 => absurd c4 (nI_ge (b := 6) (show (3 + r) % 6 < 6 by omega) (by decide))) (fun c4 => ?_)
  refine r_aload 47 hX dX0_take_45 rfl ?_
  refine r_iload 49 hX dX0_take_47 rfl ?_
  refine r_aload_n 50 hX dX0_take_49 rfl ?_
  refine r_iload 52 hX dX0_take_50 rfl ?_
  refine r_ialdV 53 hX dX0_take_52 rfl rfl (vp_in_nI (show (3 + r) % 6 < 6 by omega) (by decide)) (nI_clamp (by omega)) (v := M.1 5 ((3 + r) % 6)) rfl ?_
  refine r_iastK 54 hX dX0_take_53 rfl rfl (vpK rfl) (j := 3) (by decide) ?_
  refine r_iincK 57 hX dX0_take_54 rfl (w := 4) (by decide) rfl ?_
  refine r_goto 20 hX dX0_take_57 ?_
  refine r_iload 22 hX dX0_take_20 rfl ?_
  refine r_bipush 24 hX dX0_take_22 (v := 6) (by decide) ?_
  refine r_icmp_ge 27 60 hX dX0_take_24 (fun c => absurd c (by decide)) (fun _ => ?_)
  refine r_iload 29 hX dX0_take_27 rfl ?_
  refine r_iload_n 30 hX dX0_take_29 rfl ?_
  refine r_iadd 31 hX dX0_take_30 ?_
  refine mx_top (show (4 : Int32) + nI r = nI (4 + r) from nI_add 4 r) ?_
  refine r_bipush 33 hX dX0_take_31 (v := 6) (by decide) ?_
  refine r_cS2F 36 hX hR (tJ9_floorMod_7cf53 (a := 4 + r) (by omega)) dX0_take_33 kJ9_floorMod_7cf53 lX0_30 rfl rfl rfl ?_
  refine r_istore 38 hX dX0_take_36 rfl ?_
  refine r_iload 40 hX dX0_take_38 rfl ?_
  refine r_aload_n 41 hX dX0_take_40 rfl ?_
  refine r_alen 42 hX dX0_take_41 rfl rfl (v := 6) (by decide) ?_
  refine r_icmp_ge 45 54 hX dX0_take_42 (fun c5 => absurd c5 (nI_ge (b := 6) (show (4 + r) % 6 < 6 by omega) (by decide))) (fun c5 => ?_)
  refine r_aload 47 hX dX0_take_45 rfl ?_
  refine r_iload 49 hX dX0_take_47 rfl ?_
  refine r_aload_n 50 hX dX0_take_49 rfl ?_
  refine r_iload 52 hX dX0_take_50 rfl ?_
  refine r_ialdV 53 hX dX0_take_52 rfl rfl (vp_in_nI (show (4 + r) % 6 < 6 by omega) (by decide)) (nI_clamp (by omega)) (v := M.1 5 ((4 + r) % 6)) rfl ?_
  refine r_iastK 54 hX dX0_take_53 rfl rfl (vpK rfl) (j := 4) (by decide) ?_
  refine r_iincK 57 hX dX0_take_54 rfl (w := 5) (by decide) rfl ?_
  refine (show mx_WW G X 57 [_, _, _, _, _, _, _] _ _ from ?_)
  refine r_goto 20 hX dX0_take_57 ?_
  refine r_iload 22 hX dX0_take_20 rfl ?_
  refine r_bipush 24 hX dX0_take_22 (v := 6) (by decide) ?_
  refine r_icmp_ge 27 60 hX dX0_take_24 (fun c => absurd c (by decide)) (fun _ => ?_)
  refine r_iload 29 hX dX0_take_27 rfl ?_
  refine r_iload_n 30 hX dX0_take_29 rfl ?_
  refine r_iadd 31 hX dX0_take_30 ?_
  refine mx_top (show (5 : Int32) + nI r = nI (5 + r) from nI_add 5 r) ?_
  refine r_bipush 33 hX dX0_take_31 (v := 6) (by decide) ?_
  refine r_cS2F 36 hX hR (tJ9_floorMod_7cf53 (a := 5 + r) (by omega)) dX0_take_33 kJ9_floorMod_7cf53 lX0_30 rfl rfl rfl ?_
  refine r_istore 38 hX dX0_take_36 rfl ?_
  refine r_iload 40 hX dX0_take_38 rfl ?_
  refine r_aload_n 41 hX dX0_take_40 rfl ?_
  refine r_alen 42 hX dX0_take_41 rfl rfl (v := 6) (by decide) ?_
  refine r_icmp_ge 45 54 hX dX0_take_42 (fun c6 => absurd c6 (nI_ge (b := 6) (show (5 + r) % 6 < 6 by omega) (by decide))) (fun c6 => ?_)
  refine r_aload 47 hX dX0_take_45 rfl ?_
  refine r_iload 49 hX dX0_take_47 rfl ?_
  refine r_aload_n 50 hX dX0_take_49 rfl ?_
  refine r_iload 52 hX dX0_take_50 rfl ?_
  refine r_ialdV 53 hX dX0_take_52 rfl rfl (vp_in_nI (show (5 + r) % 6 < 6 by omega) (by decide)) (nI_clamp (by omega)) (v := M.1 5 ((5 + r) % 6)) rfl ?_
  refine r_iastK 54 hX dX0_take_53 rfl rfl (vpK rfl) (j := 5) (by decide) ?_
  refine r_iincK 57 hX dX0_take_54 rfl (w := 6) (by decide) rfl ?_
  refine r_goto 20 hX dX0_take_57 ?_
  refine r_iload 22 hX dX0_take_20 rfl ?_
  refine r_bipush 24 hX dX0_take_22 (v := 6) (by decide) ?_
  refine r_icmp_ge 27 60 hX dX0_take_24 (fun _ => ?_) (fun c => absurd c (by decide))
  refine r_vret hX hT dX0_take_60 ?_
  exact ⟨rfl, rfl⟩
set_option maxRecDepth 100000 in
set_option maxHeartbeats 4000000 in
theorem tX0_take_8 {l : Launch} {G : mx_G} {r : Nat} {M : mx_Mem} (hr : r ≤ 5) : mx_Met l G yX0_take cX0_take 7 (none) 1 22 [.ref 39, .int 1, .ref 8, .int (nI r)] M (mx_F none (tkM M 41 (M.1 8) r)) := by
  refine mx_enter (own := RX0) (L := [.ref 39, .int 1, .ref 8, .int (nI r), .null, .null, .null]) (by decide +kernel) rfl rfl rfl ?_
  intro X hlX hX hR hT
  refine r_iload_n 1 hX dX0_take_0 rfl ?_
  refine r_if_ne 4 11 hX dX0_take_1 (fun _ => ?_) (fun c => absurd c (by decide))
  refine r_aload_n 12 hX dX0_take_11 rfl ?_
  refine r_getR 15 hX dX0_take_12 fX0_15 rfl rfl rfl ?_
  refine r_astore 17 hX dX0_take_15 rfl ?_
  refine r_iconst 18 hX dX0_take_17 (v := 0) (by decide) ?_
  refine r_istore 20 hX dX0_take_18 rfl ?_
  refine r_iload 22 hX dX0_take_20 rfl ?_
  refine r_bipush 24 hX dX0_take_22 (v := 6) (by decide) ?_
  refine r_icmp_ge 27 60 hX dX0_take_24 (fun c => absurd c (by decide)) (fun _ => ?_)
  refine r_iload 29 hX dX0_take_27 rfl ?_
  refine r_iload_n 30 hX dX0_take_29 rfl ?_
  refine r_iadd 31 hX dX0_take_30 ?_
  refine mx_top (show (0 : Int32) + nI r = nI (0 + r) from nI_add 0 r) ?_
  refine r_bipush 33 hX dX0_take_31 (v := 6) (by decide) ?_
  refine r_cS2F 36 hX hR (tJ9_floorMod_7cf53 (a := 0 + r) (by omega)) dX0_take_33 kJ9_floorMod_7cf53 lX0_30 rfl rfl rfl ?_
  refine r_istore 38 hX dX0_take_36 rfl ?_
  refine (show mx_WW G X 38 [_, _, _, _, _, _, _] _ _ from ?_)
  refine r_iload 40 hX dX0_take_38 rfl ?_
  refine r_aload_n 41 hX dX0_take_40 rfl ?_
  refine r_alen 42 hX dX0_take_41 rfl rfl (v := 6) (by decide) ?_
  refine r_icmp_ge 45 54 hX dX0_take_42 (fun c1 => absurd c1 (nI_ge (b := 6) (show (0 + r) % 6 < 6 by omega) (by decide))) (fun c1 => ?_)
  refine r_aload 47 hX dX0_take_45 rfl ?_
  refine r_iload 49 hX dX0_take_47 rfl ?_
  refine r_aload_n 50 hX dX0_take_49 rfl ?_
  refine r_iload 52 hX dX0_take_50 rfl ?_
  refine r_ialdV 53 hX dX0_take_52 rfl rfl (vp_in_nI (show (0 + r) % 6 < 6 by omega) (by decide)) (nI_clamp (by omega)) (v := M.1 8 ((0 + r) % 6)) rfl ?_
  refine r_iastK 54 hX dX0_take_53 rfl rfl (vpK rfl) (j := 0) (by decide) ?_
  refine r_iincK 57 hX dX0_take_54 rfl (w := 1) (by decide) rfl ?_
  refine r_goto 20 hX dX0_take_57 ?_
  refine r_iload 22 hX dX0_take_20 rfl ?_
  refine r_bipush 24 hX dX0_take_22 (v := 6) (by decide) ?_
  refine r_icmp_ge 27 60 hX dX0_take_24 (fun c => absurd c (by decide)) (fun _ => ?_)
  refine r_iload 29 hX dX0_take_27 rfl ?_
  refine r_iload_n 30 hX dX0_take_29 rfl ?_
  refine r_iadd 31 hX dX0_take_30 ?_
  refine mx_top (show (1 : Int32) + nI r = nI (1 + r) from nI_add 1 r) ?_
  refine r_bipush 33 hX dX0_take_31 (v := 6) (by decide) ?_
  refine r_cS2F 36 hX hR (tJ9_floorMod_7cf53 (a := 1 + r) (by omega)) dX0_take_33 kJ9_floorMod_7cf53 lX0_30 rfl rfl rfl ?_
  refine r_istore 38 hX dX0_take_36 rfl ?_
  refine r_iload 40 hX dX0_take_38 rfl ?_
  refine r_aload_n 41 hX dX0_take_40 rfl ?_
  refine r_alen 42 hX dX0_take_41 rfl rfl (v := 6) (by decide) ?_
  refine r_icmp_ge 45 54 hX dX0_take_42 (fun c2 => absurd c2 (nI_ge (b := 6) (show (1 + r) % 6 < 6 by omega) (by decide))) (fun c2 => ?_)
  refine r_aload 47 hX dX0_take_45 rfl ?_
  refine r_iload 49 hX dX0_take_47 rfl ?_
  refine r_aload_n 50 hX dX0_take_49 rfl ?_
  refine r_iload 52 hX dX0_take_50 rfl ?_
  refine r_ialdV 53 hX dX0_take_52 rfl rfl (vp_in_nI (show (1 + r) % 6 < 6 by omega) (by decide)) (nI_clamp (by omega)) (v := M.1 8 ((1 + r) % 6)) rfl ?_
  refine r_iastK 54 hX dX0_take_53 rfl rfl (vpK rfl) (j := 1) (by decide) ?_
  refine r_iincK 57 hX dX0_take_54 rfl (w := 2) (by decide) rfl ?_
  refine (show mx_WW G X 57 [_, _, _, _, _, _, _] _ _ from ?_)
  refine r_goto 20 hX dX0_take_57 ?_
  refine r_iload 22 hX dX0_take_20 rfl ?_
  refine r_bipush 24 hX dX0_take_22 (v := 6) (by decide) ?_
  refine r_icmp_ge 27 60 hX dX0_take_24 (fun c => absurd c (by decide)) (fun _ => ?_)
  refine r_iload 29 hX dX0_take_27 rfl ?_
  refine r_iload_n 30 hX dX0_take_29 rfl ?_
  refine r_iadd 31 hX dX0_take_30 ?_
  refine mx_top (show (2 : Int32) + nI r = nI (2 + r) from nI_add 2 r) ?_
  refine r_bipush 33 hX dX0_take_31 (v := 6) (by decide) ?_
  refine r_cS2F 36 hX hR (tJ9_floorMod_7cf53 (a := 2 + r) (by omega)) dX0_take_33 kJ9_floorMod_7cf53 lX0_30 rfl rfl rfl ?_
  refine r_istore 38 hX dX0_take_36 rfl ?_
  refine r_iload 40 hX dX0_take_38 rfl ?_
  refine r_aload_n 41 hX dX0_take_40 rfl ?_
  refine r_alen 42 hX dX0_take_41 rfl rfl (v := 6) (by decide) ?_
  refine r_icmp_ge 45 54 hX dX0_take_42 (fun c3 => absurd c3 (nI_ge (b := 6) (show (2 + r) % 6 < 6 by omega) (by decide))) (fun c3 => ?_)
  refine r_aload 47 hX dX0_take_45 rfl ?_
  refine r_iload 49 hX dX0_take_47 rfl ?_
  refine r_aload_n 50 hX dX0_take_49 rfl ?_
  refine r_iload 52 hX dX0_take_50 rfl ?_
  refine r_ialdV 53 hX dX0_take_52 rfl rfl (vp_in_nI (show (2 + r) % 6 < 6 by omega) (by decide)) (nI_clamp (by omega)) (v := M.1 8 ((2 + r) % 6)) rfl ?_
  refine r_iastK 54 hX dX0_take_53 rfl rfl (vpK rfl) (j := 2) (by decide) ?_
  refine r_iincK 57 hX dX0_take_54 rfl (w := 3) (by decide) rfl ?_
  refine r_goto 20 hX dX0_take_57 ?_
  refine r_iload 22 hX dX0_take_20 rfl ?_
  refine r_bipush 24 hX dX0_take_22 (v := 6) (by decide) ?_
  refine r_icmp_ge 27 60 hX dX0_take_24 (fun c => absurd c (by decide)) (fun _ => ?_)
  refine r_iload 29 hX dX0_take_27 rfl ?_
  refine r_iload_n 30 hX dX0_take_29 rfl ?_
  refine r_iadd 31 hX dX0_take_30 ?_
  refine mx_top (show (3 : Int32) + nI r = nI (3 + r) from nI_add 3 r) ?_
  refine r_bipush 33 hX dX0_take_31 (v := 6) (by decide) ?_
  refine r_cS2F 36 hX hR (tJ9_floorMod_7cf53 (a := 3 + r) (by omega)) dX0_take_33 kJ9_floorMod_7cf53 lX0_30 rfl rfl rfl ?_
  refine r_istore 38 hX dX0_take_36 rfl ?_
  refine (show mx_WW G X 38 [_, _, _, _, _, _, _] _ _ from ?_)
  refine r_iload 40 hX dX0_take_38 rfl ?_
  refine r_aload_n 41 hX dX0_take_40 rfl ?_
  refine r_alen 42 hX dX0_take_41 rfl rfl (v := 6) (by decide) ?_
  refine r_icmp_ge 45 54 hX dX0_take_42 (fun c4 => absurd c4 (nI_ge (b := 6) (show (3 + r) % 6 < 6 by omega) (by decide))) (fun c4 => ?_)
  refine r_aload 47 hX dX0_take_45 rfl ?_
  refine r_iload 49 hX dX0_take_47 rfl ?_
  refine r_aload_n 50 hX dX0_take_49 rfl ?_
  refine r_iload 52 hX dX0_take_50 rfl ?_
  refine r_ialdV 53 hX dX0_take_52 rfl rfl (vp_in_nI (show (3 + r) % 6 < 6 by omega) (by decide)) (nI_clamp (by omega)) (v := M.1 8 ((3 + r) % 6)) rfl ?_
  refine r_iastK 54 hX dX0_take_53 rfl rfl (vpK rfl) (j := 3) (by decide) ?_
  refine r_iincK 57 hX dX0_take_54 rfl (w := 4) (by decide) rfl ?_
  refine r_goto 20 hX dX0_take_57 ?_
  refine r_iload 22 hX dX0_take_20 rfl ?_
  refine r_bipush 24 hX dX0_take_22 (v := 6) (by decide) ?_
  refine r_icmp_ge 27 60 hX dX0_take_24 (fun c => absurd c (by decide)) (fun _ => ?_)
  refine r_iload 29 hX dX0_take_27 rfl ?_
  refine r_iload_n 30 hX dX0_take_29 rfl ?_
  refine r_iadd 31 hX dX0_take_30 ?_
  refine mx_top (show (4 : Int32) + nI r = nI (4 + r) from nI_add 4 r) ?_
  refine r_bipush 33 hX dX0_take_31 (v := 6) (by decide) ?_
  refine r_cS2F 36 hX hR (tJ9_floorMod_7cf53 (a := 4 + r) (by omega)) dX0_take_33 kJ9_floorMod_7cf53 lX0_30 rfl rfl rfl ?_
  refine r_istore 38 hX dX0_take_36 rfl ?_
  refine r_iload 40 hX dX0_take_38 rfl ?_
  refine r_aload_n 41 hX dX0_take_40 rfl ?_
  refine r_alen 42 hX dX0_take_41 rfl rfl (v := 6) (by decide) ?_
  refine r_icmp_ge 45 54 hX dX0_take_42 (fun c5 => absurd c5 (nI_ge (b := 6) (show (4 + r) % 6 < 6 by omega) (by decide))) (fun c5 => ?_)
  refine r_aload 47 hX dX0_take_45 rfl ?_
  refine r_iload 49 hX dX0_take_47 rfl ?_
  refine r_aload_n 50 hX dX0_take_49 rfl ?_
  refine r_iload 52 hX dX0_take_50 rfl ?_
  refine r_ialdV 53 hX dX0_take_52 rfl rfl (vp_in_nI (show (4 + r) % 6 < 6 by omega) (by decide)) (nI_clamp (by omega)) (v := M.1 8 ((4 + r) % 6)) rfl ?_
  refine r_iastK 54 hX dX0_take_53 rfl rfl (vpK rfl) (j := 4) (by decide) ?_
  refine r_iincK 57 hX dX0_take_54 rfl (w := 5) (by decide) rfl ?_
  refine (show mx_WW G X 57 [_, _, _, _, _, _, _] _ _ from ?_)
  refine r_goto 20 hX dX0_take_57 ?_
  refine r_iload 22 hX dX0_take_20 rfl ?_
  refine r_bipush 24 hX dX0_take_22 (v := 6) (by decide) ?_
  refine r_icmp_ge 27 60 hX dX0_take_24 (fun c => absurd c (by decide)) (fun _ => ?_)
  refine r_iload 29 hX dX0_take_27 rfl ?_
  refine r_iload_n 30 hX dX0_take_29 rfl ?_
  refine r_iadd 31 hX dX0_take_30 ?_
  refine mx_top (show (5 : Int32) + nI r = nI (5 + r) from nI_add 5 r) ?_
  refine r_bipush 33 hX dX0_take_31 (v := 6) (by decide) ?_
  refine r_cS2F 36 hX hR (tJ9_floorMod_7cf53 (a := 5 + r) (by omega)) dX0_take_33 kJ9_floorMod_7cf53 lX0_30 rfl rfl rfl ?_
  refine r_istore 38 hX dX0_take_36 rfl ?_
  refine r_iload 40 hX dX0_take_38 rfl ?_
  refine r_aload_n 41 hX dX0_take_40 rfl ?_
  refine r_alen 42 hX dX0_take_41 rfl rfl (v := 6) (by decide) ?_
  refine r_icmp_ge 45 54 hX dX0_take_42 (fun c6 => absurd c6 (nI_ge (b := 6) (show (5 + r) % 6 < 6 by omega) (by decide))) (fun c6 => ?_)
  refine r_aload 47 hX dX0_take_45 rfl ?_
  refine r_iload 49 hX dX0_take_47 rfl ?_
  refine r_aload_n 50 hX dX0_take_49 rfl ?_
  refine r_iload 52 hX dX0_take_50 rfl ?_
  refine r_ialdV 53 hX dX0_take_52 rfl rfl (vp_in_nI (show (5 + r) % 6 < 6 by omega) (by decide)) (nI_clamp (by omega)) (v := M.1 8 ((5 + r) % 6)) rfl ?_
  refine r_iastK 54 hX dX0_take_53 rfl rfl (vpK rfl) (j := 5) (by decide) ?_
  refine r_iincK 57 hX dX0_take_54 rfl (w := 6) (by decide) rfl ?_
  refine r_goto 20 hX dX0_take_57 ?_
  refine r_iload 22 hX dX0_take_20 rfl ?_
  refine r_bipush 24 hX dX0_take_22 (v := 6) (by decide) ?_
  refine r_icmp_ge 27 60 hX dX0_take_24 (fun _ => ?_) (fun c => absurd c (by decide))
  refine r_vret hX hT dX0_take_60 ?_
  exact ⟨rfl, rfl⟩
def tkC (M : mx_Mem) : mx_Mem := tkM (tkM M 40 (M.1 10) 0) 41 (M.1 15) 0
set_option maxRecDepth 100000 in
set_option maxHeartbeats 4000000 in
theorem tX7_takeCourts {l : Launch} {G : mx_G} {M : mx_Mem} : mx_Met l G yX7_takeCourts cX7_takeCourts 1 (none) 2 48 [.ref 0] M (mx_F none (tkC M)) := by
  refine mx_enter (own := RX7) (L := [.ref 0]) (by decide +kernel) rfl rfl rfl ?_
  intro X hlX hX hR hT
  refine r_aload_n 1 hX dX7_takeCourts_0 rfl ?_
  refine r_getR 4 hX dX7_takeCourts_1 fX7_72 rfl rfl rfl ?_
  refine r_iconst 5 hX dX7_takeCourts_4 (v := 0) (by decide) ?_
  refine r_aload_n 6 hX dX7_takeCourts_5 rfl ?_
  refine r_getR 9 hX dX7_takeCourts_6 fX7_29 rfl rfl rfl ?_
  refine r_getR 12 hX dX7_takeCourts_9 fX7_347 rfl rfl rfl ?_
  refine r_iconst 13 hX dX7_takeCourts_12 (v := 0) (by decide) ?_
  refine r_cV3U 16 hX hR (tX0_take_10 (r := 0) (by decide)) dX7_takeCourts_13 kX0_take lX7_267 rfl rfl rfl rfl rfl rfl ?_
  refine r_aload_n 17 hX dX7_takeCourts_16 rfl ?_
  refine r_getR 20 hX dX7_takeCourts_17 fX7_72 rfl rfl rfl ?_
  refine r_iconst 21 hX dX7_takeCourts_20 (v := 1) (by decide) ?_
  refine r_aload_n 22 hX dX7_takeCourts_21 rfl ?_
  refine r_getR 25 hX dX7_takeCourts_22 fX7_33 rfl rfl rfl ?_
  refine r_getR 28 hX dX7_takeCourts_25 fX7_347 rfl rfl rfl ?_
  refine r_iconst 29 hX dX7_takeCourts_28 (v := 0) (by decide) ?_
  refine r_cV3U 32 hX hR (tX0_take_15 (r := 0) (by decide)) dX7_takeCourts_29 kX0_take lX7_267 rfl rfl rfl rfl rfl rfl ?_
  refine r_vret hX hT dX7_takeCourts_32 ?_
  exact ⟨rfl, rfl⟩
/-- CHANCE by phase: who served first, the phase -/
def phV (M : mx_Mem) (t : Nat) (n : Nat) : Int32 :=
  let a := if t = 0 then n / 2 else (n + 1) / 2
  let b := if t = 0 then (n + 1) / 2 else n / 2
  if (n + t) % 2 = 0 then rcF (M.1 4) (M.1 7) (M.1 40) (M.1 41) a b else rcF (M.1 7) (M.1 4) (M.1 41) (M.1 40) b a
def fpM (M : mx_Mem) (t : Nat) : Nat → mx_Mem
  | 0 => mI M 39 4 (nI t)
  | n + 1 => mI (fpM M t n) 42 n (phV M t n)
set_option maxRecDepth 100000 in
set_option maxHeartbeats 4000000 in
theorem tX0_fillPhases_0 {l : Launch} {G : mx_G} {M : mx_Mem} : mx_Met l G yX0_fillPhases cX0_fillPhases 10 (none) 3 81 [.ref 39, .ref 3, .ref 6, .int 0] M (mx_F none (fpM M 0 12)) := by
  refine mx_enter (own := RX0) (L := [.ref 39, .ref 3, .ref 6, .int 0, .null, .null, .null, .null, .null, .null]) (by decide +kernel) rfl rfl rfl ?_
  intro X hlX hX hR hT
  refine r_aload_n 1 hX dX0_fillPhases_0 rfl ?_
  refine r_iload_n 2 hX dX0_fillPhases_1 rfl ?_
  refine r_putI 5 hX dX0_fillPhases_2 fX0_26 fp0_4 rfl rfl rfl ?_
  refine r_iconst 6 hX dX0_fillPhases_5 (v := 0) (by decide) ?_
  refine r_istore 8 hX dX0_fillPhases_6 rfl ?_
  refine r_iload 10 hX dX0_fillPhases_8 rfl ?_
  refine r_bipush 12 hX dX0_fillPhases_10 (v := 12) (by decide) ?_
  refine r_icmp_ge 15 108 hX dX0_fillPhases_12 (fun c => absurd c (by decide)) (fun _ => ?_)
  refine r_iload 17 hX dX0_fillPhases_15 rfl ?_
  refine r_iconst 18 hX dX0_fillPhases_17 (v := 2) (by decide) ?_
  refine r_idivK 19 hX dX0_fillPhases_18 (by decide) (w := 0) (by decide) ?_
  refine r_istore 21 hX dX0_fillPhases_19 rfl ?_
  refine r_iload 23 hX dX0_fillPhases_21 rfl ?_
  refine r_iconst 24 hX dX0_fillPhases_23 (v := 1) (by decide) ?_
  refine r_iaddK 25 hX dX0_fillPhases_24 (w := 1) (by decide) ?_
  refine r_iconst 26 hX dX0_fillPhases_25 (v := 2) (by decide) ?_
  refine r_idivK 27 hX dX0_fillPhases_26 (by decide) (w := 0) (by decide) ?_
  refine r_istore 29 hX dX0_fillPhases_27 rfl ?_
  refine (show mx_WW G X 29 [_, _, _, _, _, _, _, _, _, _] _ _ from ?_)
  refine r_aload_n 30 hX dX0_fillPhases_29 rfl ?_
  refine r_getI 33 hX dX0_fillPhases_30 fX0_26 rfl rfl rfl ?_
  refine mx_top (y := 0) rfl ?_
  refine r_if_ne 36 41 hX dX0_fillPhases_33 (fun c => absurd c (by decide)) (fun _ => ?_)
  refine r_iload 38 hX dX0_fillPhases_36 rfl ?_
  refine r_goto 43 hX dX0_fillPhases_38 ?_
  refine r_istore 45 hX dX0_fillPhases_43 rfl ?_
  refine r_aload_n 46 hX dX0_fillPhases_45 rfl ?_
  refine r_getI 49 hX dX0_fillPhases_46 fX0_26 rfl rfl rfl ?_
  refine mx_top (y := 0) rfl ?_
  refine r_if_ne 52 57 hX dX0_fillPhases_49 (fun c => absurd c (by decide)) (fun _ => ?_)
  refine r_iload 54 hX dX0_fillPhases_52 rfl ?_
  refine r_goto 59 hX dX0_fillPhases_54 ?_
  refine r_istore 61 hX dX0_fillPhases_59 rfl ?_
  refine r_iload 63 hX dX0_fillPhases_61 rfl ?_
  refine r_iconst 64 hX dX0_fillPhases_63 (v := 2) (by decide) ?_
  refine r_iremK 65 hX dX0_fillPhases_64 (by decide) (w := 0) (by decide) ?_
  refine r_if_ne 68 75 hX dX0_fillPhases_65 (fun c => absurd c (by decide)) (fun _ => ?_)
  refine r_aload_n 69 hX dX0_fillPhases_68 rfl ?_
  refine r_getI 72 hX dX0_fillPhases_69 fX0_26 rfl rfl rfl ?_
  refine mx_top (y := 0) rfl ?_
  refine r_goto 81 hX dX0_fillPhases_72 ?_
  refine r_istore 83 hX dX0_fillPhases_81 rfl ?_
  refine (show mx_WW G X 83 [_, _, _, _, _, _, _, _, _, _] _ _ from ?_)
  refine r_aload_n 84 hX dX0_fillPhases_83 rfl ?_
  refine r_getR 87 hX dX0_fillPhases_84 fX0_18 rfl rfl rfl ?_
  refine r_iload 89 hX dX0_fillPhases_87 rfl ?_
  refine r_aload_n 90 hX dX0_fillPhases_89 rfl ?_
  refine r_aload_n 91 hX dX0_fillPhases_90 rfl ?_
  refine r_aload_n 92 hX dX0_fillPhases_91 rfl ?_
  refine r_iload 94 hX dX0_fillPhases_92 rfl ?_
  refine r_iload 96 hX dX0_fillPhases_94 rfl ?_
  refine r_iload 98 hX dX0_fillPhases_96 rfl ?_
  refine r_cV5F 101 hX hR (tX0_rallyChance_0 (i := 0) (j := 0) (by decide) (by decide)) dX0_fillPhases_98 kX0_rallyChance lX0_57 rfl rfl rfl rfl rfl rfl ?_
  refine mx_top (y := phV M 0 0) rfl ?_
  refine r_iastK 102 hX dX0_fillPhases_101 rfl rfl (vpK rfl) (j := 0) (by decide) ?_
  refine r_iincK 105 hX dX0_fillPhases_102 rfl (w := 1) (by decide) rfl ?_
  refine r_goto 8 hX dX0_fillPhases_105 ?_
  refine r_iload 10 hX dX0_fillPhases_8 rfl ?_
  refine r_bipush 12 hX dX0_fillPhases_10 (v := 12) (by decide) ?_
  refine r_icmp_ge 15 108 hX dX0_fillPhases_12 (fun c => absurd c (by decide)) (fun _ => ?_)
  refine r_iload 17 hX dX0_fillPhases_15 rfl ?_
  refine r_iconst 18 hX dX0_fillPhases_17 (v := 2) (by decide) ?_
  refine r_idivK 19 hX dX0_fillPhases_18 (by decide) (w := 0) (by decide) ?_
  refine r_istore 21 hX dX0_fillPhases_19 rfl ?_
  refine r_iload 23 hX dX0_fillPhases_21 rfl ?_
  refine r_iconst 24 hX dX0_fillPhases_23 (v := 1) (by decide) ?_
  refine r_iaddK 25 hX dX0_fillPhases_24 (w := 2) (by decide) ?_
  refine r_iconst 26 hX dX0_fillPhases_25 (v := 2) (by decide) ?_
  refine r_idivK 27 hX dX0_fillPhases_26 (by decide) (w := 1) (by decide) ?_
  refine r_istore 29 hX dX0_fillPhases_27 rfl ?_
  refine (show mx_WW G X 29 [_, _, _, _, _, _, _, _, _, _] _ _ from ?_)
  refine r_aload_n 30 hX dX0_fillPhases_29 rfl ?_
  refine r_getI 33 hX dX0_fillPhases_30 fX0_26 rfl rfl rfl ?_
  refine mx_top (y := 0) rfl ?_
  refine r_if_ne 36 41 hX dX0_fillPhases_33 (fun c => absurd c (by decide)) (fun _ => ?_)
  refine r_iload 38 hX dX0_fillPhases_36 rfl ?_
  refine r_goto 43 hX dX0_fillPhases_38 ?_
  refine r_istore 45 hX dX0_fillPhases_43 rfl ?_
  refine r_aload_n 46 hX dX0_fillPhases_45 rfl ?_
  refine r_getI 49 hX dX0_fillPhases_46 fX0_26 rfl rfl rfl ?_
  refine mx_top (y := 0) rfl ?_
  refine r_if_ne 52 57 hX dX0_fillPhases_49 (fun c => absurd c (by decide)) (fun _ => ?_)
  refine r_iload 54 hX dX0_fillPhases_52 rfl ?_
  refine r_goto 59 hX dX0_fillPhases_54 ?_
  refine r_istore 61 hX dX0_fillPhases_59 rfl ?_
  refine r_iload 63 hX dX0_fillPhases_61 rfl ?_
  refine r_iconst 64 hX dX0_fillPhases_63 (v := 2) (by decide) ?_
  refine r_iremK 65 hX dX0_fillPhases_64 (by decide) (w := 1) (by decide) ?_
  refine r_if_ne 68 75 hX dX0_fillPhases_65 (fun _ => ?_) (fun c => absurd c (by decide))
  refine r_iconst 76 hX dX0_fillPhases_75 (v := 1) (by decide) ?_
  refine r_aload_n 77 hX dX0_fillPhases_76 rfl ?_
  refine r_getI 80 hX dX0_fillPhases_77 fX0_26 rfl rfl rfl ?_
  refine mx_top (y := 0) rfl ?_
  refine r_isubK 81 hX dX0_fillPhases_80 (w := 1) (by decide) ?_
  refine r_istore 83 hX dX0_fillPhases_81 rfl ?_
  refine (show mx_WW G X 83 [_, _, _, _, _, _, _, _, _, _] _ _ from ?_)
  refine r_aload_n 84 hX dX0_fillPhases_83 rfl ?_
  refine r_getR 87 hX dX0_fillPhases_84 fX0_18 rfl rfl rfl ?_
  refine r_iload 89 hX dX0_fillPhases_87 rfl ?_
  refine r_aload_n 90 hX dX0_fillPhases_89 rfl ?_
  refine r_aload_n 91 hX dX0_fillPhases_90 rfl ?_
  refine r_aload_n 92 hX dX0_fillPhases_91 rfl ?_
  refine r_iload 94 hX dX0_fillPhases_92 rfl ?_
  refine r_iload 96 hX dX0_fillPhases_94 rfl ?_
  refine r_iload 98 hX dX0_fillPhases_96 rfl ?_
  refine r_cV5F 101 hX hR (tX0_rallyChance_1 (i := 0) (j := 1) (by decide) (by decide)) dX0_fillPhases_98 kX0_rallyChance lX0_57 rfl rfl rfl rfl rfl rfl ?_
  refine mx_top (y := phV M 0 1) rfl ?_
  refine r_iastK 102 hX dX0_fillPhases_101 rfl rfl (vpK rfl) (j := 1) (by decide) ?_
  refine r_iincK 105 hX dX0_fillPhases_102 rfl (w := 2) (by decide) rfl ?_
  refine r_goto 8 hX dX0_fillPhases_105 ?_
  refine r_iload 10 hX dX0_fillPhases_8 rfl ?_
  refine r_bipush 12 hX dX0_fillPhases_10 (v := 12) (by decide) ?_
  refine r_icmp_ge 15 108 hX dX0_fillPhases_12 (fun c => absurd c (by decide)) (fun _ => ?_)
  refine r_iload 17 hX dX0_fillPhases_15 rfl ?_
  refine r_iconst 18 hX dX0_fillPhases_17 (v := 2) (by decide) ?_
  refine r_idivK 19 hX dX0_fillPhases_18 (by decide) (w := 1) (by decide) ?_
  refine r_istore 21 hX dX0_fillPhases_19 rfl ?_
  refine r_iload 23 hX dX0_fillPhases_21 rfl ?_
  refine r_iconst 24 hX dX0_fillPhases_23 (v := 1) (by decide) ?_
  refine r_iaddK 25 hX dX0_fillPhases_24 (w := 3) (by decide) ?_
  refine r_iconst 26 hX dX0_fillPhases_25 (v := 2) (by decide) ?_
  refine r_idivK 27 hX dX0_fillPhases_26 (by decide) (w := 1) (by decide) ?_
  refine r_istore 29 hX dX0_fillPhases_27 rfl ?_
  refine (show mx_WW G X 29 [_, _, _, _, _, _, _, _, _, _] _ _ from ?_)
  refine r_aload_n 30 hX dX0_fillPhases_29 rfl ?_
  refine r_getI 33 hX dX0_fillPhases_30 fX0_26 rfl rfl rfl ?_
  refine mx_top (y := 0) rfl ?_
  refine r_if_ne 36 41 hX dX0_fillPhases_33 (fun c => absurd c (by decide)) (fun _ => ?_)
  refine r_iload 38 hX dX0_fillPhases_36 rfl ?_
  refine r_goto 43 hX dX0_fillPhases_38 ?_
  refine r_istore 45 hX dX0_fillPhases_43 rfl ?_
  refine r_aload_n 46 hX dX0_fillPhases_45 rfl ?_
  refine r_getI 49 hX dX0_fillPhases_46 fX0_26 rfl rfl rfl ?_
  refine mx_top (y := 0) rfl ?_
  refine r_if_ne 52 57 hX dX0_fillPhases_49 (fun c => absurd c (by decide)) (fun _ => ?_)
  refine r_iload 54 hX dX0_fillPhases_52 rfl ?_
  refine r_goto 59 hX dX0_fillPhases_54 ?_
  refine r_istore 61 hX dX0_fillPhases_59 rfl ?_
  refine r_iload 63 hX dX0_fillPhases_61 rfl ?_
  refine r_iconst 64 hX dX0_fillPhases_63 (v := 2) (by decide) ?_
  refine r_iremK 65 hX dX0_fillPhases_64 (by decide) (w := 0) (by decide) ?_
  refine r_if_ne 68 75 hX dX0_fillPhases_65 (fun c => absurd c (by decide)) (fun _ => ?_)
  refine r_aload_n 69 hX dX0_fillPhases_68 rfl ?_
  refine r_getI 72 hX dX0_fillPhases_69 fX0_26 rfl rfl rfl ?_
  refine mx_top (y := 0) rfl ?_
  refine r_goto 81 hX dX0_fillPhases_72 ?_
  refine r_istore 83 hX dX0_fillPhases_81 rfl ?_
  refine (show mx_WW G X 83 [_, _, _, _, _, _, _, _, _, _] _ _ from ?_)
  refine r_aload_n 84 hX dX0_fillPhases_83 rfl ?_
  refine r_getR 87 hX dX0_fillPhases_84 fX0_18 rfl rfl rfl ?_
  refine r_iload 89 hX dX0_fillPhases_87 rfl ?_
  refine r_aload_n 90 hX dX0_fillPhases_89 rfl ?_
  refine r_aload_n 91 hX dX0_fillPhases_90 rfl ?_
  refine r_aload_n 92 hX dX0_fillPhases_91 rfl ?_
  refine r_iload 94 hX dX0_fillPhases_92 rfl ?_
  refine r_iload 96 hX dX0_fillPhases_94 rfl ?_
  refine r_iload 98 hX dX0_fillPhases_96 rfl ?_
  refine r_cV5F 101 hX hR (tX0_rallyChance_0 (i := 1) (j := 1) (by decide) (by decide)) dX0_fillPhases_98 kX0_rallyChance lX0_57 rfl rfl rfl rfl rfl rfl ?_
  refine mx_top (y := phV M 0 2) rfl ?_
  refine r_iastK 102 hX dX0_fillPhases_101 rfl rfl (vpK rfl) (j := 2) (by decide) ?_
  refine r_iincK 105 hX dX0_fillPhases_102 rfl (w := 3) (by decide) rfl ?_
  refine r_goto 8 hX dX0_fillPhases_105 ?_
  refine r_iload 10 hX dX0_fillPhases_8 rfl ?_
  refine r_bipush 12 hX dX0_fillPhases_10 (v := 12) (by decide) ?_
  refine r_icmp_ge 15 108 hX dX0_fillPhases_12 (fun c => absurd c (by decide)) (fun _ => ?_)
  refine r_iload 17 hX dX0_fillPhases_15 rfl ?_
  refine r_iconst 18 hX dX0_fillPhases_17 (v := 2) (by decide) ?_
  refine r_idivK 19 hX dX0_fillPhases_18 (by decide) (w := 1) (by decide) ?_
  refine r_istore 21 hX dX0_fillPhases_19 rfl ?_
  refine r_iload 23 hX dX0_fillPhases_21 rfl ?_
  refine r_iconst 24 hX dX0_fillPhases_23 (v := 1) (by decide) ?_
  refine r_iaddK 25 hX dX0_fillPhases_24 (w := 4) (by decide) ?_
  refine r_iconst 26 hX dX0_fillPhases_25 (v := 2) (by decide) ?_
  refine r_idivK 27 hX dX0_fillPhases_26 (by decide) (w := 2) (by decide) ?_
  refine r_istore 29 hX dX0_fillPhases_27 rfl ?_
  refine (show mx_WW G X 29 [_, _, _, _, _, _, _, _, _, _] _ _ from ?_)
  refine r_aload_n 30 hX dX0_fillPhases_29 rfl ?_
  refine r_getI 33 hX dX0_fillPhases_30 fX0_26 rfl rfl rfl ?_
  refine mx_top (y := 0) rfl ?_
  refine r_if_ne 36 41 hX dX0_fillPhases_33 (fun c => absurd c (by decide)) (fun _ => ?_)
  refine r_iload 38 hX dX0_fillPhases_36 rfl ?_
  refine r_goto 43 hX dX0_fillPhases_38 ?_
  refine r_istore 45 hX dX0_fillPhases_43 rfl ?_
  refine r_aload_n 46 hX dX0_fillPhases_45 rfl ?_
  refine r_getI 49 hX dX0_fillPhases_46 fX0_26 rfl rfl rfl ?_
  refine mx_top (y := 0) rfl ?_
  refine r_if_ne 52 57 hX dX0_fillPhases_49 (fun c => absurd c (by decide)) (fun _ => ?_)
  refine r_iload 54 hX dX0_fillPhases_52 rfl ?_
  refine r_goto 59 hX dX0_fillPhases_54 ?_
  refine r_istore 61 hX dX0_fillPhases_59 rfl ?_
  refine r_iload 63 hX dX0_fillPhases_61 rfl ?_
  refine r_iconst 64 hX dX0_fillPhases_63 (v := 2) (by decide) ?_
  refine r_iremK 65 hX dX0_fillPhases_64 (by decide) (w := 1) (by decide) ?_
  refine r_if_ne 68 75 hX dX0_fillPhases_65 (fun _ => ?_) (fun c => absurd c (by decide))
  refine r_iconst 76 hX dX0_fillPhases_75 (v := 1) (by decide) ?_
  refine r_aload_n 77 hX dX0_fillPhases_76 rfl ?_
  refine r_getI 80 hX dX0_fillPhases_77 fX0_26 rfl rfl rfl ?_
  refine mx_top (y := 0) rfl ?_
  refine r_isubK 81 hX dX0_fillPhases_80 (w := 1) (by decide) ?_
  refine r_istore 83 hX dX0_fillPhases_81 rfl ?_
  refine (show mx_WW G X 83 [_, _, _, _, _, _, _, _, _, _] _ _ from ?_)
  refine r_aload_n 84 hX dX0_fillPhases_83 rfl ?_
  refine r_getR 87 hX dX0_fillPhases_84 fX0_18 rfl rfl rfl ?_
  refine r_iload 89 hX dX0_fillPhases_87 rfl ?_
  refine r_aload_n 90 hX dX0_fillPhases_89 rfl ?_
  refine r_aload_n 91 hX dX0_fillPhases_90 rfl ?_
  refine r_aload_n 92 hX dX0_fillPhases_91 rfl ?_
  refine r_iload 94 hX dX0_fillPhases_92 rfl ?_
  refine r_iload 96 hX dX0_fillPhases_94 rfl ?_
  refine r_iload 98 hX dX0_fillPhases_96 rfl ?_
  refine r_cV5F 101 hX hR (tX0_rallyChance_1 (i := 1) (j := 2) (by decide) (by decide)) dX0_fillPhases_98 kX0_rallyChance lX0_57 rfl rfl rfl rfl rfl rfl ?_
  refine mx_top (y := phV M 0 3) rfl ?_
  refine r_iastK 102 hX dX0_fillPhases_101 rfl rfl (vpK rfl) (j := 3) (by decide) ?_
  refine r_iincK 105 hX dX0_fillPhases_102 rfl (w := 4) (by decide) rfl ?_
  refine r_goto 8 hX dX0_fillPhases_105 ?_
  refine r_iload 10 hX dX0_fillPhases_8 rfl ?_
  refine r_bipush 12 hX dX0_fillPhases_10 (v := 12) (by decide) ?_
  refine r_icmp_ge 15 108 hX dX0_fillPhases_12 (fun c => absurd c (by decide)) (fun _ => ?_)
  refine r_iload 17 hX dX0_fillPhases_15 rfl ?_
  refine r_iconst 18 hX dX0_fillPhases_17 (v := 2) (by decide) ?_
  refine r_idivK 19 hX dX0_fillPhases_18 (by decide) (w := 2) (by decide) ?_
  refine r_istore 21 hX dX0_fillPhases_19 rfl ?_
  refine r_iload 23 hX dX0_fillPhases_21 rfl ?_
  refine r_iconst 24 hX dX0_fillPhases_23 (v := 1) (by decide) ?_
  refine r_iaddK 25 hX dX0_fillPhases_24 (w := 5) (by decide) ?_
  refine r_iconst 26 hX dX0_fillPhases_25 (v := 2) (by decide) ?_
  refine r_idivK 27 hX dX0_fillPhases_26 (by decide) (w := 2) (by decide) ?_
  refine r_istore 29 hX dX0_fillPhases_27 rfl ?_
  refine (show mx_WW G X 29 [_, _, _, _, _, _, _, _, _, _] _ _ from ?_)
  refine r_aload_n 30 hX dX0_fillPhases_29 rfl ?_
  refine r_getI 33 hX dX0_fillPhases_30 fX0_26 rfl rfl rfl ?_
  refine mx_top (y := 0) rfl ?_
  refine r_if_ne 36 41 hX dX0_fillPhases_33 (fun c => absurd c (by decide)) (fun _ => ?_)
  refine r_iload 38 hX dX0_fillPhases_36 rfl ?_
  refine r_goto 43 hX dX0_fillPhases_38 ?_
  refine r_istore 45 hX dX0_fillPhases_43 rfl ?_
  refine r_aload_n 46 hX dX0_fillPhases_45 rfl ?_
  refine r_getI 49 hX dX0_fillPhases_46 fX0_26 rfl rfl rfl ?_
  refine mx_top (y := 0) rfl ?_
  refine r_if_ne 52 57 hX dX0_fillPhases_49 (fun c => absurd c (by decide)) (fun _ => ?_)
  refine r_iload 54 hX dX0_fillPhases_52 rfl ?_
  refine r_goto 59 hX dX0_fillPhases_54 ?_
  refine r_istore 61 hX dX0_fillPhases_59 rfl ?_
  refine r_iload 63 hX dX0_fillPhases_61 rfl ?_
  refine r_iconst 64 hX dX0_fillPhases_63 (v := 2) (by decide) ?_
  refine r_iremK 65 hX dX0_fillPhases_64 (by decide) (w := 0) (by decide) ?_
  refine r_if_ne 68 75 hX dX0_fillPhases_65 (fun c => absurd c (by decide)) (fun _ => ?_)
  refine r_aload_n 69 hX dX0_fillPhases_68 rfl ?_
  refine r_getI 72 hX dX0_fillPhases_69 fX0_26 rfl rfl rfl ?_
  refine mx_top (y := 0) rfl ?_
  refine r_goto 81 hX dX0_fillPhases_72 ?_
  refine r_istore 83 hX dX0_fillPhases_81 rfl ?_
  refine (show mx_WW G X 83 [_, _, _, _, _, _, _, _, _, _] _ _ from ?_)
  refine r_aload_n 84 hX dX0_fillPhases_83 rfl ?_
  refine r_getR 87 hX dX0_fillPhases_84 fX0_18 rfl rfl rfl ?_
  refine r_iload 89 hX dX0_fillPhases_87 rfl ?_
  refine r_aload_n 90 hX dX0_fillPhases_89 rfl ?_
  refine r_aload_n 91 hX dX0_fillPhases_90 rfl ?_
  refine r_aload_n 92 hX dX0_fillPhases_91 rfl ?_
  refine r_iload 94 hX dX0_fillPhases_92 rfl ?_
  refine r_iload 96 hX dX0_fillPhases_94 rfl ?_
  refine r_iload 98 hX dX0_fillPhases_96 rfl ?_
  refine r_cV5F 101 hX hR (tX0_rallyChance_0 (i := 2) (j := 2) (by decide) (by decide)) dX0_fillPhases_98 kX0_rallyChance lX0_57 rfl rfl rfl rfl rfl rfl ?_
  refine mx_top (y := phV M 0 4) rfl ?_
  refine r_iastK 102 hX dX0_fillPhases_101 rfl rfl (vpK rfl) (j := 4) (by decide) ?_
  refine r_iincK 105 hX dX0_fillPhases_102 rfl (w := 5) (by decide) rfl ?_
  refine r_goto 8 hX dX0_fillPhases_105 ?_
  refine r_iload 10 hX dX0_fillPhases_8 rfl ?_
  refine r_bipush 12 hX dX0_fillPhases_10 (v := 12) (by decide) ?_
  refine r_icmp_ge 15 108 hX dX0_fillPhases_12 (fun c => absurd c (by decide)) (fun _ => ?_)
  refine r_iload 17 hX dX0_fillPhases_15 rfl ?_
  refine r_iconst 18 hX dX0_fillPhases_17 (v := 2) (by decide) ?_
  refine r_idivK 19 hX dX0_fillPhases_18 (by decide) (w := 2) (by decide) ?_
  refine r_istore 21 hX dX0_fillPhases_19 rfl ?_
  refine r_iload 23 hX dX0_fillPhases_21 rfl ?_
  refine r_iconst 24 hX dX0_fillPhases_23 (v := 1) (by decide) ?_
  refine r_iaddK 25 hX dX0_fillPhases_24 (w := 6) (by decide) ?_
  refine r_iconst 26 hX dX0_fillPhases_25 (v := 2) (by decide) ?_
  refine r_idivK 27 hX dX0_fillPhases_26 (by decide) (w := 3) (by decide) ?_
  refine r_istore 29 hX dX0_fillPhases_27 rfl ?_
  refine (show mx_WW G X 29 [_, _, _, _, _, _, _, _, _, _] _ _ from ?_)
  refine r_aload_n 30 hX dX0_fillPhases_29 rfl ?_
  refine r_getI 33 hX dX0_fillPhases_30 fX0_26 rfl rfl rfl ?_
  refine mx_top (y := 0) rfl ?_
  refine r_if_ne 36 41 hX dX0_fillPhases_33 (fun c => absurd c (by decide)) (fun _ => ?_)
  refine r_iload 38 hX dX0_fillPhases_36 rfl ?_
  refine r_goto 43 hX dX0_fillPhases_38 ?_
  refine r_istore 45 hX dX0_fillPhases_43 rfl ?_
  refine r_aload_n 46 hX dX0_fillPhases_45 rfl ?_
  refine r_getI 49 hX dX0_fillPhases_46 fX0_26 rfl rfl rfl ?_
  refine mx_top (y := 0) rfl ?_
  refine r_if_ne 52 57 hX dX0_fillPhases_49 (fun c => absurd c (by decide)) (fun _ => ?_)
  refine r_iload 54 hX dX0_fillPhases_52 rfl ?_
  refine r_goto 59 hX dX0_fillPhases_54 ?_
  refine r_istore 61 hX dX0_fillPhases_59 rfl ?_
  refine r_iload 63 hX dX0_fillPhases_61 rfl ?_
  refine r_iconst 64 hX dX0_fillPhases_63 (v := 2) (by decide) ?_
  refine r_iremK 65 hX dX0_fillPhases_64 (by decide) (w := 1) (by decide) ?_
  refine r_if_ne 68 75 hX dX0_fillPhases_65 (fun _ => ?_) (fun c => absurd c (by decide))
  refine r_iconst 76 hX dX0_fillPhases_75 (v := 1) (by decide) ?_
  refine r_aload_n 77 hX dX0_fillPhases_76 rfl ?_
  refine r_getI 80 hX dX0_fillPhases_77 fX0_26 rfl rfl rfl ?_
  refine mx_top (y := 0) rfl ?_
  refine r_isubK 81 hX dX0_fillPhases_80 (w := 1) (by decide) ?_
  refine r_istore 83 hX dX0_fillPhases_81 rfl ?_
  refine (show mx_WW G X 83 [_, _, _, _, _, _, _, _, _, _] _ _ from ?_)
  refine r_aload_n 84 hX dX0_fillPhases_83 rfl ?_
  refine r_getR 87 hX dX0_fillPhases_84 fX0_18 rfl rfl rfl ?_
  refine r_iload 89 hX dX0_fillPhases_87 rfl ?_
  refine r_aload_n 90 hX dX0_fillPhases_89 rfl ?_
  refine r_aload_n 91 hX dX0_fillPhases_90 rfl ?_
  refine r_aload_n 92 hX dX0_fillPhases_91 rfl ?_
  refine r_iload 94 hX dX0_fillPhases_92 rfl ?_
  refine r_iload 96 hX dX0_fillPhases_94 rfl ?_
  refine r_iload 98 hX dX0_fillPhases_96 rfl ?_
  refine r_cV5F 101 hX hR (tX0_rallyChance_1 (i := 2) (j := 3) (by decide) (by decide)) dX0_fillPhases_98 kX0_rallyChance lX0_57 rfl rfl rfl rfl rfl rfl ?_
  refine mx_top (y := phV M 0 5) rfl ?_
  refine r_iastK 102 hX dX0_fillPhases_101 rfl rfl (vpK rfl) (j := 5) (by decide) ?_
  refine r_iincK 105 hX dX0_fillPhases_102 rfl (w := 6) (by decide) rfl ?_
  refine r_goto 8 hX dX0_fillPhases_105 ?_
  refine r_iload 10 hX dX0_fillPhases_8 rfl ?_
  refine r_bipush 12 hX dX0_fillPhases_10 (v := 12) (by decide) ?_
  refine r_icmp_ge 15 108 hX dX0_fillPhases_12 (fun c => absurd c (by decide)) (fun _ => ?_)
  refine r_iload 17 hX dX0_fillPhases_15 rfl ?_
  refine r_iconst 18 hX dX0_fillPhases_17 (v := 2) (by decide) ?_
  refine r_idivK 19 hX dX0_fillPhases_18 (by decide) (w := 3) (by decide) ?_
  refine r_istore 21 hX dX0_fillPhases_19 rfl ?_
  refine r_iload 23 hX dX0_fillPhases_21 rfl ?_
  refine r_iconst 24 hX dX0_fillPhases_23 (v := 1) (by decide) ?_
  refine r_iaddK 25 hX dX0_fillPhases_24 (w := 7) (by decide) ?_
  refine r_iconst 26 hX dX0_fillPhases_25 (v := 2) (by decide) ?_
  refine r_idivK 27 hX dX0_fillPhases_26 (by decide) (w := 3) (by decide) ?_
  refine r_istore 29 hX dX0_fillPhases_27 rfl ?_
  refine (show mx_WW G X 29 [_, _, _, _, _, _, _, _, _, _] _ _ from ?_)
  refine r_aload_n 30 hX dX0_fillPhases_29 rfl ?_
  refine r_getI 33 hX dX0_fillPhases_30 fX0_26 rfl rfl rfl ?_
  refine mx_top (y := 0) rfl ?_
  refine r_if_ne 36 41 hX dX0_fillPhases_33 (fun c => absurd c (by decide)) (fun _ => ?_)
  refine r_iload 38 hX dX0_fillPhases_36 rfl ?_
  refine r_goto 43 hX dX0_fillPhases_38 ?_
  refine r_istore 45 hX dX0_fillPhases_43 rfl ?_
  refine r_aload_n 46 hX dX0_fillPhases_45 rfl ?_
  refine r_getI 49 hX dX0_fillPhases_46 fX0_26 rfl rfl rfl ?_
  refine mx_top (y := 0) rfl ?_
  refine r_if_ne 52 57 hX dX0_fillPhases_49 (fun c => absurd c (by decide)) (fun _ => ?_)
  refine r_iload 54 hX dX0_fillPhases_52 rfl ?_
  refine r_goto 59 hX dX0_fillPhases_54 ?_
  refine r_istore 61 hX dX0_fillPhases_59 rfl ?_
  refine r_iload 63 hX dX0_fillPhases_61 rfl ?_
  refine r_iconst 64 hX dX0_fillPhases_63 (v := 2) (by decide) ?_
  refine r_iremK 65 hX dX0_fillPhases_64 (by decide) (w := 0) (by decide) ?_
  refine r_if_ne 68 75 hX dX0_fillPhases_65 (fun c => absurd c (by decide)) (fun _ => ?_)
  refine r_aload_n 69 hX dX0_fillPhases_68 rfl ?_
  refine r_getI 72 hX dX0_fillPhases_69 fX0_26 rfl rfl rfl ?_
  refine mx_top (y := 0) rfl ?_
  refine r_goto 81 hX dX0_fillPhases_72 ?_
  refine r_istore 83 hX dX0_fillPhases_81 rfl ?_
  refine (show mx_WW G X 83 [_, _, _, _, _, _, _, _, _, _] _ _ from ?_)
  refine r_aload_n 84 hX dX0_fillPhases_83 rfl ?_
  refine r_getR 87 hX dX0_fillPhases_84 fX0_18 rfl rfl rfl ?_
  refine r_iload 89 hX dX0_fillPhases_87 rfl ?_
  refine r_aload_n 90 hX dX0_fillPhases_89 rfl ?_
  refine r_aload_n 91 hX dX0_fillPhases_90 rfl ?_
  refine r_aload_n 92 hX dX0_fillPhases_91 rfl ?_
  refine r_iload 94 hX dX0_fillPhases_92 rfl ?_
  refine r_iload 96 hX dX0_fillPhases_94 rfl ?_
  refine r_iload 98 hX dX0_fillPhases_96 rfl ?_
  refine r_cV5F 101 hX hR (tX0_rallyChance_0 (i := 3) (j := 3) (by decide) (by decide)) dX0_fillPhases_98 kX0_rallyChance lX0_57 rfl rfl rfl rfl rfl rfl ?_
  refine mx_top (y := phV M 0 6) rfl ?_
  refine r_iastK 102 hX dX0_fillPhases_101 rfl rfl (vpK rfl) (j := 6) (by decide) ?_
  refine r_iincK 105 hX dX0_fillPhases_102 rfl (w := 7) (by decide) rfl ?_
  refine r_goto 8 hX dX0_fillPhases_105 ?_
  refine r_iload 10 hX dX0_fillPhases_8 rfl ?_
  refine r_bipush 12 hX dX0_fillPhases_10 (v := 12) (by decide) ?_
  refine r_icmp_ge 15 108 hX dX0_fillPhases_12 (fun c => absurd c (by decide)) (fun _ => ?_)
  refine r_iload 17 hX dX0_fillPhases_15 rfl ?_
  refine r_iconst 18 hX dX0_fillPhases_17 (v := 2) (by decide) ?_
  refine r_idivK 19 hX dX0_fillPhases_18 (by decide) (w := 3) (by decide) ?_
  refine r_istore 21 hX dX0_fillPhases_19 rfl ?_
  refine r_iload 23 hX dX0_fillPhases_21 rfl ?_
  refine r_iconst 24 hX dX0_fillPhases_23 (v := 1) (by decide) ?_
  refine r_iaddK 25 hX dX0_fillPhases_24 (w := 8) (by decide) ?_
  refine r_iconst 26 hX dX0_fillPhases_25 (v := 2) (by decide) ?_
  refine r_idivK 27 hX dX0_fillPhases_26 (by decide) (w := 4) (by decide) ?_
  refine r_istore 29 hX dX0_fillPhases_27 rfl ?_
  refine (show mx_WW G X 29 [_, _, _, _, _, _, _, _, _, _] _ _ from ?_)
  refine r_aload_n 30 hX dX0_fillPhases_29 rfl ?_
  refine r_getI 33 hX dX0_fillPhases_30 fX0_26 rfl rfl rfl ?_
  refine mx_top (y := 0) rfl ?_
  refine r_if_ne 36 41 hX dX0_fillPhases_33 (fun c => absurd c (by decide)) (fun _ => ?_)
  refine r_iload 38 hX dX0_fillPhases_36 rfl ?_
  refine r_goto 43 hX dX0_fillPhases_38 ?_
  refine r_istore 45 hX dX0_fillPhases_43 rfl ?_
  refine r_aload_n 46 hX dX0_fillPhases_45 rfl ?_
  refine r_getI 49 hX dX0_fillPhases_46 fX0_26 rfl rfl rfl ?_
  refine mx_top (y := 0) rfl ?_
  refine r_if_ne 52 57 hX dX0_fillPhases_49 (fun c => absurd c (by decide)) (fun _ => ?_)
  refine r_iload 54 hX dX0_fillPhases_52 rfl ?_
  refine r_goto 59 hX dX0_fillPhases_54 ?_
  refine r_istore 61 hX dX0_fillPhases_59 rfl ?_
  refine r_iload 63 hX dX0_fillPhases_61 rfl ?_
  refine r_iconst 64 hX dX0_fillPhases_63 (v := 2) (by decide) ?_
  refine r_iremK 65 hX dX0_fillPhases_64 (by decide) (w := 1) (by decide) ?_
  refine r_if_ne 68 75 hX dX0_fillPhases_65 (fun _ => ?_) (fun c => absurd c (by decide))
  refine r_iconst 76 hX dX0_fillPhases_75 (v := 1) (by decide) ?_
  refine r_aload_n 77 hX dX0_fillPhases_76 rfl ?_
  refine r_getI 80 hX dX0_fillPhases_77 fX0_26 rfl rfl rfl ?_
  refine mx_top (y := 0) rfl ?_
  refine r_isubK 81 hX dX0_fillPhases_80 (w := 1) (by decide) ?_
  refine r_istore 83 hX dX0_fillPhases_81 rfl ?_
  refine (show mx_WW G X 83 [_, _, _, _, _, _, _, _, _, _] _ _ from ?_)
  refine r_aload_n 84 hX dX0_fillPhases_83 rfl ?_
  refine r_getR 87 hX dX0_fillPhases_84 fX0_18 rfl rfl rfl ?_
  refine r_iload 89 hX dX0_fillPhases_87 rfl ?_
  refine r_aload_n 90 hX dX0_fillPhases_89 rfl ?_
  refine r_aload_n 91 hX dX0_fillPhases_90 rfl ?_
  refine r_aload_n 92 hX dX0_fillPhases_91 rfl ?_
  refine r_iload 94 hX dX0_fillPhases_92 rfl ?_
  refine r_iload 96 hX dX0_fillPhases_94 rfl ?_
  refine r_iload 98 hX dX0_fillPhases_96 rfl ?_
  refine r_cV5F 101 hX hR (tX0_rallyChance_1 (i := 3) (j := 4) (by decide) (by decide)) dX0_fillPhases_98 kX0_rallyChance lX0_57 rfl rfl rfl rfl rfl rfl ?_
  refine mx_top (y := phV M 0 7) rfl ?_
  refine r_iastK 102 hX dX0_fillPhases_101 rfl rfl (vpK rfl) (j := 7) (by decide) ?_
  refine r_iincK 105 hX dX0_fillPhases_102 rfl (w := 8) (by decide) rfl ?_
  refine r_goto 8 hX dX0_fillPhases_105 ?_
  refine r_iload 10 hX dX0_fillPhases_8 rfl ?_
  refine r_bipush 12 hX dX0_fillPhases_10 (v := 12) (by decide) ?_
  refine r_icmp_ge 15 108 hX dX0_fillPhases_12 (fun c => absurd c (by decide)) (fun _ => ?_)
  refine r_iload 17 hX dX0_fillPhases_15 rfl ?_
  refine r_iconst 18 hX dX0_fillPhases_17 (v := 2) (by decide) ?_
  refine r_idivK 19 hX dX0_fillPhases_18 (by decide) (w := 4) (by decide) ?_
  refine r_istore 21 hX dX0_fillPhases_19 rfl ?_
  refine r_iload 23 hX dX0_fillPhases_21 rfl ?_
  refine r_iconst 24 hX dX0_fillPhases_23 (v := 1) (by decide) ?_
  refine r_iaddK 25 hX dX0_fillPhases_24 (w := 9) (by decide) ?_
  refine r_iconst 26 hX dX0_fillPhases_25 (v := 2) (by decide) ?_
  refine r_idivK 27 hX dX0_fillPhases_26 (by decide) (w := 4) (by decide) ?_
  refine r_istore 29 hX dX0_fillPhases_27 rfl ?_
  refine (show mx_WW G X 29 [_, _, _, _, _, _, _, _, _, _] _ _ from ?_)
  refine r_aload_n 30 hX dX0_fillPhases_29 rfl ?_
  refine r_getI 33 hX dX0_fillPhases_30 fX0_26 rfl rfl rfl ?_
  refine mx_top (y := 0) rfl ?_
  refine r_if_ne 36 41 hX dX0_fillPhases_33 (fun c => absurd c (by decide)) (fun _ => ?_)
  refine r_iload 38 hX dX0_fillPhases_36 rfl ?_
  refine r_goto 43 hX dX0_fillPhases_38 ?_
  refine r_istore 45 hX dX0_fillPhases_43 rfl ?_
  refine r_aload_n 46 hX dX0_fillPhases_45 rfl ?_
  refine r_getI 49 hX dX0_fillPhases_46 fX0_26 rfl rfl rfl ?_
  refine mx_top (y := 0) rfl ?_
  refine r_if_ne 52 57 hX dX0_fillPhases_49 (fun c => absurd c (by decide)) (fun _ => ?_)
  refine r_iload 54 hX dX0_fillPhases_52 rfl ?_
  refine r_goto 59 hX dX0_fillPhases_54 ?_
  refine r_istore 61 hX dX0_fillPhases_59 rfl ?_
  refine r_iload 63 hX dX0_fillPhases_61 rfl ?_
  refine r_iconst 64 hX dX0_fillPhases_63 (v := 2) (by decide) ?_
  refine r_iremK 65 hX dX0_fillPhases_64 (by decide) (w := 0) (by decide) ?_
  refine r_if_ne 68 75 hX dX0_fillPhases_65 (fun c => absurd c (by decide)) (fun _ => ?_)
  refine r_aload_n 69 hX dX0_fillPhases_68 rfl ?_
  refine r_getI 72 hX dX0_fillPhases_69 fX0_26 rfl rfl rfl ?_
  refine mx_top (y := 0) rfl ?_
  refine r_goto 81 hX dX0_fillPhases_72 ?_
  refine r_istore 83 hX dX0_fillPhases_81 rfl ?_
  refine (show mx_WW G X 83 [_, _, _, _, _, _, _, _, _, _] _ _ from ?_)
  refine r_aload_n 84 hX dX0_fillPhases_83 rfl ?_
  refine r_getR 87 hX dX0_fillPhases_84 fX0_18 rfl rfl rfl ?_
  refine r_iload 89 hX dX0_fillPhases_87 rfl ?_
  refine r_aload_n 90 hX dX0_fillPhases_89 rfl ?_
  refine r_aload_n 91 hX dX0_fillPhases_90 rfl ?_
  refine r_aload_n 92 hX dX0_fillPhases_91 rfl ?_
  refine r_iload 94 hX dX0_fillPhases_92 rfl ?_
  refine r_iload 96 hX dX0_fillPhases_94 rfl ?_
  refine r_iload 98 hX dX0_fillPhases_96 rfl ?_
  refine r_cV5F 101 hX hR (tX0_rallyChance_0 (i := 4) (j := 4) (by decide) (by decide)) dX0_fillPhases_98 kX0_rallyChance lX0_57 rfl rfl rfl rfl rfl rfl ?_
  refine mx_top (y := phV M 0 8) rfl ?_
  refine r_iastK 102 hX dX0_fillPhases_101 rfl rfl (vpK rfl) (j := 8) (by decide) ?_
  refine r_iincK 105 hX dX0_fillPhases_102 rfl (w := 9) (by decide) rfl ?_
  refine r_goto 8 hX dX0_fillPhases_105 ?_
  refine r_iload 10 hX dX0_fillPhases_8 rfl ?_
  refine r_bipush 12 hX dX0_fillPhases_10 (v := 12) (by decide) ?_
  refine r_icmp_ge 15 108 hX dX0_fillPhases_12 (fun c => absurd c (by decide)) (fun _ => ?_)
  refine r_iload 17 hX dX0_fillPhases_15 rfl ?_
  refine r_iconst 18 hX dX0_fillPhases_17 (v := 2) (by decide) ?_
  refine r_idivK 19 hX dX0_fillPhases_18 (by decide) (w := 4) (by decide) ?_
  refine r_istore 21 hX dX0_fillPhases_19 rfl ?_
  refine r_iload 23 hX dX0_fillPhases_21 rfl ?_
  refine r_iconst 24 hX dX0_fillPhases_23 (v := 1) (by decide) ?_
  refine r_iaddK 25 hX dX0_fillPhases_24 (w := 10) (by decide) ?_
  refine r_iconst 26 hX dX0_fillPhases_25 (v := 2) (by decide) ?_
  refine r_idivK 27 hX dX0_fillPhases_26 (by decide) (w := 5) (by decide) ?_
  refine r_istore 29 hX dX0_fillPhases_27 rfl ?_
  refine (show mx_WW G X 29 [_, _, _, _, _, _, _, _, _, _] _ _ from ?_)
  refine r_aload_n 30 hX dX0_fillPhases_29 rfl ?_
  refine r_getI 33 hX dX0_fillPhases_30 fX0_26 rfl rfl rfl ?_
  refine mx_top (y := 0) rfl ?_
  refine r_if_ne 36 41 hX dX0_fillPhases_33 (fun c => absurd c (by decide)) (fun _ => ?_)
  refine r_iload 38 hX dX0_fillPhases_36 rfl ?_
  refine r_goto 43 hX dX0_fillPhases_38 ?_
  refine r_istore 45 hX dX0_fillPhases_43 rfl ?_
  refine r_aload_n 46 hX dX0_fillPhases_45 rfl ?_
  refine r_getI 49 hX dX0_fillPhases_46 fX0_26 rfl rfl rfl ?_
  refine mx_top (y := 0) rfl ?_
  refine r_if_ne 52 57 hX dX0_fillPhases_49 (fun c => absurd c (by decide)) (fun _ => ?_)
  refine r_iload 54 hX dX0_fillPhases_52 rfl ?_
  refine r_goto 59 hX dX0_fillPhases_54 ?_
  refine r_istore 61 hX dX0_fillPhases_59 rfl ?_
  refine r_iload 63 hX dX0_fillPhases_61 rfl ?_
  refine r_iconst 64 hX dX0_fillPhases_63 (v := 2) (by decide) ?_
  refine r_iremK 65 hX dX0_fillPhases_64 (by decide) (w := 1) (by decide) ?_
  refine r_if_ne 68 75 hX dX0_fillPhases_65 (fun _ => ?_) (fun c => absurd c (by decide))
  refine r_iconst 76 hX dX0_fillPhases_75 (v := 1) (by decide) ?_
  refine r_aload_n 77 hX dX0_fillPhases_76 rfl ?_
  refine r_getI 80 hX dX0_fillPhases_77 fX0_26 rfl rfl rfl ?_
  refine mx_top (y := 0) rfl ?_
  refine r_isubK 81 hX dX0_fillPhases_80 (w := 1) (by decide) ?_
  refine r_istore 83 hX dX0_fillPhases_81 rfl ?_
  refine (show mx_WW G X 83 [_, _, _, _, _, _, _, _, _, _] _ _ from ?_)
  refine r_aload_n 84 hX dX0_fillPhases_83 rfl ?_
  refine r_getR 87 hX dX0_fillPhases_84 fX0_18 rfl rfl rfl ?_
  refine r_iload 89 hX dX0_fillPhases_87 rfl ?_
  refine r_aload_n 90 hX dX0_fillPhases_89 rfl ?_
  refine r_aload_n 91 hX dX0_fillPhases_90 rfl ?_
  refine r_aload_n 92 hX dX0_fillPhases_91 rfl ?_
  refine r_iload 94 hX dX0_fillPhases_92 rfl ?_
  refine r_iload 96 hX dX0_fillPhases_94 rfl ?_
  refine r_iload 98 hX dX0_fillPhases_96 rfl ?_
  refine r_cV5F 101 hX hR (tX0_rallyChance_1 (i := 4) (j := 5) (by decide) (by decide)) dX0_fillPhases_98 kX0_rallyChance lX0_57 rfl rfl rfl rfl rfl rfl ?_
  refine mx_top (y := phV M 0 9) rfl ?_
  refine r_iastK 102 hX dX0_fillPhases_101 rfl rfl (vpK rfl) (j := 9) (by decide) ?_
  refine r_iincK 105 hX dX0_fillPhases_102 rfl (w := 10) (by decide) rfl ?_
  refine r_goto 8 hX dX0_fillPhases_105 ?_
  refine r_iload 10 hX dX0_fillPhases_8 rfl ?_
  refine r_bipush 12 hX dX0_fillPhases_10 (v := 12) (by decide) ?_
  refine r_icmp_ge 15 108 hX dX0_fillPhases_12 (fun c => absurd c (by decide)) (fun _ => ?_)
  refine r_iload 17 hX dX0_fillPhases_15 rfl ?_
  refine r_iconst 18 hX dX0_fillPhases_17 (v := 2) (by decide) ?_
  refine r_idivK 19 hX dX0_fillPhases_18 (by decide) (w := 5) (by decide) ?_
  refine r_istore 21 hX dX0_fillPhases_19 rfl ?_
  refine r_iload 23 hX dX0_fillPhases_21 rfl ?_
  refine r_iconst 24 hX dX0_fillPhases_23 (v := 1) (by decide) ?_
  refine r_iaddK 25 hX dX0_fillPhases_24 (w := 11) (by decide) ?_
  refine r_iconst 26 hX dX0_fillPhases_25 (v := 2) (by decide) ?_
  refine r_idivK 27 hX dX0_fillPhases_26 (by decide) (w := 5) (by decide) ?_
  refine r_istore 29 hX dX0_fillPhases_27 rfl ?_
  refine (show mx_WW G X 29 [_, _, _, _, _, _, _, _, _, _] _ _ from ?_)
  refine r_aload_n 30 hX dX0_fillPhases_29 rfl ?_
  refine r_getI 33 hX dX0_fillPhases_30 fX0_26 rfl rfl rfl ?_
  refine mx_top (y := 0) rfl ?_
  refine r_if_ne 36 41 hX dX0_fillPhases_33 (fun c => absurd c (by decide)) (fun _ => ?_)
  refine r_iload 38 hX dX0_fillPhases_36 rfl ?_
  refine r_goto 43 hX dX0_fillPhases_38 ?_
  refine r_istore 45 hX dX0_fillPhases_43 rfl ?_
  refine r_aload_n 46 hX dX0_fillPhases_45 rfl ?_
  refine r_getI 49 hX dX0_fillPhases_46 fX0_26 rfl rfl rfl ?_
  refine mx_top (y := 0) rfl ?_
  refine r_if_ne 52 57 hX dX0_fillPhases_49 (fun c => absurd c (by decide)) (fun _ => ?_)
  refine r_iload 54 hX dX0_fillPhases_52 rfl ?_
  refine r_goto 59 hX dX0_fillPhases_54 ?_
  refine r_istore 61 hX dX0_fillPhases_59 rfl ?_
  refine r_iload 63 hX dX0_fillPhases_61 rfl ?_
  refine r_iconst 64 hX dX0_fillPhases_63 (v := 2) (by decide) ?_
  refine r_iremK 65 hX dX0_fillPhases_64 (by decide) (w := 0) (by decide) ?_
  refine r_if_ne 68 75 hX dX0_fillPhases_65 (fun c => absurd c (by decide)) (fun _ => ?_)
  refine r_aload_n 69 hX dX0_fillPhases_68 rfl ?_
  refine r_getI 72 hX dX0_fillPhases_69 fX0_26 rfl rfl rfl ?_
  refine mx_top (y := 0) rfl ?_
  refine r_goto 81 hX dX0_fillPhases_72 ?_
  refine r_istore 83 hX dX0_fillPhases_81 rfl ?_
  refine (show mx_WW G X 83 [_, _, _, _, _, _, _, _, _, _] _ _ from ?_)
  refine r_aload_n 84 hX dX0_fillPhases_83 rfl ?_
  refine r_getR 87 hX dX0_fillPhases_84 fX0_18 rfl rfl rfl ?_
  refine r_iload 89 hX dX0_fillPhases_87 rfl ?_
  refine r_aload_n 90 hX dX0_fillPhases_89 rfl ?_
  refine r_aload_n 91 hX dX0_fillPhases_90 rfl ?_
  refine r_aload_n 92 hX dX0_fillPhases_91 rfl ?_
  refine r_iload 94 hX dX0_fillPhases_92 rfl ?_
  refine r_iload 96 hX dX0_fillPhases_94 rfl ?_
  refine r_iload 98 hX dX0_fillPhases_96 rfl ?_
  refine r_cV5F 101 hX hR (tX0_rallyChance_0 (i := 5) (j := 5) (by decide) (by decide)) dX0_fillPhases_98 kX0_rallyChance lX0_57 rfl rfl rfl rfl rfl rfl ?_
  refine mx_top (y := phV M 0 10) rfl ?_
  refine r_iastK 102 hX dX0_fillPhases_101 rfl rfl (vpK rfl) (j := 10) (by decide) ?_
  refine r_iincK 105 hX dX0_fillPhases_102 rfl (w := 11) (by decide) rfl ?_
  refine r_goto 8 hX dX0_fillPhases_105 ?_
  refine r_iload 10 hX dX0_fillPhases_8 rfl ?_
  refine r_bipush 12 hX dX0_fillPhases_10 (v := 12) (by decide) ?_
  refine r_icmp_ge 15 108 hX dX0_fillPhases_12 (fun c => absurd c (by decide)) (fun _ => ?_)
  refine r_iload 17 hX dX0_fillPhases_15 rfl ?_
  refine r_iconst 18 hX dX0_fillPhases_17 (v := 2) (by decide) ?_
  refine r_idivK 19 hX dX0_fillPhases_18 (by decide) (w := 5) (by decide) ?_
  refine r_istore 21 hX dX0_fillPhases_19 rfl ?_
  refine r_iload 23 hX dX0_fillPhases_21 rfl ?_
  refine r_iconst 24 hX dX0_fillPhases_23 (v := 1) (by decide) ?_
  refine r_iaddK 25 hX dX0_fillPhases_24 (w := 12) (by decide) ?_
  refine r_iconst 26 hX dX0_fillPhases_25 (v := 2) (by decide) ?_
  refine r_idivK 27 hX dX0_fillPhases_26 (by decide) (w := 6) (by decide) ?_
  refine r_istore 29 hX dX0_fillPhases_27 rfl ?_
  refine (show mx_WW G X 29 [_, _, _, _, _, _, _, _, _, _] _ _ from ?_)
  refine r_aload_n 30 hX dX0_fillPhases_29 rfl ?_
  refine r_getI 33 hX dX0_fillPhases_30 fX0_26 rfl rfl rfl ?_
  refine mx_top (y := 0) rfl ?_
  refine r_if_ne 36 41 hX dX0_fillPhases_33 (fun c => absurd c (by decide)) (fun _ => ?_)
  refine r_iload 38 hX dX0_fillPhases_36 rfl ?_
  refine r_goto 43 hX dX0_fillPhases_38 ?_
  refine r_istore 45 hX dX0_fillPhases_43 rfl ?_
  refine r_aload_n 46 hX dX0_fillPhases_45 rfl ?_
  refine r_getI 49 hX dX0_fillPhases_46 fX0_26 rfl rfl rfl ?_
  refine mx_top (y := 0) rfl ?_
  refine r_if_ne 52 57 hX dX0_fillPhases_49 (fun c => absurd c (by decide)) (fun _ => ?_)
  refine r_iload 54 hX dX0_fillPhases_52 rfl ?_
  refine r_goto 59 hX dX0_fillPhases_54 ?_
  refine r_istore 61 hX dX0_fillPhases_59 rfl ?_
  refine r_iload 63 hX dX0_fillPhases_61 rfl ?_
  refine r_iconst 64 hX dX0_fillPhases_63 (v := 2) (by decide) ?_
  refine r_iremK 65 hX dX0_fillPhases_64 (by decide) (w := 1) (by decide) ?_
  refine r_if_ne 68 75 hX dX0_fillPhases_65 (fun _ => ?_) (fun c => absurd c (by decide))
  refine r_iconst 76 hX dX0_fillPhases_75 (v := 1) (by decide) ?_
  refine r_aload_n 77 hX dX0_fillPhases_76 rfl ?_
  refine r_getI 80 hX dX0_fillPhases_77 fX0_26 rfl rfl rfl ?_
  refine mx_top (y := 0) rfl ?_
  refine r_isubK 81 hX dX0_fillPhases_80 (w := 1) (by decide) ?_
  refine r_istore 83 hX dX0_fillPhases_81 rfl ?_
  refine (show mx_WW G X 83 [_, _, _, _, _, _, _, _, _, _] _ _ from ?_)
  refine r_aload_n 84 hX dX0_fillPhases_83 rfl ?_
  refine r_getR 87 hX dX0_fillPhases_84 fX0_18 rfl rfl rfl ?_
  refine r_iload 89 hX dX0_fillPhases_87 rfl ?_
  refine r_aload_n 90 hX dX0_fillPhases_89 rfl ?_
  refine r_aload_n 91 hX dX0_fillPhases_90 rfl ?_
  refine r_aload_n 92 hX dX0_fillPhases_91 rfl ?_
  refine r_iload 94 hX dX0_fillPhases_92 rfl ?_
  refine r_iload 96 hX dX0_fillPhases_94 rfl ?_
  refine r_iload 98 hX dX0_fillPhases_96 rfl ?_
  refine r_cV5F 101 hX hR (tX0_rallyChance_1 (i := 5) (j := 6) (by decide) (by decide)) dX0_fillPhases_98 kX0_rallyChance lX0_57 rfl rfl rfl rfl rfl rfl ?_
  refine mx_top (y := phV M 0 11) rfl ?_
  refine r_iastK 102 hX dX0_fillPhases_101 rfl rfl (vpK rfl) (j := 11) (by decide) ?_
  refine r_iincK 105 hX dX0_fillPhases_102 rfl (w := 12) (by decide) rfl ?_
  refine r_goto 8 hX dX0_fillPhases_105 ?_
  refine r_iload 10 hX dX0_fillPhases_8 rfl ?_
  refine r_bipush 12 hX dX0_fillPhases_10 (v := 12) (by decide) ?_
  refine r_icmp_ge 15 108 hX dX0_fillPhases_12 (fun _ => ?_) (fun c => absurd c (by decide))
  refine r_vret hX hT dX0_fillPhases_108 ?_
  exact ⟨rfl, rfl⟩
set_option maxRecDepth 100000 in
set_option maxHeartbeats 4000000 in
theorem tX0_fillPhases_1 {l : Launch} {G : mx_G} {M : mx_Mem} : mx_Met l G yX0_fillPhases cX0_fillPhases 10 (none) 3 81 [.ref 39, .ref 3, .ref 6, .int 1] M (mx_F none (fpM M 1 12)) := by
  refine mx_enter (own := RX0) (L := [.ref 39, .ref 3, .ref 6, .int 1, .null, .null, .null, .null, .null, .null]) (by decide +kernel) rfl rfl rfl ?_
  intro X hlX hX hR hT
  refine r_aload_n 1 hX dX0_fillPhases_0 rfl ?_
  refine r_iload_n 2 hX dX0_fillPhases_1 rfl ?_
  refine r_putI 5 hX dX0_fillPhases_2 fX0_26 fp0_4 rfl rfl rfl ?_
  refine r_iconst 6 hX dX0_fillPhases_5 (v := 0) (by decide) ?_
  refine r_istore 8 hX dX0_fillPhases_6 rfl ?_
  refine r_iload 10 hX dX0_fillPhases_8 rfl ?_
  refine r_bipush 12 hX dX0_fillPhases_10 (v := 12) (by decide) ?_
  refine r_icmp_ge 15 108 hX dX0_fillPhases_12 (fun c => absurd c (by decide)) (fun _ => ?_)
  refine r_iload 17 hX dX0_fillPhases_15 rfl ?_
  refine r_iconst 18 hX dX0_fillPhases_17 (v := 2) (by decide) ?_
  refine r_idivK 19 hX dX0_fillPhases_18 (by decide) (w := 0) (by decide) ?_
  refine r_istore 21 hX dX0_fillPhases_19 rfl ?_
  refine r_iload 23 hX dX0_fillPhases_21 rfl ?_
  refine r_iconst 24 hX dX0_fillPhases_23 (v := 1) (by decide) ?_
  refine r_iaddK 25 hX dX0_fillPhases_24 (w := 1) (by decide) ?_
  refine r_iconst 26 hX dX0_fillPhases_25 (v := 2) (by decide) ?_
  refine r_idivK 27 hX dX0_fillPhases_26 (by decide) (w := 0) (by decide) ?_
  refine r_istore 29 hX dX0_fillPhases_27 rfl ?_
  refine (show mx_WW G X 29 [_, _, _, _, _, _, _, _, _, _] _ _ from ?_)
  refine r_aload_n 30 hX dX0_fillPhases_29 rfl ?_
  refine r_getI 33 hX dX0_fillPhases_30 fX0_26 rfl rfl rfl ?_
  refine mx_top (y := 1) rfl ?_
  refine r_if_ne 36 41 hX dX0_fillPhases_33 (fun _ => ?_) (fun c => absurd c (by decide))
  refine r_iload 43 hX dX0_fillPhases_41 rfl ?_
  refine r_istore 45 hX dX0_fillPhases_43 rfl ?_
  refine r_aload_n 46 hX dX0_fillPhases_45 rfl ?_
  refine r_getI 49 hX dX0_fillPhases_46 fX0_26 rfl rfl rfl ?_
  refine mx_top (y := 1) rfl ?_
  refine r_if_ne 52 57 hX dX0_fillPhases_49 (fun _ => ?_) (fun c => absurd c (by decide))
  refine r_iload 59 hX dX0_fillPhases_57 rfl ?_
  refine r_istore 61 hX dX0_fillPhases_59 rfl ?_
  refine r_iload 63 hX dX0_fillPhases_61 rfl ?_
  refine r_iconst 64 hX dX0_fillPhases_63 (v := 2) (by decide) ?_
  refine r_iremK 65 hX dX0_fillPhases_64 (by decide) (w := 0) (by decide) ?_
  refine r_if_ne 68 75 hX dX0_fillPhases_65 (fun c => absurd c (by decide)) (fun _ => ?_)
  refine r_aload_n 69 hX dX0_fillPhases_68 rfl ?_
  refine r_getI 72 hX dX0_fillPhases_69 fX0_26 rfl rfl rfl ?_
  refine mx_top (y := 1) rfl ?_
  refine r_goto 81 hX dX0_fillPhases_72 ?_
  refine r_istore 83 hX dX0_fillPhases_81 rfl ?_
  refine (show mx_WW G X 83 [_, _, _, _, _, _, _, _, _, _] _ _ from ?_)
  refine r_aload_n 84 hX dX0_fillPhases_83 rfl ?_
  refine r_getR 87 hX dX0_fillPhases_84 fX0_18 rfl rfl rfl ?_
  refine r_iload 89 hX dX0_fillPhases_87 rfl ?_
  refine r_aload_n 90 hX dX0_fillPhases_89 rfl ?_
  refine r_aload_n 91 hX dX0_fillPhases_90 rfl ?_
  refine r_aload_n 92 hX dX0_fillPhases_91 rfl ?_
  refine r_iload 94 hX dX0_fillPhases_92 rfl ?_
  refine r_iload 96 hX dX0_fillPhases_94 rfl ?_
  refine r_iload 98 hX dX0_fillPhases_96 rfl ?_
  refine r_cV5F 101 hX hR (tX0_rallyChance_1 (i := 0) (j := 0) (by decide) (by decide)) dX0_fillPhases_98 kX0_rallyChance lX0_57 rfl rfl rfl rfl rfl rfl ?_
  refine mx_top (y := phV M 1 0) rfl ?_
  refine r_iastK 102 hX dX0_fillPhases_101 rfl rfl (vpK rfl) (j := 0) (by decide) ?_
  refine r_iincK 105 hX dX0_fillPhases_102 rfl (w := 1) (by decide) rfl ?_
  refine r_goto 8 hX dX0_fillPhases_105 ?_
  refine r_iload 10 hX dX0_fillPhases_8 rfl ?_
  refine r_bipush 12 hX dX0_fillPhases_10 (v := 12) (by decide) ?_
  refine r_icmp_ge 15 108 hX dX0_fillPhases_12 (fun c => absurd c (by decide)) (fun _ => ?_)
  refine r_iload 17 hX dX0_fillPhases_15 rfl ?_
  refine r_iconst 18 hX dX0_fillPhases_17 (v := 2) (by decide) ?_
  refine r_idivK 19 hX dX0_fillPhases_18 (by decide) (w := 0) (by decide) ?_
  refine r_istore 21 hX dX0_fillPhases_19 rfl ?_
  refine r_iload 23 hX dX0_fillPhases_21 rfl ?_
  refine r_iconst 24 hX dX0_fillPhases_23 (v := 1) (by decide) ?_
  refine r_iaddK 25 hX dX0_fillPhases_24 (w := 2) (by decide) ?_
  refine r_iconst 26 hX dX0_fillPhases_25 (v := 2) (by decide) ?_
  refine r_idivK 27 hX dX0_fillPhases_26 (by decide) (w := 1) (by decide) ?_
  refine r_istore 29 hX dX0_fillPhases_27 rfl ?_
  refine (show mx_WW G X 29 [_, _, _, _, _, _, _, _, _, _] _ _ from ?_)
  refine r_aload_n 30 hX dX0_fillPhases_29 rfl ?_
  refine r_getI 33 hX dX0_fillPhases_30 fX0_26 rfl rfl rfl ?_
  refine mx_top (y := 1) rfl ?_
  refine r_if_ne 36 41 hX dX0_fillPhases_33 (fun _ => ?_) (fun c => absurd c (by decide))
  refine r_iload 43 hX dX0_fillPhases_41 rfl ?_
  refine r_istore 45 hX dX0_fillPhases_43 rfl ?_
  refine r_aload_n 46 hX dX0_fillPhases_45 rfl ?_
  refine r_getI 49 hX dX0_fillPhases_46 fX0_26 rfl rfl rfl ?_
  refine mx_top (y := 1) rfl ?_
  refine r_if_ne 52 57 hX dX0_fillPhases_49 (fun _ => ?_) (fun c => absurd c (by decide))
  refine r_iload 59 hX dX0_fillPhases_57 rfl ?_
  refine r_istore 61 hX dX0_fillPhases_59 rfl ?_
  refine r_iload 63 hX dX0_fillPhases_61 rfl ?_
  refine r_iconst 64 hX dX0_fillPhases_63 (v := 2) (by decide) ?_
  refine r_iremK 65 hX dX0_fillPhases_64 (by decide) (w := 1) (by decide) ?_
  refine r_if_ne 68 75 hX dX0_fillPhases_65 (fun _ => ?_) (fun c => absurd c (by decide))
  refine r_iconst 76 hX dX0_fillPhases_75 (v := 1) (by decide) ?_
  refine r_aload_n 77 hX dX0_fillPhases_76 rfl ?_
  refine r_getI 80 hX dX0_fillPhases_77 fX0_26 rfl rfl rfl ?_
  refine mx_top (y := 1) rfl ?_
  refine r_isubK 81 hX dX0_fillPhases_80 (w := 0) (by decide) ?_
  refine r_istore 83 hX dX0_fillPhases_81 rfl ?_
  refine (show mx_WW G X 83 [_, _, _, _, _, _, _, _, _, _] _ _ from ?_)
  refine r_aload_n 84 hX dX0_fillPhases_83 rfl ?_
  refine r_getR 87 hX dX0_fillPhases_84 fX0_18 rfl rfl rfl ?_
  refine r_iload 89 hX dX0_fillPhases_87 rfl ?_
  refine r_aload_n 90 hX dX0_fillPhases_89 rfl ?_
  refine r_aload_n 91 hX dX0_fillPhases_90 rfl ?_
  refine r_aload_n 92 hX dX0_fillPhases_91 rfl ?_
  refine r_iload 94 hX dX0_fillPhases_92 rfl ?_
  refine r_iload 96 hX dX0_fillPhases_94 rfl ?_
  refine r_iload 98 hX dX0_fillPhases_96 rfl ?_
  refine r_cV5F 101 hX hR (tX0_rallyChance_0 (i := 1) (j := 0) (by decide) (by decide)) dX0_fillPhases_98 kX0_rallyChance lX0_57 rfl rfl rfl rfl rfl rfl ?_
  refine mx_top (y := phV M 1 1) rfl ?_
  refine r_iastK 102 hX dX0_fillPhases_101 rfl rfl (vpK rfl) (j := 1) (by decide) ?_
  refine r_iincK 105 hX dX0_fillPhases_102 rfl (w := 2) (by decide) rfl ?_
  refine r_goto 8 hX dX0_fillPhases_105 ?_
  refine r_iload 10 hX dX0_fillPhases_8 rfl ?_
  refine r_bipush 12 hX dX0_fillPhases_10 (v := 12) (by decide) ?_
  refine r_icmp_ge 15 108 hX dX0_fillPhases_12 (fun c => absurd c (by decide)) (fun _ => ?_)
  refine r_iload 17 hX dX0_fillPhases_15 rfl ?_
  refine r_iconst 18 hX dX0_fillPhases_17 (v := 2) (by decide) ?_
  refine r_idivK 19 hX dX0_fillPhases_18 (by decide) (w := 1) (by decide) ?_
  refine r_istore 21 hX dX0_fillPhases_19 rfl ?_
  refine r_iload 23 hX dX0_fillPhases_21 rfl ?_
  refine r_iconst 24 hX dX0_fillPhases_23 (v := 1) (by decide) ?_
  refine r_iaddK 25 hX dX0_fillPhases_24 (w := 3) (by decide) ?_
  refine r_iconst 26 hX dX0_fillPhases_25 (v := 2) (by decide) ?_
  refine r_idivK 27 hX dX0_fillPhases_26 (by decide) (w := 1) (by decide) ?_
  refine r_istore 29 hX dX0_fillPhases_27 rfl ?_
  refine (show mx_WW G X 29 [_, _, _, _, _, _, _, _, _, _] _ _ from ?_)
  refine r_aload_n 30 hX dX0_fillPhases_29 rfl ?_
  refine r_getI 33 hX dX0_fillPhases_30 fX0_26 rfl rfl rfl ?_
  refine mx_top (y := 1) rfl ?_
  refine r_if_ne 36 41 hX dX0_fillPhases_33 (fun _ => ?_) (fun c => absurd c (by decide))
  refine r_iload 43 hX dX0_fillPhases_41 rfl ?_
  refine r_istore 45 hX dX0_fillPhases_43 rfl ?_
  refine r_aload_n 46 hX dX0_fillPhases_45 rfl ?_
  refine r_getI 49 hX dX0_fillPhases_46 fX0_26 rfl rfl rfl ?_
  refine mx_top (y := 1) rfl ?_
  refine r_if_ne 52 57 hX dX0_fillPhases_49 (fun _ => ?_) (fun c => absurd c (by decide))
  refine r_iload 59 hX dX0_fillPhases_57 rfl ?_
  refine r_istore 61 hX dX0_fillPhases_59 rfl ?_
  refine r_iload 63 hX dX0_fillPhases_61 rfl ?_
  refine r_iconst 64 hX dX0_fillPhases_63 (v := 2) (by decide) ?_
  refine r_iremK 65 hX dX0_fillPhases_64 (by decide) (w := 0) (by decide) ?_
  refine r_if_ne 68 75 hX dX0_fillPhases_65 (fun c => absurd c (by decide)) (fun _ => ?_)
  refine r_aload_n 69 hX dX0_fillPhases_68 rfl ?_
  refine r_getI 72 hX dX0_fillPhases_69 fX0_26 rfl rfl rfl ?_
  refine mx_top (y := 1) rfl ?_
  refine r_goto 81 hX dX0_fillPhases_72 ?_
  refine r_istore 83 hX dX0_fillPhases_81 rfl ?_
  refine (show mx_WW G X 83 [_, _, _, _, _, _, _, _, _, _] _ _ from ?_)
  refine r_aload_n 84 hX dX0_fillPhases_83 rfl ?_
  refine r_getR 87 hX dX0_fillPhases_84 fX0_18 rfl rfl rfl ?_
  refine r_iload 89 hX dX0_fillPhases_87 rfl ?_
  refine r_aload_n 90 hX dX0_fillPhases_89 rfl ?_
  refine r_aload_n 91 hX dX0_fillPhases_90 rfl ?_
  refine r_aload_n 92 hX dX0_fillPhases_91 rfl ?_
  refine r_iload 94 hX dX0_fillPhases_92 rfl ?_
  refine r_iload 96 hX dX0_fillPhases_94 rfl ?_
  refine r_iload 98 hX dX0_fillPhases_96 rfl ?_
  refine r_cV5F 101 hX hR (tX0_rallyChance_1 (i := 1) (j := 1) (by decide) (by decide)) dX0_fillPhases_98 kX0_rallyChance lX0_57 rfl rfl rfl rfl rfl rfl ?_
  refine mx_top (y := phV M 1 2) rfl ?_
  refine r_iastK 102 hX dX0_fillPhases_101 rfl rfl (vpK rfl) (j := 2) (by decide) ?_
  refine r_iincK 105 hX dX0_fillPhases_102 rfl (w := 3) (by decide) rfl ?_
  refine r_goto 8 hX dX0_fillPhases_105 ?_
  refine r_iload 10 hX dX0_fillPhases_8 rfl ?_
  refine r_bipush 12 hX dX0_fillPhases_10 (v := 12) (by decide) ?_
  refine r_icmp_ge 15 108 hX dX0_fillPhases_12 (fun c => absurd c (by decide)) (fun _ => ?_)
  refine r_iload 17 hX dX0_fillPhases_15 rfl ?_
  refine r_iconst 18 hX dX0_fillPhases_17 (v := 2) (by decide) ?_
  refine r_idivK 19 hX dX0_fillPhases_18 (by decide) (w := 1) (by decide) ?_
  refine r_istore 21 hX dX0_fillPhases_19 rfl ?_
  refine r_iload 23 hX dX0_fillPhases_21 rfl ?_
  refine r_iconst 24 hX dX0_fillPhases_23 (v := 1) (by decide) ?_
  refine r_iaddK 25 hX dX0_fillPhases_24 (w := 4) (by decide) ?_
  refine r_iconst 26 hX dX0_fillPhases_25 (v := 2) (by decide) ?_
  refine r_idivK 27 hX dX0_fillPhases_26 (by decide) (w := 2) (by decide) ?_
  refine r_istore 29 hX dX0_fillPhases_27 rfl ?_
  refine (show mx_WW G X 29 [_, _, _, _, _, _, _, _, _, _] _ _ from ?_)
  refine r_aload_n 30 hX dX0_fillPhases_29 rfl ?_
  refine r_getI 33 hX dX0_fillPhases_30 fX0_26 rfl rfl rfl ?_
  refine mx_top (y := 1) rfl ?_
  refine r_if_ne 36 41 hX dX0_fillPhases_33 (fun _ => ?_) (fun c => absurd c (by decide))
  refine r_iload 43 hX dX0_fillPhases_41 rfl ?_
  refine r_istore 45 hX dX0_fillPhases_43 rfl ?_
  refine r_aload_n 46 hX dX0_fillPhases_45 rfl ?_
  refine r_getI 49 hX dX0_fillPhases_46 fX0_26 rfl rfl rfl ?_
  refine mx_top (y := 1) rfl ?_
  refine r_if_ne 52 57 hX dX0_fillPhases_49 (fun _ => ?_) (fun c => absurd c (by decide))
  refine r_iload 59 hX dX0_fillPhases_57 rfl ?_
  refine r_istore 61 hX dX0_fillPhases_59 rfl ?_
  refine r_iload 63 hX dX0_fillPhases_61 rfl ?_
  refine r_iconst 64 hX dX0_fillPhases_63 (v := 2) (by decide) ?_
  refine r_iremK 65 hX dX0_fillPhases_64 (by decide) (w := 1) (by decide) ?_
  refine r_if_ne 68 75 hX dX0_fillPhases_65 (fun _ => ?_) (fun c => absurd c (by decide))
  refine r_iconst 76 hX dX0_fillPhases_75 (v := 1) (by decide) ?_
  refine r_aload_n 77 hX dX0_fillPhases_76 rfl ?_
  refine r_getI 80 hX dX0_fillPhases_77 fX0_26 rfl rfl rfl ?_
  refine mx_top (y := 1) rfl ?_
  refine r_isubK 81 hX dX0_fillPhases_80 (w := 0) (by decide) ?_
  refine r_istore 83 hX dX0_fillPhases_81 rfl ?_
  refine (show mx_WW G X 83 [_, _, _, _, _, _, _, _, _, _] _ _ from ?_)
  refine r_aload_n 84 hX dX0_fillPhases_83 rfl ?_
  refine r_getR 87 hX dX0_fillPhases_84 fX0_18 rfl rfl rfl ?_
  refine r_iload 89 hX dX0_fillPhases_87 rfl ?_
  refine r_aload_n 90 hX dX0_fillPhases_89 rfl ?_
  refine r_aload_n 91 hX dX0_fillPhases_90 rfl ?_
  refine r_aload_n 92 hX dX0_fillPhases_91 rfl ?_
  refine r_iload 94 hX dX0_fillPhases_92 rfl ?_
  refine r_iload 96 hX dX0_fillPhases_94 rfl ?_
  refine r_iload 98 hX dX0_fillPhases_96 rfl ?_
  refine r_cV5F 101 hX hR (tX0_rallyChance_0 (i := 2) (j := 1) (by decide) (by decide)) dX0_fillPhases_98 kX0_rallyChance lX0_57 rfl rfl rfl rfl rfl rfl ?_
  refine mx_top (y := phV M 1 3) rfl ?_
  refine r_iastK 102 hX dX0_fillPhases_101 rfl rfl (vpK rfl) (j := 3) (by decide) ?_
  refine r_iincK 105 hX dX0_fillPhases_102 rfl (w := 4) (by decide) rfl ?_
  refine r_goto 8 hX dX0_fillPhases_105 ?_
  refine r_iload 10 hX dX0_fillPhases_8 rfl ?_
  refine r_bipush 12 hX dX0_fillPhases_10 (v := 12) (by decide) ?_
  refine r_icmp_ge 15 108 hX dX0_fillPhases_12 (fun c => absurd c (by decide)) (fun _ => ?_)
  refine r_iload 17 hX dX0_fillPhases_15 rfl ?_
  refine r_iconst 18 hX dX0_fillPhases_17 (v := 2) (by decide) ?_
  refine r_idivK 19 hX dX0_fillPhases_18 (by decide) (w := 2) (by decide) ?_
  refine r_istore 21 hX dX0_fillPhases_19 rfl ?_
  refine r_iload 23 hX dX0_fillPhases_21 rfl ?_
  refine r_iconst 24 hX dX0_fillPhases_23 (v := 1) (by decide) ?_
  refine r_iaddK 25 hX dX0_fillPhases_24 (w := 5) (by decide) ?_
  refine r_iconst 26 hX dX0_fillPhases_25 (v := 2) (by decide) ?_
  refine r_idivK 27 hX dX0_fillPhases_26 (by decide) (w := 2) (by decide) ?_
  refine r_istore 29 hX dX0_fillPhases_27 rfl ?_
  refine (show mx_WW G X 29 [_, _, _, _, _, _, _, _, _, _] _ _ from ?_)
  refine r_aload_n 30 hX dX0_fillPhases_29 rfl ?_
  refine r_getI 33 hX dX0_fillPhases_30 fX0_26 rfl rfl rfl ?_
  refine mx_top (y := 1) rfl ?_
  refine r_if_ne 36 41 hX dX0_fillPhases_33 (fun _ => ?_) (fun c => absurd c (by decide))
  refine r_iload 43 hX dX0_fillPhases_41 rfl ?_
  refine r_istore 45 hX dX0_fillPhases_43 rfl ?_
  refine r_aload_n 46 hX dX0_fillPhases_45 rfl ?_
  refine r_getI 49 hX dX0_fillPhases_46 fX0_26 rfl rfl rfl ?_
  refine mx_top (y := 1) rfl ?_
  refine r_if_ne 52 57 hX dX0_fillPhases_49 (fun _ => ?_) (fun c => absurd c (by decide))
  refine r_iload 59 hX dX0_fillPhases_57 rfl ?_
  refine r_istore 61 hX dX0_fillPhases_59 rfl ?_
  refine r_iload 63 hX dX0_fillPhases_61 rfl ?_
  refine r_iconst 64 hX dX0_fillPhases_63 (v := 2) (by decide) ?_
  refine r_iremK 65 hX dX0_fillPhases_64 (by decide) (w := 0) (by decide) ?_
  refine r_if_ne 68 75 hX dX0_fillPhases_65 (fun c => absurd c (by decide)) (fun _ => ?_)
  refine r_aload_n 69 hX dX0_fillPhases_68 rfl ?_
  refine r_getI 72 hX dX0_fillPhases_69 fX0_26 rfl rfl rfl ?_
  refine mx_top (y := 1) rfl ?_
  refine r_goto 81 hX dX0_fillPhases_72 ?_
  refine r_istore 83 hX dX0_fillPhases_81 rfl ?_
  refine (show mx_WW G X 83 [_, _, _, _, _, _, _, _, _, _] _ _ from ?_)
  refine r_aload_n 84 hX dX0_fillPhases_83 rfl ?_
  refine r_getR 87 hX dX0_fillPhases_84 fX0_18 rfl rfl rfl ?_
  refine r_iload 89 hX dX0_fillPhases_87 rfl ?_
  refine r_aload_n 90 hX dX0_fillPhases_89 rfl ?_
  refine r_aload_n 91 hX dX0_fillPhases_90 rfl ?_
  refine r_aload_n 92 hX dX0_fillPhases_91 rfl ?_
  refine r_iload 94 hX dX0_fillPhases_92 rfl ?_
  refine r_iload 96 hX dX0_fillPhases_94 rfl ?_
  refine r_iload 98 hX dX0_fillPhases_96 rfl ?_
  refine r_cV5F 101 hX hR (tX0_rallyChance_1 (i := 2) (j := 2) (by decide) (by decide)) dX0_fillPhases_98 kX0_rallyChance lX0_57 rfl rfl rfl rfl rfl rfl ?_
  refine mx_top (y := phV M 1 4) rfl ?_
  refine r_iastK 102 hX dX0_fillPhases_101 rfl rfl (vpK rfl) (j := 4) (by decide) ?_
  refine r_iincK 105 hX dX0_fillPhases_102 rfl (w := 5) (by decide) rfl ?_
  refine r_goto 8 hX dX0_fillPhases_105 ?_
  refine r_iload 10 hX dX0_fillPhases_8 rfl ?_
  refine r_bipush 12 hX dX0_fillPhases_10 (v := 12) (by decide) ?_
  refine r_icmp_ge 15 108 hX dX0_fillPhases_12 (fun c => absurd c (by decide)) (fun _ => ?_)
  refine r_iload 17 hX dX0_fillPhases_15 rfl ?_
  refine r_iconst 18 hX dX0_fillPhases_17 (v := 2) (by decide) ?_
  refine r_idivK 19 hX dX0_fillPhases_18 (by decide) (w := 2) (by decide) ?_
  refine r_istore 21 hX dX0_fillPhases_19 rfl ?_
  refine r_iload 23 hX dX0_fillPhases_21 rfl ?_
  refine r_iconst 24 hX dX0_fillPhases_23 (v := 1) (by decide) ?_
  refine r_iaddK 25 hX dX0_fillPhases_24 (w := 6) (by decide) ?_
  refine r_iconst 26 hX dX0_fillPhases_25 (v := 2) (by decide) ?_
  refine r_idivK 27 hX dX0_fillPhases_26 (by decide) (w := 3) (by decide) ?_
  refine r_istore 29 hX dX0_fillPhases_27 rfl ?_
  refine (show mx_WW G X 29 [_, _, _, _, _, _, _, _, _, _] _ _ from ?_)
  refine r_aload_n 30 hX dX0_fillPhases_29 rfl ?_
  refine r_getI 33 hX dX0_fillPhases_30 fX0_26 rfl rfl rfl ?_
  refine mx_top (y := 1) rfl ?_
  refine r_if_ne 36 41 hX dX0_fillPhases_33 (fun _ => ?_) (fun c => absurd c (by decide))
  refine r_iload 43 hX dX0_fillPhases_41 rfl ?_
  refine r_istore 45 hX dX0_fillPhases_43 rfl ?_
  refine r_aload_n 46 hX dX0_fillPhases_45 rfl ?_
  refine r_getI 49 hX dX0_fillPhases_46 fX0_26 rfl rfl rfl ?_
  refine mx_top (y := 1) rfl ?_
  refine r_if_ne 52 57 hX dX0_fillPhases_49 (fun _ => ?_) (fun c => absurd c (by decide))
  refine r_iload 59 hX dX0_fillPhases_57 rfl ?_
  refine r_istore 61 hX dX0_fillPhases_59 rfl ?_
  refine r_iload 63 hX dX0_fillPhases_61 rfl ?_
  refine r_iconst 64 hX dX0_fillPhases_63 (v := 2) (by decide) ?_
  refine r_iremK 65 hX dX0_fillPhases_64 (by decide) (w := 1) (by decide) ?_
  refine r_if_ne 68 75 hX dX0_fillPhases_65 (fun _ => ?_) (fun c => absurd c (by decide))
  refine r_iconst 76 hX dX0_fillPhases_75 (v := 1) (by decide) ?_
  refine r_aload_n 77 hX dX0_fillPhases_76 rfl ?_
  refine r_getI 80 hX dX0_fillPhases_77 fX0_26 rfl rfl rfl ?_
  refine mx_top (y := 1) rfl ?_
  refine r_isubK 81 hX dX0_fillPhases_80 (w := 0) (by decide) ?_
  refine r_istore 83 hX dX0_fillPhases_81 rfl ?_
  refine (show mx_WW G X 83 [_, _, _, _, _, _, _, _, _, _] _ _ from ?_)
  refine r_aload_n 84 hX dX0_fillPhases_83 rfl ?_
  refine r_getR 87 hX dX0_fillPhases_84 fX0_18 rfl rfl rfl ?_
  refine r_iload 89 hX dX0_fillPhases_87 rfl ?_
  refine r_aload_n 90 hX dX0_fillPhases_89 rfl ?_
  refine r_aload_n 91 hX dX0_fillPhases_90 rfl ?_
  refine r_aload_n 92 hX dX0_fillPhases_91 rfl ?_
  refine r_iload 94 hX dX0_fillPhases_92 rfl ?_
  refine r_iload 96 hX dX0_fillPhases_94 rfl ?_
  refine r_iload 98 hX dX0_fillPhases_96 rfl ?_
  refine r_cV5F 101 hX hR (tX0_rallyChance_0 (i := 3) (j := 2) (by decide) (by decide)) dX0_fillPhases_98 kX0_rallyChance lX0_57 rfl rfl rfl rfl rfl rfl ?_
  refine mx_top (y := phV M 1 5) rfl ?_
  refine r_iastK 102 hX dX0_fillPhases_101 rfl rfl (vpK rfl) (j := 5) (by decide) ?_
  refine r_iincK 105 hX dX0_fillPhases_102 rfl (w := 6) (by decide) rfl ?_
  refine r_goto 8 hX dX0_fillPhases_105 ?_
  refine r_iload 10 hX dX0_fillPhases_8 rfl ?_
  refine r_bipush 12 hX dX0_fillPhases_10 (v := 12) (by decide) ?_
  refine r_icmp_ge 15 108 hX dX0_fillPhases_12 (fun c => absurd c (by decide)) (fun _ => ?_)
  refine r_iload 17 hX dX0_fillPhases_15 rfl ?_
  refine r_iconst 18 hX dX0_fillPhases_17 (v := 2) (by decide) ?_
  refine r_idivK 19 hX dX0_fillPhases_18 (by decide) (w := 3) (by decide) ?_
  refine r_istore 21 hX dX0_fillPhases_19 rfl ?_
  refine r_iload 23 hX dX0_fillPhases_21 rfl ?_
  refine r_iconst 24 hX dX0_fillPhases_23 (v := 1) (by decide) ?_
  refine r_iaddK 25 hX dX0_fillPhases_24 (w := 7) (by decide) ?_
  refine r_iconst 26 hX dX0_fillPhases_25 (v := 2) (by decide) ?_
  refine r_idivK 27 hX dX0_fillPhases_26 (by decide) (w := 3) (by decide) ?_
  refine r_istore 29 hX dX0_fillPhases_27 rfl ?_
  refine (show mx_WW G X 29 [_, _, _, _, _, _, _, _, _, _] _ _ from ?_)
  refine r_aload_n 30 hX dX0_fillPhases_29 rfl ?_
  refine r_getI 33 hX dX0_fillPhases_30 fX0_26 rfl rfl rfl ?_
  refine mx_top (y := 1) rfl ?_
  refine r_if_ne 36 41 hX dX0_fillPhases_33 (fun _ => ?_) (fun c => absurd c (by decide))
  refine r_iload 43 hX dX0_fillPhases_41 rfl ?_
  refine r_istore 45 hX dX0_fillPhases_43 rfl ?_
  refine r_aload_n 46 hX dX0_fillPhases_45 rfl ?_
  refine r_getI 49 hX dX0_fillPhases_46 fX0_26 rfl rfl rfl ?_
  refine mx_top (y := 1) rfl ?_
  refine r_if_ne 52 57 hX dX0_fillPhases_49 (fun _ => ?_) (fun c => absurd c (by decide))
  refine r_iload 59 hX dX0_fillPhases_57 rfl ?_
  refine r_istore 61 hX dX0_fillPhases_59 rfl ?_
  refine r_iload 63 hX dX0_fillPhases_61 rfl ?_
  refine r_iconst 64 hX dX0_fillPhases_63 (v := 2) (by decide) ?_
  refine r_iremK 65 hX dX0_fillPhases_64 (by decide) (w := 0) (by decide) ?_
  refine r_if_ne 68 75 hX dX0_fillPhases_65 (fun c => absurd c (by decide)) (fun _ => ?_)
  refine r_aload_n 69 hX dX0_fillPhases_68 rfl ?_
  refine r_getI 72 hX dX0_fillPhases_69 fX0_26 rfl rfl rfl ?_
  refine mx_top (y := 1) rfl ?_
  refine r_goto 81 hX dX0_fillPhases_72 ?_
  refine r_istore 83 hX dX0_fillPhases_81 rfl ?_
  refine (show mx_WW G X 83 [_, _, _, _, _, _, _, _, _, _] _ _ from ?_)
  refine r_aload_n 84 hX dX0_fillPhases_83 rfl ?_
  refine r_getR 87 hX dX0_fillPhases_84 fX0_18 rfl rfl rfl ?_
  refine r_iload 89 hX dX0_fillPhases_87 rfl ?_
  refine r_aload_n 90 hX dX0_fillPhases_89 rfl ?_
  refine r_aload_n 91 hX dX0_fillPhases_90 rfl ?_
  refine r_aload_n 92 hX dX0_fillPhases_91 rfl ?_
  refine r_iload 94 hX dX0_fillPhases_92 rfl ?_
  refine r_iload 96 hX dX0_fillPhases_94 rfl ?_
  refine r_iload 98 hX dX0_fillPhases_96 rfl ?_
  refine r_cV5F 101 hX hR (tX0_rallyChance_1 (i := 3) (j := 3) (by decide) (by decide)) dX0_fillPhases_98 kX0_rallyChance lX0_57 rfl rfl rfl rfl rfl rfl ?_
  refine mx_top (y := phV M 1 6) rfl ?_
  refine r_iastK 102 hX dX0_fillPhases_101 rfl rfl (vpK rfl) (j := 6) (by decide) ?_
  refine r_iincK 105 hX dX0_fillPhases_102 rfl (w := 7) (by decide) rfl ?_
  refine r_goto 8 hX dX0_fillPhases_105 ?_
  refine r_iload 10 hX dX0_fillPhases_8 rfl ?_
  refine r_bipush 12 hX dX0_fillPhases_10 (v := 12) (by decide) ?_
  refine r_icmp_ge 15 108 hX dX0_fillPhases_12 (fun c => absurd c (by decide)) (fun _ => ?_)
  refine r_iload 17 hX dX0_fillPhases_15 rfl ?_
  refine r_iconst 18 hX dX0_fillPhases_17 (v := 2) (by decide) ?_
  refine r_idivK 19 hX dX0_fillPhases_18 (by decide) (w := 3) (by decide) ?_
  refine r_istore 21 hX dX0_fillPhases_19 rfl ?_
  refine r_iload 23 hX dX0_fillPhases_21 rfl ?_
  refine r_iconst 24 hX dX0_fillPhases_23 (v := 1) (by decide) ?_
  refine r_iaddK 25 hX dX0_fillPhases_24 (w := 8) (by decide) ?_
  refine r_iconst 26 hX dX0_fillPhases_25 (v := 2) (by decide) ?_
  refine r_idivK 27 hX dX0_fillPhases_26 (by decide) (w := 4) (by decide) ?_
  refine r_istore 29 hX dX0_fillPhases_27 rfl ?_
  refine (show mx_WW G X 29 [_, _, _, _, _, _, _, _, _, _] _ _ from ?_)
  refine r_aload_n 30 hX dX0_fillPhases_29 rfl ?_
  refine r_getI 33 hX dX0_fillPhases_30 fX0_26 rfl rfl rfl ?_
  refine mx_top (y := 1) rfl ?_
  refine r_if_ne 36 41 hX dX0_fillPhases_33 (fun _ => ?_) (fun c => absurd c (by decide))
  refine r_iload 43 hX dX0_fillPhases_41 rfl ?_
  refine r_istore 45 hX dX0_fillPhases_43 rfl ?_
  refine r_aload_n 46 hX dX0_fillPhases_45 rfl ?_
  refine r_getI 49 hX dX0_fillPhases_46 fX0_26 rfl rfl rfl ?_
  refine mx_top (y := 1) rfl ?_
  refine r_if_ne 52 57 hX dX0_fillPhases_49 (fun _ => ?_) (fun c => absurd c (by decide))
  refine r_iload 59 hX dX0_fillPhases_57 rfl ?_
  refine r_istore 61 hX dX0_fillPhases_59 rfl ?_
  refine r_iload 63 hX dX0_fillPhases_61 rfl ?_
  refine r_iconst 64 hX dX0_fillPhases_63 (v := 2) (by decide) ?_
  refine r_iremK 65 hX dX0_fillPhases_64 (by decide) (w := 1) (by decide) ?_
  refine r_if_ne 68 75 hX dX0_fillPhases_65 (fun _ => ?_) (fun c => absurd c (by decide))
  refine r_iconst 76 hX dX0_fillPhases_75 (v := 1) (by decide) ?_
  refine r_aload_n 77 hX dX0_fillPhases_76 rfl ?_
  refine r_getI 80 hX dX0_fillPhases_77 fX0_26 rfl rfl rfl ?_
  refine mx_top (y := 1) rfl ?_
  refine r_isubK 81 hX dX0_fillPhases_80 (w := 0) (by decide) ?_
  refine r_istore 83 hX dX0_fillPhases_81 rfl ?_
  refine (show mx_WW G X 83 [_, _, _, _, _, _, _, _, _, _] _ _ from ?_)
  refine r_aload_n 84 hX dX0_fillPhases_83 rfl ?_
  refine r_getR 87 hX dX0_fillPhases_84 fX0_18 rfl rfl rfl ?_
  refine r_iload 89 hX dX0_fillPhases_87 rfl ?_
  refine r_aload_n 90 hX dX0_fillPhases_89 rfl ?_
  refine r_aload_n 91 hX dX0_fillPhases_90 rfl ?_
  refine r_aload_n 92 hX dX0_fillPhases_91 rfl ?_
  refine r_iload 94 hX dX0_fillPhases_92 rfl ?_
  refine r_iload 96 hX dX0_fillPhases_94 rfl ?_
  refine r_iload 98 hX dX0_fillPhases_96 rfl ?_
  refine r_cV5F 101 hX hR (tX0_rallyChance_0 (i := 4) (j := 3) (by decide) (by decide)) dX0_fillPhases_98 kX0_rallyChance lX0_57 rfl rfl rfl rfl rfl rfl ?_
  refine mx_top (y := phV M 1 7) rfl ?_
  refine r_iastK 102 hX dX0_fillPhases_101 rfl rfl (vpK rfl) (j := 7) (by decide) ?_
  refine r_iincK 105 hX dX0_fillPhases_102 rfl (w := 8) (by decide) rfl ?_
  refine r_goto 8 hX dX0_fillPhases_105 ?_
  refine r_iload 10 hX dX0_fillPhases_8 rfl ?_
  refine r_bipush 12 hX dX0_fillPhases_10 (v := 12) (by decide) ?_
  refine r_icmp_ge 15 108 hX dX0_fillPhases_12 (fun c => absurd c (by decide)) (fun _ => ?_)
  refine r_iload 17 hX dX0_fillPhases_15 rfl ?_
  refine r_iconst 18 hX dX0_fillPhases_17 (v := 2) (by decide) ?_
  refine r_idivK 19 hX dX0_fillPhases_18 (by decide) (w := 4) (by decide) ?_
  refine r_istore 21 hX dX0_fillPhases_19 rfl ?_
  refine r_iload 23 hX dX0_fillPhases_21 rfl ?_
  refine r_iconst 24 hX dX0_fillPhases_23 (v := 1) (by decide) ?_
  refine r_iaddK 25 hX dX0_fillPhases_24 (w := 9) (by decide) ?_
  refine r_iconst 26 hX dX0_fillPhases_25 (v := 2) (by decide) ?_
  refine r_idivK 27 hX dX0_fillPhases_26 (by decide) (w := 4) (by decide) ?_
  refine r_istore 29 hX dX0_fillPhases_27 rfl ?_
  refine (show mx_WW G X 29 [_, _, _, _, _, _, _, _, _, _] _ _ from ?_)
  refine r_aload_n 30 hX dX0_fillPhases_29 rfl ?_
  refine r_getI 33 hX dX0_fillPhases_30 fX0_26 rfl rfl rfl ?_
  refine mx_top (y := 1) rfl ?_
  refine r_if_ne 36 41 hX dX0_fillPhases_33 (fun _ => ?_) (fun c => absurd c (by decide))
  refine r_iload 43 hX dX0_fillPhases_41 rfl ?_
  refine r_istore 45 hX dX0_fillPhases_43 rfl ?_
  refine r_aload_n 46 hX dX0_fillPhases_45 rfl ?_
  refine r_getI 49 hX dX0_fillPhases_46 fX0_26 rfl rfl rfl ?_
  refine mx_top (y := 1) rfl ?_
  refine r_if_ne 52 57 hX dX0_fillPhases_49 (fun _ => ?_) (fun c => absurd c (by decide))
  refine r_iload 59 hX dX0_fillPhases_57 rfl ?_
  refine r_istore 61 hX dX0_fillPhases_59 rfl ?_
  refine r_iload 63 hX dX0_fillPhases_61 rfl ?_
  refine r_iconst 64 hX dX0_fillPhases_63 (v := 2) (by decide) ?_
  refine r_iremK 65 hX dX0_fillPhases_64 (by decide) (w := 0) (by decide) ?_
  refine r_if_ne 68 75 hX dX0_fillPhases_65 (fun c => absurd c (by decide)) (fun _ => ?_)
  refine r_aload_n 69 hX dX0_fillPhases_68 rfl ?_
  refine r_getI 72 hX dX0_fillPhases_69 fX0_26 rfl rfl rfl ?_
  refine mx_top (y := 1) rfl ?_
  refine r_goto 81 hX dX0_fillPhases_72 ?_
  refine r_istore 83 hX dX0_fillPhases_81 rfl ?_
  refine (show mx_WW G X 83 [_, _, _, _, _, _, _, _, _, _] _ _ from ?_)
  refine r_aload_n 84 hX dX0_fillPhases_83 rfl ?_
  refine r_getR 87 hX dX0_fillPhases_84 fX0_18 rfl rfl rfl ?_
  refine r_iload 89 hX dX0_fillPhases_87 rfl ?_
  refine r_aload_n 90 hX dX0_fillPhases_89 rfl ?_
  refine r_aload_n 91 hX dX0_fillPhases_90 rfl ?_
  refine r_aload_n 92 hX dX0_fillPhases_91 rfl ?_
  refine r_iload 94 hX dX0_fillPhases_92 rfl ?_
  refine r_iload 96 hX dX0_fillPhases_94 rfl ?_
  refine r_iload 98 hX dX0_fillPhases_96 rfl ?_
  refine r_cV5F 101 hX hR (tX0_rallyChance_1 (i := 4) (j := 4) (by decide) (by decide)) dX0_fillPhases_98 kX0_rallyChance lX0_57 rfl rfl rfl rfl rfl rfl ?_
  refine mx_top (y := phV M 1 8) rfl ?_
  refine r_iastK 102 hX dX0_fillPhases_101 rfl rfl (vpK rfl) (j := 8) (by decide) ?_
  refine r_iincK 105 hX dX0_fillPhases_102 rfl (w := 9) (by decide) rfl ?_
  refine r_goto 8 hX dX0_fillPhases_105 ?_
  refine r_iload 10 hX dX0_fillPhases_8 rfl ?_
  refine r_bipush 12 hX dX0_fillPhases_10 (v := 12) (by decide) ?_
  refine r_icmp_ge 15 108 hX dX0_fillPhases_12 (fun c => absurd c (by decide)) (fun _ => ?_)
  refine r_iload 17 hX dX0_fillPhases_15 rfl ?_
  refine r_iconst 18 hX dX0_fillPhases_17 (v := 2) (by decide) ?_
  refine r_idivK 19 hX dX0_fillPhases_18 (by decide) (w := 4) (by decide) ?_
  refine r_istore 21 hX dX0_fillPhases_19 rfl ?_
  refine r_iload 23 hX dX0_fillPhases_21 rfl ?_
  refine r_iconst 24 hX dX0_fillPhases_23 (v := 1) (by decide) ?_
  refine r_iaddK 25 hX dX0_fillPhases_24 (w := 10) (by decide) ?_
  refine r_iconst 26 hX dX0_fillPhases_25 (v := 2) (by decide) ?_
  refine r_idivK 27 hX dX0_fillPhases_26 (by decide) (w := 5) (by decide) ?_
  refine r_istore 29 hX dX0_fillPhases_27 rfl ?_
  refine (show mx_WW G X 29 [_, _, _, _, _, _, _, _, _, _] _ _ from ?_)
  refine r_aload_n 30 hX dX0_fillPhases_29 rfl ?_
  refine r_getI 33 hX dX0_fillPhases_30 fX0_26 rfl rfl rfl ?_
  refine mx_top (y := 1) rfl ?_
  refine r_if_ne 36 41 hX dX0_fillPhases_33 (fun _ => ?_) (fun c => absurd c (by decide))
  refine r_iload 43 hX dX0_fillPhases_41 rfl ?_
  refine r_istore 45 hX dX0_fillPhases_43 rfl ?_
  refine r_aload_n 46 hX dX0_fillPhases_45 rfl ?_
  refine r_getI 49 hX dX0_fillPhases_46 fX0_26 rfl rfl rfl ?_
  refine mx_top (y := 1) rfl ?_
  refine r_if_ne 52 57 hX dX0_fillPhases_49 (fun _ => ?_) (fun c => absurd c (by decide))
  refine r_iload 59 hX dX0_fillPhases_57 rfl ?_
  refine r_istore 61 hX dX0_fillPhases_59 rfl ?_
  refine r_iload 63 hX dX0_fillPhases_61 rfl ?_
  refine r_iconst 64 hX dX0_fillPhases_63 (v := 2) (by decide) ?_
  refine r_iremK 65 hX dX0_fillPhases_64 (by decide) (w := 1) (by decide) ?_
  refine r_if_ne 68 75 hX dX0_fillPhases_65 (fun _ => ?_) (fun c => absurd c (by decide))
  refine r_iconst 76 hX dX0_fillPhases_75 (v := 1) (by decide) ?_
  refine r_aload_n 77 hX dX0_fillPhases_76 rfl ?_
  refine r_getI 80 hX dX0_fillPhases_77 fX0_26 rfl rfl rfl ?_
  refine mx_top (y := 1) rfl ?_
  refine r_isubK 81 hX dX0_fillPhases_80 (w := 0) (by decide) ?_
  refine r_istore 83 hX dX0_fillPhases_81 rfl ?_
  refine (show mx_WW G X 83 [_, _, _, _, _, _, _, _, _, _] _ _ from ?_)
  refine r_aload_n 84 hX dX0_fillPhases_83 rfl ?_
  refine r_getR 87 hX dX0_fillPhases_84 fX0_18 rfl rfl rfl ?_
  refine r_iload 89 hX dX0_fillPhases_87 rfl ?_
  refine r_aload_n 90 hX dX0_fillPhases_89 rfl ?_
  refine r_aload_n 91 hX dX0_fillPhases_90 rfl ?_
  refine r_aload_n 92 hX dX0_fillPhases_91 rfl ?_
  refine r_iload 94 hX dX0_fillPhases_92 rfl ?_
  refine r_iload 96 hX dX0_fillPhases_94 rfl ?_
  refine r_iload 98 hX dX0_fillPhases_96 rfl ?_
  refine r_cV5F 101 hX hR (tX0_rallyChance_0 (i := 5) (j := 4) (by decide) (by decide)) dX0_fillPhases_98 kX0_rallyChance lX0_57 rfl rfl rfl rfl rfl rfl ?_
  refine mx_top (y := phV M 1 9) rfl ?_
  refine r_iastK 102 hX dX0_fillPhases_101 rfl rfl (vpK rfl) (j := 9) (by decide) ?_
  refine r_iincK 105 hX dX0_fillPhases_102 rfl (w := 10) (by decide) rfl ?_
  refine r_goto 8 hX dX0_fillPhases_105 ?_
  refine r_iload 10 hX dX0_fillPhases_8 rfl ?_
  refine r_bipush 12 hX dX0_fillPhases_10 (v := 12) (by decide) ?_
  refine r_icmp_ge 15 108 hX dX0_fillPhases_12 (fun c => absurd c (by decide)) (fun _ => ?_)
  refine r_iload 17 hX dX0_fillPhases_15 rfl ?_
  refine r_iconst 18 hX dX0_fillPhases_17 (v := 2) (by decide) ?_
  refine r_idivK 19 hX dX0_fillPhases_18 (by decide) (w := 5) (by decide) ?_
  refine r_istore 21 hX dX0_fillPhases_19 rfl ?_
  refine r_iload 23 hX dX0_fillPhases_21 rfl ?_
  refine r_iconst 24 hX dX0_fillPhases_23 (v := 1) (by decide) ?_
  refine r_iaddK 25 hX dX0_fillPhases_24 (w := 11) (by decide) ?_
  refine r_iconst 26 hX dX0_fillPhases_25 (v := 2) (by decide) ?_
  refine r_idivK 27 hX dX0_fillPhases_26 (by decide) (w := 5) (by decide) ?_
  refine r_istore 29 hX dX0_fillPhases_27 rfl ?_
  refine (show mx_WW G X 29 [_, _, _, _, _, _, _, _, _, _] _ _ from ?_)
  refine r_aload_n 30 hX dX0_fillPhases_29 rfl ?_
  refine r_getI 33 hX dX0_fillPhases_30 fX0_26 rfl rfl rfl ?_
  refine mx_top (y := 1) rfl ?_
  refine r_if_ne 36 41 hX dX0_fillPhases_33 (fun _ => ?_) (fun c => absurd c (by decide))
  refine r_iload 43 hX dX0_fillPhases_41 rfl ?_
  refine r_istore 45 hX dX0_fillPhases_43 rfl ?_
  refine r_aload_n 46 hX dX0_fillPhases_45 rfl ?_
  refine r_getI 49 hX dX0_fillPhases_46 fX0_26 rfl rfl rfl ?_
  refine mx_top (y := 1) rfl ?_
  refine r_if_ne 52 57 hX dX0_fillPhases_49 (fun _ => ?_) (fun c => absurd c (by decide))
  refine r_iload 59 hX dX0_fillPhases_57 rfl ?_
  refine r_istore 61 hX dX0_fillPhases_59 rfl ?_
  refine r_iload 63 hX dX0_fillPhases_61 rfl ?_
  refine r_iconst 64 hX dX0_fillPhases_63 (v := 2) (by decide) ?_
  refine r_iremK 65 hX dX0_fillPhases_64 (by decide) (w := 0) (by decide) ?_
  refine r_if_ne 68 75 hX dX0_fillPhases_65 (fun c => absurd c (by decide)) (fun _ => ?_)
  refine r_aload_n 69 hX dX0_fillPhases_68 rfl ?_
  refine r_getI 72 hX dX0_fillPhases_69 fX0_26 rfl rfl rfl ?_
  refine mx_top (y := 1) rfl ?_
  refine r_goto 81 hX dX0_fillPhases_72 ?_
  refine r_istore 83 hX dX0_fillPhases_81 rfl ?_
  refine (show mx_WW G X 83 [_, _, _, _, _, _, _, _, _, _] _ _ from ?_)
  refine r_aload_n 84 hX dX0_fillPhases_83 rfl ?_
  refine r_getR 87 hX dX0_fillPhases_84 fX0_18 rfl rfl rfl ?_
  refine r_iload 89 hX dX0_fillPhases_87 rfl ?_
  refine r_aload_n 90 hX dX0_fillPhases_89 rfl ?_
  refine r_aload_n 91 hX dX0_fillPhases_90 rfl ?_
  refine r_aload_n 92 hX dX0_fillPhases_91 rfl ?_
  refine r_iload 94 hX dX0_fillPhases_92 rfl ?_
  refine r_iload 96 hX dX0_fillPhases_94 rfl ?_
  refine r_iload 98 hX dX0_fillPhases_96 rfl ?_
  refine r_cV5F 101 hX hR (tX0_rallyChance_1 (i := 5) (j := 5) (by decide) (by decide)) dX0_fillPhases_98 kX0_rallyChance lX0_57 rfl rfl rfl rfl rfl rfl ?_
  refine mx_top (y := phV M 1 10) rfl ?_
  refine r_iastK 102 hX dX0_fillPhases_101 rfl rfl (vpK rfl) (j := 10) (by decide) ?_
  refine r_iincK 105 hX dX0_fillPhases_102 rfl (w := 11) (by decide) rfl ?_
  refine r_goto 8 hX dX0_fillPhases_105 ?_
  refine r_iload 10 hX dX0_fillPhases_8 rfl ?_
  refine r_bipush 12 hX dX0_fillPhases_10 (v := 12) (by decide) ?_
  refine r_icmp_ge 15 108 hX dX0_fillPhases_12 (fun c => absurd c (by decide)) (fun _ => ?_)
  refine r_iload 17 hX dX0_fillPhases_15 rfl ?_
  refine r_iconst 18 hX dX0_fillPhases_17 (v := 2) (by decide) ?_
  refine r_idivK 19 hX dX0_fillPhases_18 (by decide) (w := 5) (by decide) ?_
  refine r_istore 21 hX dX0_fillPhases_19 rfl ?_
  refine r_iload 23 hX dX0_fillPhases_21 rfl ?_
  refine r_iconst 24 hX dX0_fillPhases_23 (v := 1) (by decide) ?_
  refine r_iaddK 25 hX dX0_fillPhases_24 (w := 12) (by decide) ?_
  refine r_iconst 26 hX dX0_fillPhases_25 (v := 2) (by decide) ?_
  refine r_idivK 27 hX dX0_fillPhases_26 (by decide) (w := 6) (by decide) ?_
  refine r_istore 29 hX dX0_fillPhases_27 rfl ?_
  refine (show mx_WW G X 29 [_, _, _, _, _, _, _, _, _, _] _ _ from ?_)
  refine r_aload_n 30 hX dX0_fillPhases_29 rfl ?_
  refine r_getI 33 hX dX0_fillPhases_30 fX0_26 rfl rfl rfl ?_
  refine mx_top (y := 1) rfl ?_
  refine r_if_ne 36 41 hX dX0_fillPhases_33 (fun _ => ?_) (fun c => absurd c (by decide))
  refine r_iload 43 hX dX0_fillPhases_41 rfl ?_
  refine r_istore 45 hX dX0_fillPhases_43 rfl ?_
  refine r_aload_n 46 hX dX0_fillPhases_45 rfl ?_
  refine r_getI 49 hX dX0_fillPhases_46 fX0_26 rfl rfl rfl ?_
  refine mx_top (y := 1) rfl ?_
  refine r_if_ne 52 57 hX dX0_fillPhases_49 (fun _ => ?_) (fun c => absurd c (by decide))
  refine r_iload 59 hX dX0_fillPhases_57 rfl ?_
  refine r_istore 61 hX dX0_fillPhases_59 rfl ?_
  refine r_iload 63 hX dX0_fillPhases_61 rfl ?_
  refine r_iconst 64 hX dX0_fillPhases_63 (v := 2) (by decide) ?_
  refine r_iremK 65 hX dX0_fillPhases_64 (by decide) (w := 1) (by decide) ?_
  refine r_if_ne 68 75 hX dX0_fillPhases_65 (fun _ => ?_) (fun c => absurd c (by decide))
  refine r_iconst 76 hX dX0_fillPhases_75 (v := 1) (by decide) ?_
  refine r_aload_n 77 hX dX0_fillPhases_76 rfl ?_
  refine r_getI 80 hX dX0_fillPhases_77 fX0_26 rfl rfl rfl ?_
  refine mx_top (y := 1) rfl ?_
  refine r_isubK 81 hX dX0_fillPhases_80 (w := 0) (by decide) ?_
  refine r_istore 83 hX dX0_fillPhases_81 rfl ?_
  refine (show mx_WW G X 83 [_, _, _, _, _, _, _, _, _, _] _ _ from ?_)
  refine r_aload_n 84 hX dX0_fillPhases_83 rfl ?_
  refine r_getR 87 hX dX0_fillPhases_84 fX0_18 rfl rfl rfl ?_
  refine r_iload 89 hX dX0_fillPhases_87 rfl ?_
  refine r_aload_n 90 hX dX0_fillPhases_89 rfl ?_
  refine r_aload_n 91 hX dX0_fillPhases_90 rfl ?_
  refine r_aload_n 92 hX dX0_fillPhases_91 rfl ?_
  refine r_iload 94 hX dX0_fillPhases_92 rfl ?_
  refine r_iload 96 hX dX0_fillPhases_94 rfl ?_
  refine r_iload 98 hX dX0_fillPhases_96 rfl ?_
  refine r_cV5F 101 hX hR (tX0_rallyChance_0 (i := 6) (j := 5) (by decide) (by decide)) dX0_fillPhases_98 kX0_rallyChance lX0_57 rfl rfl rfl rfl rfl rfl ?_
  refine mx_top (y := phV M 1 11) rfl ?_
  refine r_iastK 102 hX dX0_fillPhases_101 rfl rfl (vpK rfl) (j := 11) (by decide) ?_
  refine r_iincK 105 hX dX0_fillPhases_102 rfl (w := 12) (by decide) rfl ?_
  refine r_goto 8 hX dX0_fillPhases_105 ?_
  refine r_iload 10 hX dX0_fillPhases_8 rfl ?_
  refine r_bipush 12 hX dX0_fillPhases_10 (v := 12) (by decide) ?_
  refine r_icmp_ge 15 108 hX dX0_fillPhases_12 (fun _ => ?_) (fun c => absurd c (by decide))
  refine r_vret hX hT dX0_fillPhases_108 ?_
  exact ⟨rfl, rfl⟩

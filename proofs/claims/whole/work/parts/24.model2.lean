/-! the model: the match -/
theorem tX8_getV {l : Launch} {G : mx_G} {M : mx_Mem} {p : Int32} (t b n m : Nat) (h : 6 + 50 * t + b = n) (hn : n + m ≤ 106) (hp : vp_in p m) : mx_Met l G yX8_get cX8_get 3 (some FieldType.int) 0 0 [.ref 46, .int (nI t), .int (nI b + p)] M (mx_F (some (.int (M.1 52 (p.toNatClampNeg + n)))) M) := by
  obtain ⟨k, hk, rfl⟩ := vp_in_of hp (by omega)
  rw [nI_add, nI_clamp (by omega), show k + n = 6 + 50 * t + (b + k) by omega]
  exact tX8_get rfl (by omega)
theorem tX8_putV {l : Launch} {G : mx_G} {M : mx_Mem} {p v : Int32} (t b n m : Nat) (h : 6 + 50 * t + b = n) (hn : n + m ≤ 106) (hp : vp_in p m) : mx_Met l G yX8_put cX8_put 4 none 0 0 [.ref 46, .int (nI t), .int (nI b + p), .int v] M (mx_F none (mI M 52 (p.toNatClampNeg + n) v)) := by
  obtain ⟨k, hk, rfl⟩ := vp_in_of hp (by omega)
  rw [nI_add, nI_clamp (by omega), show k + n = 6 + 50 * t + (b + k) by omega]
  exact tX8_put rfl (by omega)
def mpl_0 (M : mx_Mem) : Nat → Int32 := fun k => M.1 52 (14 + k)
set_option maxRecDepth 100000 in
set_option maxHeartbeats 4000000 in
theorem tX8_placeOf_0 {l : Launch} {G : mx_G} {p : Int32} {M : mx_Mem} : mx_Met l G yX8_placeOf cX8_placeOf 4 ((some FieldType.int)) 1 22 [.ref 46, .int 0, .int p] M (mx_F (some (.int (plc (mpl_0 M) p))) M) := by
  refine mx_enter (own := RX8) (L := [.ref 46, .int 0, .int p, .null]) (by decide +kernel) rfl rfl rfl ?_
  intro X hlX hX hR hT
  refine r_iconst 1 hX dX8_placeOf_0 (v := 0) (by decide) ?_
  refine r_istore_n 2 hX dX8_placeOf_1 rfl ?_
  refine r_iload_n 3 hX dX8_placeOf_2 rfl ?_
  refine r_bipush 5 hX dX8_placeOf_3 (v := 6) (by decide) ?_
  refine r_icmp_ge 8 29 hX dX8_placeOf_5 (fun c => absurd c (by decide)) (fun _ => ?_)
  refine r_aload_n 9 hX dX8_placeOf_8 rfl ?_
  refine r_iload_n 10 hX dX8_placeOf_9 rfl ?_
  refine r_bipush 12 hX dX8_placeOf_10 (v := 8) (by decide) ?_
  refine r_iload_n 13 hX dX8_placeOf_12 rfl ?_
  refine r_iaddK 14 hX dX8_placeOf_13 (w := 8) (by decide) ?_
  refine r_cV2F 17 hX hR (tX8_get (t := 0) (k := 8) (n := 14) rfl (by decide)) dX8_placeOf_14 kX8_get lX8_95 rfl rfl rfl rfl rfl rfl ?_
  refine r_iload_n 18 hX dX8_placeOf_17 rfl ?_
  refine r_icmp_ne 21 23 hX dX8_placeOf_18 (fun c1 => ?_) (fun c1 => ?_)
  · refine r_iincK 26 hX dX8_placeOf_23 rfl (w := 1) (by decide) rfl ?_
    refine r_goto 2 hX dX8_placeOf_26 ?_
    refine r_iload_n 3 hX dX8_placeOf_2 rfl ?_
    refine r_bipush 5 hX dX8_placeOf_3 (v := 6) (by decide) ?_
    refine r_icmp_ge 8 29 hX dX8_placeOf_5 (fun c => absurd c (by decide)) (fun _ => ?_)
    refine r_aload_n 9 hX dX8_placeOf_8 rfl ?_
    refine r_iload_n 10 hX dX8_placeOf_9 rfl ?_
    refine r_bipush 12 hX dX8_placeOf_10 (v := 8) (by decide) ?_
    refine r_iload_n 13 hX dX8_placeOf_12 rfl ?_
    refine r_iaddK 14 hX dX8_placeOf_13 (w := 9) (by decide) ?_
    refine r_cV2F 17 hX hR (tX8_get (t := 0) (k := 9) (n := 15) rfl (by decide)) dX8_placeOf_14 kX8_get lX8_95 rfl rfl rfl rfl rfl rfl ?_
    refine r_iload_n 18 hX dX8_placeOf_17 rfl ?_
    refine r_icmp_ne 21 23 hX dX8_placeOf_18 (fun c2 => ?_) (fun c2 => ?_)
    · refine r_iincK 26 hX dX8_placeOf_23 rfl (w := 2) (by decide) rfl ?_
      refine (show mx_WW G X 26 [_, _, _, _] _ _ from ?_)
      refine r_goto 2 hX dX8_placeOf_26 ?_
      refine r_iload_n 3 hX dX8_placeOf_2 rfl ?_
      refine r_bipush 5 hX dX8_placeOf_3 (v := 6) (by decide) ?_
      refine r_icmp_ge 8 29 hX dX8_placeOf_5 (fun c => absurd c (by decide)) (fun _ => ?_)
      refine r_aload_n 9 hX dX8_placeOf_8 rfl ?_
      refine r_iload_n 10 hX dX8_placeOf_9 rfl ?_
      refine r_bipush 12 hX dX8_placeOf_10 (v := 8) (by decide) ?_
      refine r_iload_n 13 hX dX8_placeOf_12 rfl ?_
      refine r_iaddK 14 hX dX8_placeOf_13 (w := 10) (by decide) ?_
      refine r_cV2F 17 hX hR (tX8_get (t := 0) (k := 10) (n := 16) rfl (by decide)) dX8_placeOf_14 kX8_get lX8_95 rfl rfl rfl rfl rfl rfl ?_
      refine r_iload_n 18 hX dX8_placeOf_17 rfl ?_
      refine r_icmp_ne 21 23 hX dX8_placeOf_18 (fun c3 => ?_) (fun c3 => ?_)
      · refine r_iincK 26 hX dX8_placeOf_23 rfl (w := 3) (by decide) rfl ?_
        refine r_goto 2 hX dX8_placeOf_26 ?_
        refine r_iload_n 3 hX dX8_placeOf_2 rfl ?_
        refine r_bipush 5 hX dX8_placeOf_3 (v := 6) (by decide) ?_
        refine r_icmp_ge 8 29 hX dX8_placeOf_5 (fun c => absurd c (by decide)) (fun _ => ?_)
        refine r_aload_n 9 hX dX8_placeOf_8 rfl ?_
        refine r_iload_n 10 hX dX8_placeOf_9 rfl ?_
        refine r_bipush 12 hX dX8_placeOf_10 (v := 8) (by decide) ?_
        refine r_iload_n 13 hX dX8_placeOf_12 rfl ?_
        refine r_iaddK 14 hX dX8_placeOf_13 (w := 11) (by decide) ?_
        refine r_cV2F 17 hX hR (tX8_get (t := 0) (k := 11) (n := 17) rfl (by decide)) dX8_placeOf_14 kX8_get lX8_95 rfl rfl rfl rfl rfl rfl ?_
        refine r_iload_n 18 hX dX8_placeOf_17 rfl ?_
        refine r_icmp_ne 21 23 hX dX8_placeOf_18 (fun c4 => ?_) (fun c4 => ?_)
        · refine r_iincK 26 hX dX8_placeOf_23 rfl (w := 4) (by decide) rfl ?_
          refine r_goto 2 hX dX8_placeOf_26 ?_
          refine r_iload_n 3 hX dX8_placeOf_2 rfl ?_
          refine r_bipush 5 hX dX8_placeOf_3 (v := 6) (by decide) ?_
          refine r_icmp_ge 8 29 hX dX8_placeOf_5 (fun c => absurd c (by decide)) (fun _ => ?_)
          refine r_aload_n 9 hX dX8_placeOf_8 rfl ?_
          refine r_iload_n 10 hX dX8_placeOf_9 rfl ?_
          refine r_bipush 12 hX dX8_placeOf_10 (v := 8) (by decide) ?_
          refine r_iload_n 13 hX dX8_placeOf_12 rfl ?_
          refine r_iaddK 14 hX dX8_placeOf_13 (w := 12) (by decide) ?_
          refine r_cV2F 17 hX hR (tX8_get (t := 0) (k := 12) (n := 18) rfl (by decide)) dX8_placeOf_14 kX8_get lX8_95 rfl rfl rfl rfl rfl rfl ?_
          refine r_iload_n 18 hX dX8_placeOf_17 rfl ?_
          refine r_icmp_ne 21 23 hX dX8_placeOf_18 (fun c5 => ?_) (fun c5 => ?_)
          · refine r_iincK 26 hX dX8_placeOf_23 rfl (w := 5) (by decide) rfl ?_
            refine (show mx_WW G X 26 [_, _, _, _] _ _ from ?_)
            refine r_goto 2 hX dX8_placeOf_26 ?_
            refine r_iload_n 3 hX dX8_placeOf_2 rfl ?_
            refine r_bipush 5 hX dX8_placeOf_3 (v := 6) (by decide) ?_
            refine r_icmp_ge 8 29 hX dX8_placeOf_5 (fun c => absurd c (by decide)) (fun _ => ?_)
            refine r_aload_n 9 hX dX8_placeOf_8 rfl ?_
            refine r_iload_n 10 hX dX8_placeOf_9 rfl ?_
            refine r_bipush 12 hX dX8_placeOf_10 (v := 8) (by decide) ?_
            refine r_iload_n 13 hX dX8_placeOf_12 rfl ?_
            refine r_iaddK 14 hX dX8_placeOf_13 (w := 13) (by decide) ?_
            refine r_cV2F 17 hX hR (tX8_get (t := 0) (k := 13) (n := 19) rfl (by decide)) dX8_placeOf_14 kX8_get lX8_95 rfl rfl rfl rfl rfl rfl ?_
            refine r_iload_n 18 hX dX8_placeOf_17 rfl ?_
            refine r_icmp_ne 21 23 hX dX8_placeOf_18 (fun c6 => ?_) (fun c6 => ?_)
            · refine r_iincK 26 hX dX8_placeOf_23 rfl (w := 6) (by decide) rfl ?_
              refine r_goto 2 hX dX8_placeOf_26 ?_
              refine r_iload_n 3 hX dX8_placeOf_2 rfl ?_
              refine r_bipush 5 hX dX8_placeOf_3 (v := 6) (by decide) ?_
              refine r_icmp_ge 8 29 hX dX8_placeOf_5 (fun _ => ?_) (fun c => absurd c (by decide))
              refine r_iconst 30 hX dX8_placeOf_29 (v := -1) (by decide) ?_
              refine r_iret hX hT dX8_placeOf_30 ?_
              exact ⟨by simp [*, plc, mpl_0], rfl⟩
            · refine r_iload_n 22 hX dX8_placeOf_21 rfl ?_
              refine r_iret hX hT dX8_placeOf_22 ?_
              exact ⟨by simp [*, plc, mpl_0], rfl⟩
          · refine r_iload_n 22 hX dX8_placeOf_21 rfl ?_
            refine r_iret hX hT dX8_placeOf_22 ?_
            exact ⟨by simp [*, plc, mpl_0], rfl⟩
        · refine r_iload_n 22 hX dX8_placeOf_21 rfl ?_
          refine r_iret hX hT dX8_placeOf_22 ?_
          exact ⟨by simp [*, plc, mpl_0], rfl⟩
      · refine r_iload_n 22 hX dX8_placeOf_21 rfl ?_
        refine r_iret hX hT dX8_placeOf_22 ?_
        exact ⟨by simp [*, plc, mpl_0], rfl⟩
    · refine r_iload_n 22 hX dX8_placeOf_21 rfl ?_
      refine r_iret hX hT dX8_placeOf_22 ?_
      exact ⟨by simp [*, plc, mpl_0], rfl⟩
  · refine r_iload_n 22 hX dX8_placeOf_21 rfl ?_
    refine r_iret hX hT dX8_placeOf_22 ?_
    exact ⟨by simp [*, plc, mpl_0], rfl⟩
def mmC_0 (M : mx_Mem) (a b : Int32) : Int32 :=
  if ¬ M.1 52 1 = 1 then 1 else if ¬ isP a ∨ ¬ isP b ∨ a = b then 2 else if plc (mpl_0 M) a = -1 ∨ a = M.1 48 0 then 3 else if ¬ plc (mpl_0 M) b = -1 ∨ b = M.1 48 0 ∨ M.1 52 10 = b then 4
  else if M.1 49 4 ≤ M.1 52 8 then 5 else if M.1 52 (a.toNatClampNeg + 20) = 1 ∧ M.1 52 (b.toNatClampNeg + 20) = 0 then 0
  else if M.1 52 (a.toNatClampNeg + 20) = 3 ∧ M.1 52 (b.toNatClampNeg + 20) = 2 ∧ M.1 52 (a.toNatClampNeg + 32) = b then 0 else 6
set_option maxRecDepth 100000 in
set_option maxHeartbeats 4000000 in
theorem tX8_mayNot_0 {l : Launch} {G : mx_G} {a b : Int32} {M : mx_Mem} : mx_Met l G yX8_mayNot cX8_mayNot 6 ((some FieldType.int)) 2 45 [.ref 46, .int 0, .int a, .int b] M (mx_F (some (.int (mmC_0 M a b))) M) := by
  refine mx_enter (own := RX8) (L := [.ref 46, .int 0, .int a, .int b, .null, .null]) (by decide +kernel) rfl rfl rfl ?_
  intro X hlX hX hR hT
  refine r_aload_n 1 hX dX8_mayNot_0 rfl ?_
  refine r_cV0F 4 hX hR tX8_isOn dX8_mayNot_1 kX8_isOn lX8_82 rfl rfl rfl rfl rfl rfl ?_
  refine r_Bne 7 9 hX dX8_mayNot_4 (fun c1 => ?_) (fun c1 => ?_)
  · refine r_iload_n 10 hX dX8_mayNot_9 rfl ?_
    refine r_cS1F 13 hX hR tX8_isPlayer dX8_mayNot_10 kX8_isPlayer lX8_75 rfl rfl rfl ?_
    refine r_Beq 16 28 hX dX8_mayNot_13 (fun c2 => ?_) (fun c2 => ?_)
    · refine r_iconst 29 hX dX8_mayNot_28 (v := 2) (by decide) ?_
      refine r_iret hX hT dX8_mayNot_29 ?_
      clear hT hX hR hlX
      exact ⟨by grind (splits := 30) [mmC_0], rfl⟩
    · refine r_iload_n 17 hX dX8_mayNot_16 rfl ?_
      refine r_cS1F 20 hX hR tX8_isPlayer dX8_mayNot_17 kX8_isPlayer lX8_75 rfl rfl rfl ?_
      refine r_Beq 23 28 hX dX8_mayNot_20 (fun c3 => ?_) (fun c3 => ?_)
      · refine r_iconst 29 hX dX8_mayNot_28 (v := 2) (by decide) ?_
        refine r_iret hX hT dX8_mayNot_29 ?_
        clear hT hX hR hlX
        exact ⟨by grind (splits := 30) [mmC_0], rfl⟩
      · refine r_iload_n 24 hX dX8_mayNot_23 rfl ?_
        refine r_iload_n 25 hX dX8_mayNot_24 rfl ?_
        refine r_icmp_ne 28 30 hX dX8_mayNot_25 (fun c4 => ?_) (fun c4 => ?_)
        · refine r_aload_n 31 hX dX8_mayNot_30 rfl ?_
          refine r_iload_n 32 hX dX8_mayNot_31 rfl ?_
          refine r_iload_n 33 hX dX8_mayNot_32 rfl ?_
          refine r_cV2F 36 hX hR tX8_placeOf_0 dX8_mayNot_33 kX8_placeOf lX8_117 rfl rfl rfl rfl rfl rfl ?_
          refine r_iconst 37 hX dX8_mayNot_36 (v := -1) (by decide) ?_
          refine r_icmp_eq 40 50 hX dX8_mayNot_37 (fun c5 => ?_) (fun c5 => ?_)
          · refine r_iconst 51 hX dX8_mayNot_50 (v := 3) (by decide) ?_
            refine r_iret hX hT dX8_mayNot_51 ?_
            clear hT hX hR hlX
            exact ⟨by grind (splits := 30) [mmC_0], rfl⟩
          · refine r_iload_n 41 hX dX8_mayNot_40 rfl ?_
            refine r_aload_n 42 hX dX8_mayNot_41 rfl ?_
            refine r_getR 45 hX dX8_mayNot_42 fX8_13 rfl rfl rfl ?_
            refine r_iload_n 46 hX dX8_mayNot_45 rfl ?_
            refine r_ialdK 47 hX dX8_mayNot_46 rfl rfl (vpK rfl) (j := 0) (by decide) ?_
            refine r_icmp_ne 50 52 hX dX8_mayNot_47 (fun c6 => ?_) (fun c6 => ?_)
            · refine r_aload_n 53 hX dX8_mayNot_52 rfl ?_
              refine r_iload_n 54 hX dX8_mayNot_53 rfl ?_
              refine r_iload_n 55 hX dX8_mayNot_54 rfl ?_
              refine r_cV2F 58 hX hR tX8_placeOf_0 dX8_mayNot_55 kX8_placeOf lX8_117 rfl rfl rfl rfl rfl rfl ?_
              refine r_iconst 59 hX dX8_mayNot_58 (v := -1) (by decide) ?_
              refine r_icmp_ne 62 82 hX dX8_mayNot_59 (fun c7 => ?_) (fun c7 => ?_)
              · refine r_iconst 83 hX dX8_mayNot_82 (v := 4) (by decide) ?_
                refine r_iret hX hT dX8_mayNot_83 ?_
                clear hT hX hR hlX
                exact ⟨by grind (splits := 30) [mmC_0], rfl⟩
              · refine r_iload_n 63 hX dX8_mayNot_62 rfl ?_
                refine r_aload_n 64 hX dX8_mayNot_63 rfl ?_
                refine r_getR 67 hX dX8_mayNot_64 fX8_13 rfl rfl rfl ?_
                refine r_iload_n 68 hX dX8_mayNot_67 rfl ?_
                refine r_ialdK 69 hX dX8_mayNot_68 rfl rfl (vpK rfl) (j := 0) (by decide) ?_
                refine r_icmp_eq 72 82 hX dX8_mayNot_69 (fun c8 => ?_) (fun c8 => ?_)
                · refine r_iconst 83 hX dX8_mayNot_82 (v := 4) (by decide) ?_
                  refine r_iret hX hT dX8_mayNot_83 ?_
                  clear hT hX hR hlX
                  exact ⟨by grind (splits := 30) [mmC_0], rfl⟩
                · refine r_aload_n 73 hX dX8_mayNot_72 rfl ?_
                  refine r_iload_n 74 hX dX8_mayNot_73 rfl ?_
                  refine r_iconst 75 hX dX8_mayNot_74 (v := 4) (by decide) ?_
                  refine r_cV2F 78 hX hR (tX8_get (t := 0) (k := 4) (n := 10) rfl (by decide)) dX8_mayNot_75 kX8_get lX8_95 rfl rfl rfl rfl rfl rfl ?_
                  refine r_iload_n 79 hX dX8_mayNot_78 rfl ?_
                  refine r_icmp_ne 82 84 hX dX8_mayNot_79 (fun c9 => ?_) (fun c9 => ?_)
                  · refine r_aload_n 85 hX dX8_mayNot_84 rfl ?_
                    refine r_iload_n 86 hX dX8_mayNot_85 rfl ?_
                    refine r_iconst 87 hX dX8_mayNot_86 (v := 2) (by decide) ?_
                    refine r_cV2F 90 hX hR (tX8_get (t := 0) (k := 2) (n := 8) rfl (by decide)) dX8_mayNot_87 kX8_get lX8_95 rfl rfl rfl rfl rfl rfl ?_
                    refine r_aload_n 91 hX dX8_mayNot_90 rfl ?_
                    refine r_getR 94 hX dX8_mayNot_91 fX8_16 rfl rfl rfl ?_
                    refine r_iconst 95 hX dX8_mayNot_94 (v := 4) (by decide) ?_
                    refine r_ialdK 96 hX dX8_mayNot_95 rfl rfl (vpK rfl) (j := 4) (by decide) ?_
                    refine r_Icmp_lt 99 101 hX dX8_mayNot_96 (fun c10 => ?_) (fun c10 => ?_)
                    · refine r_aload_n 102 hX dX8_mayNot_101 rfl ?_
                      refine r_iload_n 103 hX dX8_mayNot_102 rfl ?_
                      refine r_bipush 105 hX dX8_mayNot_103 (v := 14) (by decide) ?_
                      refine r_iload_n 106 hX dX8_mayNot_105 rfl ?_
                      refine r_iadd 107 hX dX8_mayNot_106 ?_
                      refine r_cV2F 110 hX hR (tX8_getV 0 14 20 12 rfl (by decide) (vpP (by assumption))) dX8_mayNot_107 kX8_get lX8_95 rfl rfl rfl rfl rfl rfl ?_
                      refine r_istore 112 hX dX8_mayNot_110 rfl ?_
                      refine r_aload_n 113 hX dX8_mayNot_112 rfl ?_
                      refine r_iload_n 114 hX dX8_mayNot_113 rfl ?_
                      refine r_bipush 116 hX dX8_mayNot_114 (v := 14) (by decide) ?_
                      refine r_iload_n 117 hX dX8_mayNot_116 rfl ?_
                      refine r_iadd 118 hX dX8_mayNot_117 ?_
                      refine r_cV2F 121 hX hR (tX8_getV 0 14 20 12 rfl (by decide) (vpP (by assumption))) dX8_mayNot_118 kX8_get lX8_95 rfl rfl rfl rfl rfl rfl ?_
                      refine r_istore 123 hX dX8_mayNot_121 rfl ?_
                      refine r_iload 125 hX dX8_mayNot_123 rfl ?_
                      refine r_iconst 126 hX dX8_mayNot_125 (v := 1) (by decide) ?_
                      refine r_icmp_ne 129 136 hX dX8_mayNot_126 (fun c11 => ?_) (fun c11 => ?_)
                      · refine r_iload 138 hX dX8_mayNot_136 rfl ?_
                        refine r_iconst 139 hX dX8_mayNot_138 (v := 3) (by decide) ?_
                        refine r_icmp_ne 142 165 hX dX8_mayNot_139 (fun c12 => ?_) (fun c12 => ?_)
                        · refine r_bipush 167 hX dX8_mayNot_165 (v := 6) (by decide) ?_
                          refine r_iret hX hT dX8_mayNot_167 ?_
                          clear hT hX hR hlX
                          exact ⟨by grind (splits := 30) [mmC_0], rfl⟩
                        · refine r_iload 144 hX dX8_mayNot_142 rfl ?_
                          refine r_iconst 145 hX dX8_mayNot_144 (v := 2) (by decide) ?_
                          refine r_icmp_ne 148 165 hX dX8_mayNot_145 (fun c13 => ?_) (fun c13 => ?_)
                          · refine r_bipush 167 hX dX8_mayNot_165 (v := 6) (by decide) ?_
                            refine r_iret hX hT dX8_mayNot_167 ?_
                            clear hT hX hR hlX
                            exact ⟨by grind (splits := 30) [mmC_0], rfl⟩
                          · refine r_aload_n 149 hX dX8_mayNot_148 rfl ?_
                            refine r_iload_n 150 hX dX8_mayNot_149 rfl ?_
                            refine r_bipush 152 hX dX8_mayNot_150 (v := 26) (by decide) ?_
                            refine r_iload_n 153 hX dX8_mayNot_152 rfl ?_
                            refine r_iadd 154 hX dX8_mayNot_153 ?_
                            refine r_cV2F 157 hX hR (tX8_getV 0 26 32 12 rfl (by decide) (vpP (by assumption))) dX8_mayNot_154 kX8_get lX8_95 rfl rfl rfl rfl rfl rfl ?_
                            refine r_iload_n 158 hX dX8_mayNot_157 rfl ?_
                            refine r_icmp_ne 161 165 hX dX8_mayNot_158 (fun c14 => ?_) (fun c14 => ?_)
                            · refine r_bipush 167 hX dX8_mayNot_165 (v := 6) (by decide) ?_
                              refine r_iret hX hT dX8_mayNot_167 ?_
                              clear hT hX hR hlX
                              exact ⟨by grind (splits := 30) [mmC_0], rfl⟩
                            · refine r_iconst 162 hX dX8_mayNot_161 (v := 0) (by decide) ?_
                              refine r_goto 167 hX dX8_mayNot_162 ?_
                              refine r_iret hX hT dX8_mayNot_167 ?_
                              clear hT hX hR hlX
                              exact ⟨by grind (splits := 30) [mmC_0], rfl⟩
                      · refine r_iload 131 hX dX8_mayNot_129 rfl ?_
                        refine r_if_ne 134 136 hX dX8_mayNot_131 (fun c15 => ?_) (fun c15 => ?_)
                        · refine r_iload 138 hX dX8_mayNot_136 rfl ?_
                          refine r_iconst 139 hX dX8_mayNot_138 (v := 3) (by decide) ?_
                          refine r_icmp_ne 142 165 hX dX8_mayNot_139 (fun c16 => ?_) (fun c16 => ?_)
                          · refine r_bipush 167 hX dX8_mayNot_165 (v := 6) (by decide) ?_
                            refine r_iret hX hT dX8_mayNot_167 ?_
                            clear hT hX hR hlX
                            exact ⟨by grind (splits := 30) [mmC_0], rfl⟩
                          · refine r_iload 144 hX dX8_mayNot_142 rfl ?_
                            refine r_iconst 145 hX dX8_mayNot_144 (v := 2) (by decide) ?_
                            refine r_icmp_ne 148 165 hX dX8_mayNot_145 (fun c17 => ?_) (fun c17 => ?_)
                            · refine r_bipush 167 hX dX8_mayNot_165 (v := 6) (by decide) ?_
                              refine r_iret hX hT dX8_mayNot_167 ?_
                              clear hT hX hR hlX
                              exact ⟨by grind (splits := 30) [mmC_0], rfl⟩
                            · refine r_aload_n 149 hX dX8_mayNot_148 rfl ?_
                              refine r_iload_n 150 hX dX8_mayNot_149 rfl ?_
                              refine r_bipush 152 hX dX8_mayNot_150 (v := 26) (by decide) ?_
                              refine r_iload_n 153 hX dX8_mayNot_152 rfl ?_
                              refine r_iadd 154 hX dX8_mayNot_153 ?_
                              refine r_cV2F 157 hX hR (tX8_getV 0 26 32 12 rfl (by decide) (vpP (by assumption))) dX8_mayNot_154 kX8_get lX8_95 rfl rfl rfl rfl rfl rfl ?_
                              refine r_iload_n 158 hX dX8_mayNot_157 rfl ?_
                              refine r_icmp_ne 161 165 hX dX8_mayNot_158 (fun c18 => ?_) (fun c18 => ?_)
                              · refine r_bipush 167 hX dX8_mayNot_165 (v := 6) (by decide) ?_
                                refine r_iret hX hT dX8_mayNot_167 ?_
                                clear hT hX hR hlX
                                exact ⟨by grind (splits := 30) [mmC_0], rfl⟩
                              · refine r_iconst 162 hX dX8_mayNot_161 (v := 0) (by decide) ?_
                                refine r_goto 167 hX dX8_mayNot_162 ?_
                                refine r_iret hX hT dX8_mayNot_167 ?_
                                clear hT hX hR hlX
                                exact ⟨by grind (splits := 30) [mmC_0], rfl⟩
                        · refine r_iconst 135 hX dX8_mayNot_134 (v := 0) (by decide) ?_
                          refine r_iret hX hT dX8_mayNot_135 ?_
                          clear hT hX hR hlX
                          exact ⟨by grind (splits := 30) [mmC_0], rfl⟩
                    · refine r_iconst 100 hX dX8_mayNot_99 (v := 5) (by decide) ?_
                      refine r_iret hX hT dX8_mayNot_100 ?_
                      clear hT hX hR hlX
                      exact ⟨by grind (splits := 30) [mmC_0], rfl⟩
                  · refine r_iconst 83 hX dX8_mayNot_82 (v := 4) (by decide) ?_
                    refine r_iret hX hT dX8_mayNot_83 ?_
                    clear hT hX hR hlX
                    exact ⟨by grind (splits := 30) [mmC_0], rfl⟩
            · refine r_iconst 51 hX dX8_mayNot_50 (v := 3) (by decide) ?_
              refine r_iret hX hT dX8_mayNot_51 ?_
              clear hT hX hR hlX
              exact ⟨by grind (splits := 30) [mmC_0], rfl⟩
        · refine r_iconst 29 hX dX8_mayNot_28 (v := 2) (by decide) ?_
          refine r_iret hX hT dX8_mayNot_29 ?_
          clear hT hX hR hlX
          exact ⟨by grind (splits := 30) [mmC_0], rfl⟩
  · refine r_iconst 8 hX dX8_mayNot_7 (v := 1) (by decide) ?_
    refine r_iret hX hT dX8_mayNot_8 ?_
    clear hT hX hR hlX
    exact ⟨by grind (splits := 30) [mmC_0], rfl⟩
set_option maxRecDepth 100000 in
set_option maxHeartbeats 4000000 in
theorem tX8_may_0 {l : Launch} {G : mx_G} {a b : Int32} {M : mx_Mem} : mx_Met l G yX8_may cX8_may 4 ((some FieldType.int)) 3 70 [.ref 46, .int 0, .int a, .int b] M (mx_F (some (.int (mmC_0 M a b))) (th0 M)) := by
  refine mx_enter (own := RX8) (L := [.ref 46, .int 0, .int a, .int b]) (by decide +kernel) rfl rfl rfl ?_
  intro X hlX hX hR hT
  refine r_aload_n 1 hX dX8_may_0 rfl ?_
  refine r_iconst 2 hX dX8_may_1 (v := 0) (by decide) ?_
  refine r_putI 5 hX dX8_may_2 fX8_63 fp8_13 rfl rfl rfl ?_
  refine r_iload_n 6 hX dX8_may_5 rfl ?_
  refine r_cS1F 9 hX hR tX8_isTeam_0 dX8_may_6 kX8_isTeam lX8_71 rfl rfl rfl ?_
  refine r_if_eq 12 22 hX dX8_may_9 (fun c => absurd c (by decide)) (fun _ => ?_)
  refine r_aload_n 13 hX dX8_may_12 rfl ?_
  refine r_iload_n 14 hX dX8_may_13 rfl ?_
  refine r_iload_n 15 hX dX8_may_14 rfl ?_
  refine r_iload_n 16 hX dX8_may_15 rfl ?_
  refine r_cV3F 19 hX hR tX8_mayNot_0 dX8_may_16 kX8_mayNot lX8_120 rfl rfl rfl rfl rfl rfl ?_
  refine r_goto 23 hX dX8_may_19 ?_
  refine r_iret hX hT dX8_may_23 ?_
  exact ⟨rfl, rfl⟩
def mdc_0 (M : mx_Mem) (a b : Int32) : mx_Mem :=
  let N1 := mI M 52 ((plc (mpl_0 M) a).toNatClampNeg + 14) b
  let N2 := if M.1 52 (a.toNatClampNeg + 20) = 3 then mI (mI N1 52 (a.toNatClampNeg + 20) 4) 52 (b.toNatClampNeg + 20) 4 else mI (mI N1 52 (a.toNatClampNeg + 20) 2) 52 (b.toNatClampNeg + 20) 3
  let N3 := mI (mI N2 52 (a.toNatClampNeg + 32) b) 52 (b.toNatClampNeg + 32) a
  mI N3 52 8 (N3.1 52 8 + 1)
set_option maxRecDepth 100000 in
set_option maxHeartbeats 4000000 in
theorem tX8_doChange_0 {l : Launch} {G : mx_G} {a b : Int32} {M : mx_Mem} (ha : isP a) (hb : isP b) (h1 : ¬ plc (mpl_0 M) a = -1) : mx_Met l G yX8_doChange cX8_doChange 6 ((some FieldType.int)) 2 45 [.ref 46, .int 0, .int a, .int b] M (mx_F (some (.int (plc (mpl_0 M) a))) (mdc_0 M a b)) := by
  refine mx_enter (own := RX8) (L := [.ref 46, .int 0, .int a, .int b, .null, .null]) (by decide +kernel) rfl rfl rfl ?_
  intro X hlX hX hR hT
  refine r_aload_n 1 hX dX8_doChange_0 rfl ?_
  refine r_iload_n 2 hX dX8_doChange_1 rfl ?_
  refine r_iload_n 3 hX dX8_doChange_2 rfl ?_
  refine r_cV2F 6 hX hR tX8_placeOf_0 dX8_doChange_3 kX8_placeOf lX8_117 rfl rfl rfl rfl rfl rfl ?_
  refine r_istore 8 hX dX8_doChange_6 rfl ?_
  refine r_aload_n 9 hX dX8_doChange_8 rfl ?_
  refine r_iload_n 10 hX dX8_doChange_9 rfl ?_
  refine r_bipush 12 hX dX8_doChange_10 (v := 14) (by decide) ?_
  refine r_iload_n 13 hX dX8_doChange_12 rfl ?_
  refine r_iadd 14 hX dX8_doChange_13 ?_
  refine r_cV2F 17 hX hR (tX8_getV 0 14 20 12 rfl (by decide) (vpP ha)) dX8_doChange_14 kX8_get lX8_95 rfl rfl rfl rfl rfl rfl ?_
  refine r_iconst 18 hX dX8_doChange_17 (v := 3) (by decide) ?_
  refine r_icmp_ne 21 25 hX dX8_doChange_18 (fun c1 => ?_) (fun c1 => ?_)
  · refine r_iconst 26 hX dX8_doChange_25 (v := 0) (by decide) ?_
    refine r_istore 28 hX dX8_doChange_26 rfl ?_
    refine r_aload_n 29 hX dX8_doChange_28 rfl ?_
    refine r_iload_n 30 hX dX8_doChange_29 rfl ?_
    refine r_bipush 32 hX dX8_doChange_30 (v := 8) (by decide) ?_
    refine r_iload 34 hX dX8_doChange_32 rfl ?_
    refine r_iadd 35 hX dX8_doChange_34 ?_
    refine r_iload_n 36 hX dX8_doChange_35 rfl ?_
    refine r_cV3U 39 hX hR (tX8_putV 0 8 14 6 rfl (by decide) (plc_in _ _ h1)) dX8_doChange_36 kX8_put lX8_56 rfl rfl rfl rfl rfl rfl ?_
    refine r_aload_n 40 hX dX8_doChange_39 rfl ?_
    refine r_iload_n 41 hX dX8_doChange_40 rfl ?_
    refine r_bipush 43 hX dX8_doChange_41 (v := 14) (by decide) ?_
    refine r_iload_n 44 hX dX8_doChange_43 rfl ?_
    refine r_iadd 45 hX dX8_doChange_44 ?_
    refine r_iload 47 hX dX8_doChange_45 rfl ?_
    refine r_if_eq 50 54 hX dX8_doChange_47 (fun _ => ?_) (fun c => absurd c (by decide))
    refine r_iconst 55 hX dX8_doChange_54 (v := 2) (by decide) ?_
    refine r_cV3U 58 hX hR (tX8_putV 0 14 20 12 rfl (by decide) (vpP ha)) dX8_doChange_55 kX8_put lX8_56 rfl rfl rfl rfl rfl rfl ?_
    refine r_aload_n 59 hX dX8_doChange_58 rfl ?_
    refine r_iload_n 60 hX dX8_doChange_59 rfl ?_
    refine r_bipush 62 hX dX8_doChange_60 (v := 14) (by decide) ?_
    refine r_iload_n 63 hX dX8_doChange_62 rfl ?_
    refine r_iadd 64 hX dX8_doChange_63 ?_
    refine r_iload 66 hX dX8_doChange_64 rfl ?_
    refine r_if_eq 69 73 hX dX8_doChange_66 (fun _ => ?_) (fun c => absurd c (by decide))
    refine r_iconst 74 hX dX8_doChange_73 (v := 3) (by decide) ?_
    refine r_cV3U 77 hX hR (tX8_putV 0 14 20 12 rfl (by decide) (vpP hb)) dX8_doChange_74 kX8_put lX8_56 rfl rfl rfl rfl rfl rfl ?_
    refine r_aload_n 78 hX dX8_doChange_77 rfl ?_
    refine r_iload_n 79 hX dX8_doChange_78 rfl ?_
    refine r_bipush 81 hX dX8_doChange_79 (v := 26) (by decide) ?_
    refine r_iload_n 82 hX dX8_doChange_81 rfl ?_
    refine r_iadd 83 hX dX8_doChange_82 ?_
    refine r_iload_n 84 hX dX8_doChange_83 rfl ?_
    refine r_cV3U 87 hX hR (tX8_putV 0 26 32 12 rfl (by decide) (vpP ha)) dX8_doChange_84 kX8_put lX8_56 rfl rfl rfl rfl rfl rfl ?_
    refine r_aload_n 88 hX dX8_doChange_87 rfl ?_
    refine r_iload_n 89 hX dX8_doChange_88 rfl ?_
    refine r_bipush 91 hX dX8_doChange_89 (v := 26) (by decide) ?_
    refine r_iload_n 92 hX dX8_doChange_91 rfl ?_
    refine r_iadd 93 hX dX8_doChange_92 ?_
    refine r_iload_n 94 hX dX8_doChange_93 rfl ?_
    refine r_cV3U 97 hX hR (tX8_putV 0 26 32 12 rfl (by decide) (vpP hb)) dX8_doChange_94 kX8_put lX8_56 rfl rfl rfl rfl rfl rfl ?_
    refine r_aload_n 98 hX dX8_doChange_97 rfl ?_
    refine r_iload_n 99 hX dX8_doChange_98 rfl ?_
    refine r_iconst 100 hX dX8_doChange_99 (v := 2) (by decide) ?_
    refine r_aload_n 101 hX dX8_doChange_100 rfl ?_
    refine r_iload_n 102 hX dX8_doChange_101 rfl ?_
    refine r_iconst 103 hX dX8_doChange_102 (v := 2) (by decide) ?_
    refine r_cV2F 106 hX hR (tX8_get (t := 0) (k := 2) (n := 8) rfl (by decide)) dX8_doChange_103 kX8_get lX8_95 rfl rfl rfl rfl rfl rfl ?_
    refine r_iconst 107 hX dX8_doChange_106 (v := 1) (by decide) ?_
    refine r_iadd 108 hX dX8_doChange_107 ?_
    refine r_cV3U 111 hX hR (tX8_put (t := 0) (k := 2) (n := 8) rfl (by decide)) dX8_doChange_108 kX8_put lX8_56 rfl rfl rfl rfl rfl rfl ?_
    refine r_iload 113 hX dX8_doChange_111 rfl ?_
    refine r_iret hX hT dX8_doChange_113 ?_
    refine ⟨rfl, ?_⟩
    unfold mdc_0
    first | (simp only [if_pos c1]; done) | (simp only [if_neg c1]; done)
  · refine r_iconst 22 hX dX8_doChange_21 (v := 1) (by decide) ?_
    refine r_goto 26 hX dX8_doChange_22 ?_
    refine r_istore 28 hX dX8_doChange_26 rfl ?_
    refine r_aload_n 29 hX dX8_doChange_28 rfl ?_
    refine r_iload_n 30 hX dX8_doChange_29 rfl ?_
    refine r_bipush 32 hX dX8_doChange_30 (v := 8) (by decide) ?_
    refine r_iload 34 hX dX8_doChange_32 rfl ?_
    refine r_iadd 35 hX dX8_doChange_34 ?_
    refine r_iload_n 36 hX dX8_doChange_35 rfl ?_
    refine r_cV3U 39 hX hR (tX8_putV 0 8 14 6 rfl (by decide) (plc_in _ _ h1)) dX8_doChange_36 kX8_put lX8_56 rfl rfl rfl rfl rfl rfl ?_
    refine r_aload_n 40 hX dX8_doChange_39 rfl ?_
    refine r_iload_n 41 hX dX8_doChange_40 rfl ?_
    refine r_bipush 43 hX dX8_doChange_41 (v := 14) (by decide) ?_
    refine r_iload_n 44 hX dX8_doChange_43 rfl ?_
    refine r_iadd 45 hX dX8_doChange_44 ?_
    refine r_iload 47 hX dX8_doChange_45 rfl ?_
    refine r_if_eq 50 54 hX dX8_doChange_47 (fun c => absurd c (by decide)) (fun _ => ?_)
    refine r_iconst 51 hX dX8_doChange_50 (v := 4) (by decide) ?_
    refine r_goto 55 hX dX8_doChange_51 ?_
    refine r_cV3U 58 hX hR (tX8_putV 0 14 20 12 rfl (by decide) (vpP ha)) dX8_doChange_55 kX8_put lX8_56 rfl rfl rfl rfl rfl rfl ?_
    refine r_aload_n 59 hX dX8_doChange_58 rfl ?_
    refine r_iload_n 60 hX dX8_doChange_59 rfl ?_
    refine r_bipush 62 hX dX8_doChange_60 (v := 14) (by decide) ?_
    refine r_iload_n 63 hX dX8_doChange_62 rfl ?_
    refine r_iadd 64 hX dX8_doChange_63 ?_
    refine r_iload 66 hX dX8_doChange_64 rfl ?_
    refine r_if_eq 69 73 hX dX8_doChange_66 (fun c => absurd c (by decide)) (fun _ => ?_)
    refine r_iconst 70 hX dX8_doChange_69 (v := 4) (by decide) ?_
    refine r_goto 74 hX dX8_doChange_70 ?_
    refine r_cV3U 77 hX hR (tX8_putV 0 14 20 12 rfl (by decide) (vpP hb)) dX8_doChange_74 kX8_put lX8_56 rfl rfl rfl rfl rfl rfl ?_
    refine r_aload_n 78 hX dX8_doChange_77 rfl ?_
    refine r_iload_n 79 hX dX8_doChange_78 rfl ?_
    refine r_bipush 81 hX dX8_doChange_79 (v := 26) (by decide) ?_
    refine r_iload_n 82 hX dX8_doChange_81 rfl ?_
    refine r_iadd 83 hX dX8_doChange_82 ?_
    refine r_iload_n 84 hX dX8_doChange_83 rfl ?_
    refine r_cV3U 87 hX hR (tX8_putV 0 26 32 12 rfl (by decide) (vpP ha)) dX8_doChange_84 kX8_put lX8_56 rfl rfl rfl rfl rfl rfl ?_
    refine r_aload_n 88 hX dX8_doChange_87 rfl ?_
    refine r_iload_n 89 hX dX8_doChange_88 rfl ?_
    refine r_bipush 91 hX dX8_doChange_89 (v := 26) (by decide) ?_
    refine r_iload_n 92 hX dX8_doChange_91 rfl ?_
    refine r_iadd 93 hX dX8_doChange_92 ?_
    refine r_iload_n 94 hX dX8_doChange_93 rfl ?_
    refine r_cV3U 97 hX hR (tX8_putV 0 26 32 12 rfl (by decide) (vpP hb)) dX8_doChange_94 kX8_put lX8_56 rfl rfl rfl rfl rfl rfl ?_
    refine r_aload_n 98 hX dX8_doChange_97 rfl ?_
    refine r_iload_n 99 hX dX8_doChange_98 rfl ?_
    refine r_iconst 100 hX dX8_doChange_99 (v := 2) (by decide) ?_
    refine r_aload_n 101 hX dX8_doChange_100 rfl ?_
    refine r_iload_n 102 hX dX8_doChange_101 rfl ?_
    refine r_iconst 103 hX dX8_doChange_102 (v := 2) (by decide) ?_
    refine r_cV2F 106 hX hR (tX8_get (t := 0) (k := 2) (n := 8) rfl (by decide)) dX8_doChange_103 kX8_get lX8_95 rfl rfl rfl rfl rfl rfl ?_
    refine r_iconst 107 hX dX8_doChange_106 (v := 1) (by decide) ?_
    refine r_iadd 108 hX dX8_doChange_107 ?_
    refine r_cV3U 111 hX hR (tX8_put (t := 0) (k := 2) (n := 8) rfl (by decide)) dX8_doChange_108 kX8_put lX8_56 rfl rfl rfl rfl rfl rfl ?_
    refine r_iload 113 hX dX8_doChange_111 rfl ?_
    refine r_iret hX hT dX8_doChange_113 ?_
    refine ⟨rfl, ?_⟩
    unfold mdc_0
    first | (simp only [if_pos c1]; done) | (simp only [if_neg c1]; done)
theorem mmC_0_0 {M : mx_Mem} {a b : Int32} (h : mmC_0 M a b = 0) : isP a ∧ isP b ∧ ¬ plc (mpl_0 M) a = -1 := by
  grind (splits := 30) [mmC_0]
set_option maxRecDepth 100000 in
set_option maxHeartbeats 4000000 in
theorem tX8_change_0 {l : Launch} {G : mx_G} {a b : Int32} {M : mx_Mem} : mx_Met l G yX8_change cX8_change 4 ((some FieldType.int)) 3 70 [.ref 46, .int 0, .int a, .int b] M (mx_F (some (.int (if mmC_0 (th0 M) a b = 0 then plc (mpl_0 (th0 M)) a else -1))) (if mmC_0 (th0 M) a b = 0 then mdc_0 (th0 M) a b else th0 M)) := by
  refine mx_enter (own := RX8) (L := [.ref 46, .int 0, .int a, .int b]) (by decide +kernel) rfl rfl rfl ?_
  intro X hlX hX hR hT
  refine r_aload_n 1 hX dX8_change_0 rfl ?_
  refine r_iconst 2 hX dX8_change_1 (v := 0) (by decide) ?_
  refine r_putI 5 hX dX8_change_2 fX8_63 fp8_13 rfl rfl rfl ?_
  refine r_iload_n 6 hX dX8_change_5 rfl ?_
  refine r_cS1F 9 hX hR tX8_isTeam_0 dX8_change_6 kX8_isTeam lX8_71 rfl rfl rfl ?_
  refine r_if_eq 12 32 hX dX8_change_9 (fun c => absurd c (by decide)) (fun _ => ?_)
  refine r_aload_n 13 hX dX8_change_12 rfl ?_
  refine r_iload_n 14 hX dX8_change_13 rfl ?_
  refine r_iload_n 15 hX dX8_change_14 rfl ?_
  refine r_iload_n 16 hX dX8_change_15 rfl ?_
  refine r_cV3F 19 hX hR tX8_mayNot_0 dX8_change_16 kX8_mayNot lX8_120 rfl rfl rfl rfl rfl rfl ?_
  refine r_if_ne 22 32 hX dX8_change_19 (fun c1 => ?_) (fun c1 => ?_)
  · refine r_iconst 33 hX dX8_change_32 (v := -1) (by decide) ?_
    refine r_iret hX hT dX8_change_33 ?_
    first | (rw [if_neg c1, if_neg c1]; exact ⟨rfl, rfl⟩) | (rw [if_pos c1, if_pos c1]; exact ⟨rfl, rfl⟩)
  · refine r_aload_n 23 hX dX8_change_22 rfl ?_
    refine r_iload_n 24 hX dX8_change_23 rfl ?_
    refine r_iload_n 25 hX dX8_change_24 rfl ?_
    refine r_iload_n 26 hX dX8_change_25 rfl ?_
    refine r_cV3F 29 hX hR (tX8_doChange_0 (mmC_0_0 c1).1 (mmC_0_0 c1).2.1 (mmC_0_0 c1).2.2) dX8_change_26 kX8_doChange lX8_123 rfl rfl rfl rfl rfl rfl ?_
    refine r_goto 33 hX dX8_change_29 ?_
    refine r_iret hX hT dX8_change_33 ?_
    first | (rw [if_neg c1, if_neg c1]; exact ⟨rfl, rfl⟩) | (rw [if_pos c1, if_pos c1]; exact ⟨rfl, rfl⟩)
def mfC_0 (M : mx_Mem) : Prop := M.1 52 1 = 1 ∧ ¬ M.1 48 0 = -1 ∧ ¬ M.1 52 13 = 1
def mfF_0 (M : mx_Mem) : mx_Mem := mI (mI (mI M 52 ((plc (mpl_0 M) (M.1 48 0)).toNatClampNeg + 14) (M.1 52 10)) 52 10 (-1)) 52 13 1
def mfN_0 (M : mx_Mem) (p : Int32) : mx_Mem := mI (mI (mI M 52 ((plc (mpl_0 M) p).toNatClampNeg + 14) (M.1 48 0)) 52 10 p) 52 13 1
set_option maxRecDepth 100000 in
set_option maxHeartbeats 4000000 in
theorem tX8_doFree_0 {l : Launch} {G : mx_G} {p : Int32} {M : mx_Mem} (hf : ¬ M.1 52 10 = -1 → ¬ plc (mpl_0 M) (M.1 48 0) = -1) : mx_Met l G yX8_doFree cX8_doFree 4 ((some FieldType.int)) 2 45 [.ref 46, .int 0, .int p] M (fun r M' => (¬ mfC_0 M ∧ r = some (.int (-1)) ∧ M' = M) ∨ (mfC_0 M ∧ ((p = -1 ∧ M.1 52 10 = -1 ∧ r = some (.int (-1)) ∧ M' = M) ∨ (p = -1 ∧ ¬ M.1 52 10 = -1 ∧ r = some (.int (plc (mpl_0 M) (M.1 48 0))) ∧ M' = mfF_0 M) ∨ (¬ p = -1 ∧ (isP p ∧ M.1 52 10 = -1 ∧ (plc (mpl_0 M) p = 4 ∨ plc (mpl_0 M) p = 5)) ∧ r = some (.int (plc (mpl_0 M) p)) ∧ M' = mfN_0 M p) ∨ (¬ p = -1 ∧ ¬ (isP p ∧ M.1 52 10 = -1 ∧ (plc (mpl_0 M) p = 4 ∨ plc (mpl_0 M) p = 5)) ∧ r = some (.int (-1)) ∧ M' = M)))) := by
  refine mx_enter (own := RX8) (L := [.ref 46, .int 0, .int p, .null]) (by decide +kernel) rfl rfl rfl ?_
  intro X hlX hX hR hT
  refine r_aload_n 1 hX dX8_doFree_0 rfl ?_
  refine r_cV0F 4 hX hR tX8_isOn dX8_doFree_1 kX8_isOn lX8_82 rfl rfl rfl rfl rfl rfl ?_
  refine r_Beq 7 28 hX dX8_doFree_4 (fun c1 => ?_) (fun c1 => ?_)
  · refine r_iconst 29 hX dX8_doFree_28 (v := -1) (by decide) ?_
    refine r_iret hX hT dX8_doFree_29 ?_
    exact Or.inl ⟨fun h => by obtain ⟨h1, h2, h3⟩ := h; contradiction, rfl, rfl⟩
  · refine r_aload_n 8 hX dX8_doFree_7 rfl ?_
    refine r_getR 11 hX dX8_doFree_8 fX8_13 rfl rfl rfl ?_
    refine r_iload_n 12 hX dX8_doFree_11 rfl ?_
    refine r_ialdK 13 hX dX8_doFree_12 rfl rfl (vpK rfl) (j := 0) (by decide) ?_
    refine r_iconst 14 hX dX8_doFree_13 (v := -1) (by decide) ?_
    refine r_icmp_eq 17 28 hX dX8_doFree_14 (fun c2 => ?_) (fun c2 => ?_)
    · refine r_iconst 29 hX dX8_doFree_28 (v := -1) (by decide) ?_
      refine r_iret hX hT dX8_doFree_29 ?_
      exact Or.inl ⟨fun h => by obtain ⟨h1, h2, h3⟩ := h; contradiction, rfl, rfl⟩
    · refine r_aload_n 18 hX dX8_doFree_17 rfl ?_
      refine r_iload_n 19 hX dX8_doFree_18 rfl ?_
      refine r_bipush 21 hX dX8_doFree_19 (v := 7) (by decide) ?_
      refine r_cV2F 24 hX hR (tX8_get (t := 0) (k := 7) (n := 13) rfl (by decide)) dX8_doFree_21 kX8_get lX8_95 rfl rfl rfl rfl rfl rfl ?_
      refine r_iconst 25 hX dX8_doFree_24 (v := 1) (by decide) ?_
      refine r_icmp_ne 28 30 hX dX8_doFree_25 (fun c3 => ?_) (fun c3 => ?_)
      · refine r_iload_n 31 hX dX8_doFree_30 rfl ?_
        refine r_iconst 32 hX dX8_doFree_31 (v := -1) (by decide) ?_
        refine r_icmp_ne 35 84 hX dX8_doFree_32 (fun c4 => ?_) (fun c4 => ?_)
        · refine r_iload_n 85 hX dX8_doFree_84 rfl ?_
          refine r_cS1F 88 hX hR tX8_isPlayer dX8_doFree_85 kX8_isPlayer lX8_75 rfl rfl rfl ?_
          refine r_Beq 91 101 hX dX8_doFree_88 (fun c5 => ?_) (fun c5 => ?_)
          · refine r_iconst 102 hX dX8_doFree_101 (v := -1) (by decide) ?_
            refine r_iret hX hT dX8_doFree_102 ?_
            exact Or.inr ⟨⟨c1, c2, c3⟩, Or.inr (Or.inr (Or.inr ⟨c4, fun h => by obtain ⟨h1, h2, h3⟩ := h; contradiction, rfl, rfl⟩))⟩
          · refine r_aload_n 92 hX dX8_doFree_91 rfl ?_
            refine r_iload_n 93 hX dX8_doFree_92 rfl ?_
            refine r_iconst 94 hX dX8_doFree_93 (v := 4) (by decide) ?_
            refine r_cV2F 97 hX hR (tX8_get (t := 0) (k := 4) (n := 10) rfl (by decide)) dX8_doFree_94 kX8_get lX8_95 rfl rfl rfl rfl rfl rfl ?_
            refine r_iconst 98 hX dX8_doFree_97 (v := -1) (by decide) ?_
            refine r_icmp_eq 101 103 hX dX8_doFree_98 (fun c6 => ?_) (fun c6 => ?_)
            · refine r_aload_n 104 hX dX8_doFree_103 rfl ?_
              refine r_iload_n 105 hX dX8_doFree_104 rfl ?_
              refine r_iload_n 106 hX dX8_doFree_105 rfl ?_
              refine r_cV2F 109 hX hR tX8_placeOf_0 dX8_doFree_106 kX8_placeOf lX8_117 rfl rfl rfl rfl rfl rfl ?_
              refine r_istore_n 110 hX dX8_doFree_109 rfl ?_
              refine r_iload_n 111 hX dX8_doFree_110 rfl ?_
              refine r_iconst 112 hX dX8_doFree_111 (v := 4) (by decide) ?_
              refine r_icmp_eq 115 122 hX dX8_doFree_112 (fun c7 => ?_) (fun c7 => ?_)
              · refine r_aload_n 123 hX dX8_doFree_122 rfl ?_
                refine r_iload_n 124 hX dX8_doFree_123 rfl ?_
                refine r_bipush 126 hX dX8_doFree_124 (v := 8) (by decide) ?_
                refine r_iload_n 127 hX dX8_doFree_126 rfl ?_
                refine r_iadd 128 hX dX8_doFree_127 ?_
                refine r_aload_n 129 hX dX8_doFree_128 rfl ?_
                refine r_getR 132 hX dX8_doFree_129 fX8_13 rfl rfl rfl ?_
                refine r_iload_n 133 hX dX8_doFree_132 rfl ?_
                refine r_ialdK 134 hX dX8_doFree_133 rfl rfl (vpK rfl) (j := 0) (by decide) ?_
                refine r_cV3U 137 hX hR (tX8_putV 0 8 14 6 rfl (by decide) (plc_in _ _ (fun h8 => by first | exact absurd (h8.symm.trans c7) (by decide) | exact absurd (h8.symm.trans c8) (by decide)))) dX8_doFree_134 kX8_put lX8_56 rfl rfl rfl rfl rfl rfl ?_
                refine r_aload_n 138 hX dX8_doFree_137 rfl ?_
                refine r_iload_n 139 hX dX8_doFree_138 rfl ?_
                refine r_iconst 140 hX dX8_doFree_139 (v := 4) (by decide) ?_
                refine r_iload_n 141 hX dX8_doFree_140 rfl ?_
                refine r_cV3U 144 hX hR (tX8_put (t := 0) (k := 4) (n := 10) rfl (by decide)) dX8_doFree_141 kX8_put lX8_56 rfl rfl rfl rfl rfl rfl ?_
                refine r_aload_n 145 hX dX8_doFree_144 rfl ?_
                refine r_iload_n 146 hX dX8_doFree_145 rfl ?_
                refine r_bipush 148 hX dX8_doFree_146 (v := 7) (by decide) ?_
                refine r_iconst 149 hX dX8_doFree_148 (v := 1) (by decide) ?_
                refine r_cV3U 152 hX hR (tX8_put (t := 0) (k := 7) (n := 13) rfl (by decide)) dX8_doFree_149 kX8_put lX8_56 rfl rfl rfl rfl rfl rfl ?_
                refine r_iload_n 153 hX dX8_doFree_152 rfl ?_
                refine r_iret hX hT dX8_doFree_153 ?_
                first | exact Or.inr ⟨⟨c1, c2, c3⟩, Or.inr (Or.inl ⟨c4, c5, rfl, rfl⟩)⟩ | exact Or.inr ⟨⟨c1, c2, c3⟩, Or.inr (Or.inr (Or.inl ⟨c4, ⟨c5, c6, by first | exact Or.inl (by assumption) | exact Or.inr (by assumption)⟩, rfl, rfl⟩))⟩
              · refine r_iload_n 116 hX dX8_doFree_115 rfl ?_
                refine r_iconst 117 hX dX8_doFree_116 (v := 5) (by decide) ?_
                refine r_icmp_eq 120 122 hX dX8_doFree_117 (fun c8 => ?_) (fun c8 => ?_)
                · refine r_aload_n 123 hX dX8_doFree_122 rfl ?_
                  refine r_iload_n 124 hX dX8_doFree_123 rfl ?_
                  refine r_bipush 126 hX dX8_doFree_124 (v := 8) (by decide) ?_
                  refine r_iload_n 127 hX dX8_doFree_126 rfl ?_
                  refine r_iadd 128 hX dX8_doFree_127 ?_
                  refine r_aload_n 129 hX dX8_doFree_128 rfl ?_
                  refine r_getR 132 hX dX8_doFree_129 fX8_13 rfl rfl rfl ?_
                  refine r_iload_n 133 hX dX8_doFree_132 rfl ?_
                  refine r_ialdK 134 hX dX8_doFree_133 rfl rfl (vpK rfl) (j := 0) (by decide) ?_
                  refine r_cV3U 137 hX hR (tX8_putV 0 8 14 6 rfl (by decide) (plc_in _ _ (fun h8 => by first | exact absurd (h8.symm.trans c7) (by decide) | exact absurd (h8.symm.trans c8) (by decide)))) dX8_doFree_134 kX8_put lX8_56 rfl rfl rfl rfl rfl rfl ?_
                  refine r_aload_n 138 hX dX8_doFree_137 rfl ?_
                  refine r_iload_n 139 hX dX8_doFree_138 rfl ?_
                  refine r_iconst 140 hX dX8_doFree_139 (v := 4) (by decide) ?_
                  refine r_iload_n 141 hX dX8_doFree_140 rfl ?_
                  refine r_cV3U 144 hX hR (tX8_put (t := 0) (k := 4) (n := 10) rfl (by decide)) dX8_doFree_141 kX8_put lX8_56 rfl rfl rfl rfl rfl rfl ?_
                  refine r_aload_n 145 hX dX8_doFree_144 rfl ?_
                  refine r_iload_n 146 hX dX8_doFree_145 rfl ?_
                  refine r_bipush 148 hX dX8_doFree_146 (v := 7) (by decide) ?_
                  refine r_iconst 149 hX dX8_doFree_148 (v := 1) (by decide) ?_
                  refine r_cV3U 152 hX hR (tX8_put (t := 0) (k := 7) (n := 13) rfl (by decide)) dX8_doFree_149 kX8_put lX8_56 rfl rfl rfl rfl rfl rfl ?_
                  refine r_iload_n 153 hX dX8_doFree_152 rfl ?_
                  refine r_iret hX hT dX8_doFree_153 ?_
                  first | exact Or.inr ⟨⟨c1, c2, c3⟩, Or.inr (Or.inl ⟨c4, c5, rfl, rfl⟩)⟩ | exact Or.inr ⟨⟨c1, c2, c3⟩, Or.inr (Or.inr (Or.inl ⟨c4, ⟨c5, c6, by first | exact Or.inl (by assumption) | exact Or.inr (by assumption)⟩, rfl, rfl⟩))⟩
                · refine r_iconst 121 hX dX8_doFree_120 (v := -1) (by decide) ?_
                  refine r_iret hX hT dX8_doFree_121 ?_
                  exact Or.inr ⟨⟨c1, c2, c3⟩, Or.inr (Or.inr (Or.inr ⟨c4, fun h => by obtain ⟨h1, h2, h3 | h3⟩ := h <;> contradiction, rfl, rfl⟩))⟩
            · refine r_iconst 102 hX dX8_doFree_101 (v := -1) (by decide) ?_
              refine r_iret hX hT dX8_doFree_102 ?_
              exact Or.inr ⟨⟨c1, c2, c3⟩, Or.inr (Or.inr (Or.inr ⟨c4, fun h => by obtain ⟨h1, h2, h3⟩ := h; contradiction, rfl, rfl⟩))⟩
        · refine r_aload_n 36 hX dX8_doFree_35 rfl ?_
          refine r_iload_n 37 hX dX8_doFree_36 rfl ?_
          refine r_iconst 38 hX dX8_doFree_37 (v := 4) (by decide) ?_
          refine r_cV2F 41 hX hR (tX8_get (t := 0) (k := 4) (n := 10) rfl (by decide)) dX8_doFree_38 kX8_get lX8_95 rfl rfl rfl rfl rfl rfl ?_
          refine r_iconst 42 hX dX8_doFree_41 (v := -1) (by decide) ?_
          refine r_icmp_ne 45 47 hX dX8_doFree_42 (fun c5 => ?_) (fun c5 => ?_)
          · refine r_aload_n 48 hX dX8_doFree_47 rfl ?_
            refine r_iload_n 49 hX dX8_doFree_48 rfl ?_
            refine r_aload_n 50 hX dX8_doFree_49 rfl ?_
            refine r_getR 53 hX dX8_doFree_50 fX8_13 rfl rfl rfl ?_
            refine r_iload_n 54 hX dX8_doFree_53 rfl ?_
            refine r_ialdK 55 hX dX8_doFree_54 rfl rfl (vpK rfl) (j := 0) (by decide) ?_
            refine r_cV2F 58 hX hR tX8_placeOf_0 dX8_doFree_55 kX8_placeOf lX8_117 rfl rfl rfl rfl rfl rfl ?_
            refine r_istore_n 59 hX dX8_doFree_58 rfl ?_
            refine r_aload_n 60 hX dX8_doFree_59 rfl ?_
            refine r_iload_n 61 hX dX8_doFree_60 rfl ?_
            refine r_bipush 63 hX dX8_doFree_61 (v := 8) (by decide) ?_
            refine r_iload_n 64 hX dX8_doFree_63 rfl ?_
            refine r_iadd 65 hX dX8_doFree_64 ?_
            refine r_aload_n 66 hX dX8_doFree_65 rfl ?_
            refine r_iload_n 67 hX dX8_doFree_66 rfl ?_
            refine r_iconst 68 hX dX8_doFree_67 (v := 4) (by decide) ?_
            refine r_cV2F 71 hX hR (tX8_get (t := 0) (k := 4) (n := 10) rfl (by decide)) dX8_doFree_68 kX8_get lX8_95 rfl rfl rfl rfl rfl rfl ?_
            refine r_cV3U 74 hX hR (tX8_putV 0 8 14 6 rfl (by decide) (plc_in _ _ (hf c5))) dX8_doFree_71 kX8_put lX8_56 rfl rfl rfl rfl rfl rfl ?_
            refine r_aload_n 75 hX dX8_doFree_74 rfl ?_
            refine r_iload_n 76 hX dX8_doFree_75 rfl ?_
            refine r_iconst 77 hX dX8_doFree_76 (v := 4) (by decide) ?_
            refine r_iconst 78 hX dX8_doFree_77 (v := -1) (by decide) ?_
            refine r_cV3U 81 hX hR (tX8_put (t := 0) (k := 4) (n := 10) rfl (by decide)) dX8_doFree_78 kX8_put lX8_56 rfl rfl rfl rfl rfl rfl ?_
            refine r_goto 144 hX dX8_doFree_81 ?_
            refine r_aload_n 145 hX dX8_doFree_144 rfl ?_
            refine r_iload_n 146 hX dX8_doFree_145 rfl ?_
            refine r_bipush 148 hX dX8_doFree_146 (v := 7) (by decide) ?_
            refine r_iconst 149 hX dX8_doFree_148 (v := 1) (by decide) ?_
            refine r_cV3U 152 hX hR (tX8_put (t := 0) (k := 7) (n := 13) rfl (by decide)) dX8_doFree_149 kX8_put lX8_56 rfl rfl rfl rfl rfl rfl ?_
            refine r_iload_n 153 hX dX8_doFree_152 rfl ?_
            refine r_iret hX hT dX8_doFree_153 ?_
            first | exact Or.inr ⟨⟨c1, c2, c3⟩, Or.inr (Or.inl ⟨c4, c5, rfl, rfl⟩)⟩ | exact Or.inr ⟨⟨c1, c2, c3⟩, Or.inr (Or.inr (Or.inl ⟨c4, ⟨c5, c6, by first | exact Or.inl (by assumption) | exact Or.inr (by assumption)⟩, rfl, rfl⟩))⟩
          · refine r_iconst 46 hX dX8_doFree_45 (v := -1) (by decide) ?_
            refine r_iret hX hT dX8_doFree_46 ?_
            exact Or.inr ⟨⟨c1, c2, c3⟩, Or.inl ⟨c4, c5, rfl, rfl⟩⟩
      · refine r_iconst 29 hX dX8_doFree_28 (v := -1) (by decide) ?_
        refine r_iret hX hT dX8_doFree_29 ?_
        exact Or.inl ⟨fun h => by obtain ⟨h1, h2, h3⟩ := h; contradiction, rfl, rfl⟩
set_option maxRecDepth 100000 in
set_option maxHeartbeats 4000000 in
theorem tX8_doPause_0 {l : Launch} {G : mx_G} {M : mx_Mem} : mx_Met l G yX8_doPause cX8_doPause 2 ((some FieldType.int)) 1 23 [.ref 46, .int 0] M (mx_F (some (.int (if ¬ M.1 52 1 = 1 ∨ M.1 49 5 ≤ M.1 52 9 then -1 else M.1 52 9 + 1))) (if ¬ M.1 52 1 = 1 ∨ M.1 49 5 ≤ M.1 52 9 then M else mI M 52 9 (M.1 52 9 + 1))) := by
  refine mx_enter (own := RX8) (L := [.ref 46, .int 0]) (by decide +kernel) rfl rfl rfl ?_
  intro X hlX hX hR hT
  refine r_aload_n 1 hX dX8_doPause_0 rfl ?_
  refine r_cV0F 4 hX hR tX8_isOn dX8_doPause_1 kX8_isOn lX8_82 rfl rfl rfl rfl rfl rfl ?_
  refine r_Beq 7 22 hX dX8_doPause_4 (fun c1 => ?_) (fun c1 => ?_)
  · refine r_iconst 23 hX dX8_doPause_22 (v := -1) (by decide) ?_
    refine r_iret hX hT dX8_doPause_23 ?_
    exact ⟨by simp [*, mI_self], by simp [*]⟩
  · refine r_aload_n 8 hX dX8_doPause_7 rfl ?_
    refine r_iload_n 9 hX dX8_doPause_8 rfl ?_
    refine r_iconst 10 hX dX8_doPause_9 (v := 3) (by decide) ?_
    refine r_cV2F 13 hX hR (tX8_get (t := 0) (k := 3) (n := 9) rfl (by decide)) dX8_doPause_10 kX8_get lX8_95 rfl rfl rfl rfl rfl rfl ?_
    refine r_aload_n 14 hX dX8_doPause_13 rfl ?_
    refine r_getR 17 hX dX8_doPause_14 fX8_16 rfl rfl rfl ?_
    refine r_iconst 18 hX dX8_doPause_17 (v := 5) (by decide) ?_
    refine r_ialdK 19 hX dX8_doPause_18 rfl rfl (vpK rfl) (j := 5) (by decide) ?_
    refine r_Icmp_lt 22 24 hX dX8_doPause_19 (fun c2 => ?_) (fun c2 => ?_)
    · refine r_aload_n 25 hX dX8_doPause_24 rfl ?_
      refine r_iload_n 26 hX dX8_doPause_25 rfl ?_
      refine r_iconst 27 hX dX8_doPause_26 (v := 3) (by decide) ?_
      refine r_aload_n 28 hX dX8_doPause_27 rfl ?_
      refine r_iload_n 29 hX dX8_doPause_28 rfl ?_
      refine r_iconst 30 hX dX8_doPause_29 (v := 3) (by decide) ?_
      refine r_cV2F 33 hX hR (tX8_get (t := 0) (k := 3) (n := 9) rfl (by decide)) dX8_doPause_30 kX8_get lX8_95 rfl rfl rfl rfl rfl rfl ?_
      refine r_iconst 34 hX dX8_doPause_33 (v := 1) (by decide) ?_
      refine r_iadd 35 hX dX8_doPause_34 ?_
      refine r_cV3U 38 hX hR (tX8_put (t := 0) (k := 3) (n := 9) rfl (by decide)) dX8_doPause_35 kX8_put lX8_56 rfl rfl rfl rfl rfl rfl ?_
      refine r_aload_n 39 hX dX8_doPause_38 rfl ?_
      refine r_iload_n 40 hX dX8_doPause_39 rfl ?_
      refine r_iconst 41 hX dX8_doPause_40 (v := 3) (by decide) ?_
      refine r_cV2F 44 hX hR (tX8_get (t := 0) (k := 3) (n := 9) rfl (by decide)) dX8_doPause_41 kX8_get lX8_95 rfl rfl rfl rfl rfl rfl ?_
      refine r_iret hX hT dX8_doPause_44 ?_
      exact ⟨by simp [*, mI_self], by simp [*]⟩
    · refine r_iconst 23 hX dX8_doPause_22 (v := -1) (by decide) ?_
      refine r_iret hX hT dX8_doPause_23 ?_
      exact ⟨by simp [*, mI_self], by simp [*]⟩
def mtO_0 (M : mx_Mem) : mx_Mem := mI (mI (mI (mI (mI (mI M 52 14 (M.1 52 15)) 52 15 (M.1 52 16)) 52 16 (M.1 52 17)) 52 17 (M.1 52 18)) 52 18 (M.1 52 19)) 52 19 (M.1 52 14)
def mtN_0 (M : mx_Mem) : mx_Mem := mI (mtO_0 M) 52 12 (M.1 52 12 + 1)
def mtn_0 (M : mx_Mem) : mx_Mem := if M.1 52 10 = -1 ∨ ¬ M.1 52 18 = M.1 48 0 then mtN_0 M else mI (mI (mtN_0 M) 52 17 (M.1 52 10)) 52 10 (-1)
set_option maxRecDepth 100000 in
set_option maxHeartbeats 4000000 in
theorem tX8_turn_0 {l : Launch} {G : mx_G} {M : mx_Mem} : mx_Met l G yX8_turn cX8_turn 4 (none) 1 23 [.ref 46, .int 0] M (mx_F none (mtn_0 M)) := by
  refine mx_enter (own := RX8) (L := [.ref 46, .int 0, .null, .null]) (by decide +kernel) rfl rfl rfl ?_
  intro X hlX hX hR hT
  refine r_aload_n 1 hX dX8_turn_0 rfl ?_
  refine r_iload_n 2 hX dX8_turn_1 rfl ?_
  refine r_bipush 4 hX dX8_turn_2 (v := 8) (by decide) ?_
  refine r_cV2F 7 hX hR (tX8_get (t := 0) (k := 8) (n := 14) rfl (by decide)) dX8_turn_4 kX8_get lX8_95 rfl rfl rfl rfl rfl rfl ?_
  refine r_istore_n 8 hX dX8_turn_7 rfl ?_
  refine r_iconst 9 hX dX8_turn_8 (v := 0) (by decide) ?_
  refine r_istore_n 10 hX dX8_turn_9 rfl ?_
  refine r_iload_n 11 hX dX8_turn_10 rfl ?_
  refine r_iconst 12 hX dX8_turn_11 (v := 5) (by decide) ?_
  refine r_icmp_ge 15 41 hX dX8_turn_12 (fun c => absurd c (by decide)) (fun _ => ?_)
  refine r_aload_n 16 hX dX8_turn_15 rfl ?_
  refine r_iload_n 17 hX dX8_turn_16 rfl ?_
  refine r_bipush 19 hX dX8_turn_17 (v := 8) (by decide) ?_
  refine r_iload_n 20 hX dX8_turn_19 rfl ?_
  refine r_iaddK 21 hX dX8_turn_20 (w := 8) (by decide) ?_
  refine r_aload_n 22 hX dX8_turn_21 rfl ?_
  refine r_iload_n 23 hX dX8_turn_22 rfl ?_
  refine r_bipush 25 hX dX8_turn_23 (v := 8) (by decide) ?_
  refine r_iload_n 26 hX dX8_turn_25 rfl ?_
  refine r_iaddK 27 hX dX8_turn_26 (w := 8) (by decide) ?_
  refine r_iconst 28 hX dX8_turn_27 (v := 1) (by decide) ?_
  refine r_iaddK 29 hX dX8_turn_28 (w := 9) (by decide) ?_
  refine r_cV2F 32 hX hR (tX8_get (t := 0) (k := 9) (n := 15) rfl (by decide)) dX8_turn_29 kX8_get lX8_95 rfl rfl rfl rfl rfl rfl ?_
  refine r_cV3U 35 hX hR (tX8_put (t := 0) (k := 8) (n := 14) rfl (by decide)) dX8_turn_32 kX8_put lX8_56 rfl rfl rfl rfl rfl rfl ?_
  refine r_iincK 38 hX dX8_turn_35 rfl (w := 1) (by decide) rfl ?_
  refine (show mx_WW G X 38 [_, _, _, _] _ _ from ?_)
  refine r_goto 10 hX dX8_turn_38 ?_
  refine r_iload_n 11 hX dX8_turn_10 rfl ?_
  refine r_iconst 12 hX dX8_turn_11 (v := 5) (by decide) ?_
  refine r_icmp_ge 15 41 hX dX8_turn_12 (fun c => absurd c (by decide)) (fun _ => ?_)
  refine r_aload_n 16 hX dX8_turn_15 rfl ?_
  refine r_iload_n 17 hX dX8_turn_16 rfl ?_
  refine r_bipush 19 hX dX8_turn_17 (v := 8) (by decide) ?_
  refine r_iload_n 20 hX dX8_turn_19 rfl ?_
  refine r_iaddK 21 hX dX8_turn_20 (w := 9) (by decide) ?_
  refine r_aload_n 22 hX dX8_turn_21 rfl ?_
  refine r_iload_n 23 hX dX8_turn_22 rfl ?_
  refine r_bipush 25 hX dX8_turn_23 (v := 8) (by decide) ?_
  refine r_iload_n 26 hX dX8_turn_25 rfl ?_
  refine r_iaddK 27 hX dX8_turn_26 (w := 9) (by decide) ?_
  refine r_iconst 28 hX dX8_turn_27 (v := 1) (by decide) ?_
  refine r_iaddK 29 hX dX8_turn_28 (w := 10) (by decide) ?_
  refine r_cV2F 32 hX hR (tX8_get (t := 0) (k := 10) (n := 16) rfl (by decide)) dX8_turn_29 kX8_get lX8_95 rfl rfl rfl rfl rfl rfl ?_
  refine r_cV3U 35 hX hR (tX8_put (t := 0) (k := 9) (n := 15) rfl (by decide)) dX8_turn_32 kX8_put lX8_56 rfl rfl rfl rfl rfl rfl ?_
  refine r_iincK 38 hX dX8_turn_35 rfl (w := 2) (by decide) rfl ?_
  refine r_goto 10 hX dX8_turn_38 ?_
  refine r_iload_n 11 hX dX8_turn_10 rfl ?_
  refine r_iconst 12 hX dX8_turn_11 (v := 5) (by decide) ?_
  refine r_icmp_ge 15 41 hX dX8_turn_12 (fun c => absurd c (by decide)) (fun _ => ?_)
  refine r_aload_n 16 hX dX8_turn_15 rfl ?_
  refine r_iload_n 17 hX dX8_turn_16 rfl ?_
  refine r_bipush 19 hX dX8_turn_17 (v := 8) (by decide) ?_
  refine r_iload_n 20 hX dX8_turn_19 rfl ?_
  refine r_iaddK 21 hX dX8_turn_20 (w := 10) (by decide) ?_
  refine r_aload_n 22 hX dX8_turn_21 rfl ?_
  refine r_iload_n 23 hX dX8_turn_22 rfl ?_
  refine r_bipush 25 hX dX8_turn_23 (v := 8) (by decide) ?_
  refine r_iload_n 26 hX dX8_turn_25 rfl ?_
  refine r_iaddK 27 hX dX8_turn_26 (w := 10) (by decide) ?_
  refine r_iconst 28 hX dX8_turn_27 (v := 1) (by decide) ?_
  refine r_iaddK 29 hX dX8_turn_28 (w := 11) (by decide) ?_
  refine r_cV2F 32 hX hR (tX8_get (t := 0) (k := 11) (n := 17) rfl (by decide)) dX8_turn_29 kX8_get lX8_95 rfl rfl rfl rfl rfl rfl ?_
  refine r_cV3U 35 hX hR (tX8_put (t := 0) (k := 10) (n := 16) rfl (by decide)) dX8_turn_32 kX8_put lX8_56 rfl rfl rfl rfl rfl rfl ?_
  refine r_iincK 38 hX dX8_turn_35 rfl (w := 3) (by decide) rfl ?_
  refine r_goto 10 hX dX8_turn_38 ?_
  refine r_iload_n 11 hX dX8_turn_10 rfl ?_
  refine r_iconst 12 hX dX8_turn_11 (v := 5) (by decide) ?_
  refine r_icmp_ge 15 41 hX dX8_turn_12 (fun c => absurd c (by decide)) (fun _ => ?_)
  refine r_aload_n 16 hX dX8_turn_15 rfl ?_
  refine r_iload_n 17 hX dX8_turn_16 rfl ?_
  refine r_bipush 19 hX dX8_turn_17 (v := 8) (by decide) ?_
  refine r_iload_n 20 hX dX8_turn_19 rfl ?_
  refine r_iaddK 21 hX dX8_turn_20 (w := 11) (by decide) ?_
  refine r_aload_n 22 hX dX8_turn_21 rfl ?_
  refine r_iload_n 23 hX dX8_turn_22 rfl ?_
  refine r_bipush 25 hX dX8_turn_23 (v := 8) (by decide) ?_
  refine r_iload_n 26 hX dX8_turn_25 rfl ?_
  refine r_iaddK 27 hX dX8_turn_26 (w := 11) (by decide) ?_
  refine r_iconst 28 hX dX8_turn_27 (v := 1) (by decide) ?_
  refine r_iaddK 29 hX dX8_turn_28 (w := 12) (by decide) ?_
  refine r_cV2F 32 hX hR (tX8_get (t := 0) (k := 12) (n := 18) rfl (by decide)) dX8_turn_29 kX8_get lX8_95 rfl rfl rfl rfl rfl rfl ?_
  refine r_cV3U 35 hX hR (tX8_put (t := 0) (k := 11) (n := 17) rfl (by decide)) dX8_turn_32 kX8_put lX8_56 rfl rfl rfl rfl rfl rfl ?_
  refine r_iincK 38 hX dX8_turn_35 rfl (w := 4) (by decide) rfl ?_
  refine (show mx_WW G X 38 [_, _, _, _] _ _ from ?_)
  refine r_goto 10 hX dX8_turn_38 ?_
  refine r_iload_n 11 hX dX8_turn_10 rfl ?_
  refine r_iconst 12 hX dX8_turn_11 (v := 5) (by decide) ?_
  refine r_icmp_ge 15 41 hX dX8_turn_12 (fun c => absurd c (by decide)) (fun _ => ?_)
  refine r_aload_n 16 hX dX8_turn_15 rfl ?_
  refine r_iload_n 17 hX dX8_turn_16 rfl ?_
  refine r_bipush 19 hX dX8_turn_17 (v := 8) (by decide) ?_
  refine r_iload_n 20 hX dX8_turn_19 rfl ?_
  refine r_iaddK 21 hX dX8_turn_20 (w := 12) (by decide) ?_
  refine r_aload_n 22 hX dX8_turn_21 rfl ?_
  refine r_iload_n 23 hX dX8_turn_22 rfl ?_
  refine r_bipush 25 hX dX8_turn_23 (v := 8) (by decide) ?_
  refine r_iload_n 26 hX dX8_turn_25 rfl ?_
  refine r_iaddK 27 hX dX8_turn_26 (w := 12) (by decide) ?_
  refine r_iconst 28 hX dX8_turn_27 (v := 1) (by decide) ?_
  refine r_iaddK 29 hX dX8_turn_28 (w := 13) (by decide) ?_
  refine r_cV2F 32 hX hR (tX8_get (t := 0) (k := 13) (n := 19) rfl (by decide)) dX8_turn_29 kX8_get lX8_95 rfl rfl rfl rfl rfl rfl ?_
  refine r_cV3U 35 hX hR (tX8_put (t := 0) (k := 12) (n := 18) rfl (by decide)) dX8_turn_32 kX8_put lX8_56 rfl rfl rfl rfl rfl rfl ?_
  refine r_iincK 38 hX dX8_turn_35 rfl (w := 5) (by decide) rfl ?_
  refine r_goto 10 hX dX8_turn_38 ?_
  refine r_iload_n 11 hX dX8_turn_10 rfl ?_
  refine r_iconst 12 hX dX8_turn_11 (v := 5) (by decide) ?_
  refine r_icmp_ge 15 41 hX dX8_turn_12 (fun _ => ?_) (fun c => absurd c (by decide))
  refine r_aload_n 42 hX dX8_turn_41 rfl ?_
  refine r_iload_n 43 hX dX8_turn_42 rfl ?_
  refine r_bipush 45 hX dX8_turn_43 (v := 13) (by decide) ?_
  refine r_iload_n 46 hX dX8_turn_45 rfl ?_
  refine r_cV3U 49 hX hR (tX8_put (t := 0) (k := 13) (n := 19) rfl (by decide)) dX8_turn_46 kX8_put lX8_56 rfl rfl rfl rfl rfl rfl ?_
  refine r_aload_n 50 hX dX8_turn_49 rfl ?_
  refine r_iload_n 51 hX dX8_turn_50 rfl ?_
  refine r_bipush 53 hX dX8_turn_51 (v := 6) (by decide) ?_
  refine r_aload_n 54 hX dX8_turn_53 rfl ?_
  refine r_iload_n 55 hX dX8_turn_54 rfl ?_
  refine r_bipush 57 hX dX8_turn_55 (v := 6) (by decide) ?_
  refine r_cV2F 60 hX hR (tX8_get (t := 0) (k := 6) (n := 12) rfl (by decide)) dX8_turn_57 kX8_get lX8_95 rfl rfl rfl rfl rfl rfl ?_
  refine r_iconst 61 hX dX8_turn_60 (v := 1) (by decide) ?_
  refine r_iadd 62 hX dX8_turn_61 ?_
  refine r_cV3U 65 hX hR (tX8_put (t := 0) (k := 6) (n := 12) rfl (by decide)) dX8_turn_62 kX8_put lX8_56 rfl rfl rfl rfl rfl rfl ?_
  refine r_aload_n 66 hX dX8_turn_65 rfl ?_
  refine r_iload_n 67 hX dX8_turn_66 rfl ?_
  refine r_iconst 68 hX dX8_turn_67 (v := 4) (by decide) ?_
  refine r_cV2F 71 hX hR (tX8_get (t := 0) (k := 4) (n := 10) rfl (by decide)) dX8_turn_68 kX8_get lX8_95 rfl rfl rfl rfl rfl rfl ?_
  refine r_iconst 72 hX dX8_turn_71 (v := -1) (by decide) ?_
  refine r_icmp_eq 75 91 hX dX8_turn_72 (fun c1 => ?_) (fun c1 => ?_)
  · refine r_vret hX hT dX8_turn_91 ?_
    refine ⟨rfl, ?_⟩
    unfold mtn_0
    first | (rw [if_pos (Or.inl (show M.1 52 10 = -1 from c1))]; rfl) | (rw [if_pos (Or.inr (show ¬ M.1 52 18 = M.1 48 0 from c2))]; rfl)
  · refine r_aload_n 76 hX dX8_turn_75 rfl ?_
    refine r_iload_n 77 hX dX8_turn_76 rfl ?_
    refine r_bipush 79 hX dX8_turn_77 (v := 11) (by decide) ?_
    refine r_cV2F 82 hX hR (tX8_get (t := 0) (k := 11) (n := 17) rfl (by decide)) dX8_turn_79 kX8_get lX8_95 rfl rfl rfl rfl rfl rfl ?_
    refine r_aload_n 83 hX dX8_turn_82 rfl ?_
    refine r_getR 86 hX dX8_turn_83 fX8_13 rfl rfl rfl ?_
    refine r_iload_n 87 hX dX8_turn_86 rfl ?_
    refine r_ialdK 88 hX dX8_turn_87 rfl rfl (vpK rfl) (j := 0) (by decide) ?_
    refine r_icmp_eq 91 92 hX dX8_turn_88 (fun c2 => ?_) (fun c2 => ?_)
    · refine r_aload_n 93 hX dX8_turn_92 rfl ?_
      refine r_iload_n 94 hX dX8_turn_93 rfl ?_
      refine r_bipush 96 hX dX8_turn_94 (v := 11) (by decide) ?_
      refine r_aload_n 97 hX dX8_turn_96 rfl ?_
      refine r_iload_n 98 hX dX8_turn_97 rfl ?_
      refine r_iconst 99 hX dX8_turn_98 (v := 4) (by decide) ?_
      refine r_cV2F 102 hX hR (tX8_get (t := 0) (k := 4) (n := 10) rfl (by decide)) dX8_turn_99 kX8_get lX8_95 rfl rfl rfl rfl rfl rfl ?_
      refine r_cV3U 105 hX hR (tX8_put (t := 0) (k := 11) (n := 17) rfl (by decide)) dX8_turn_102 kX8_put lX8_56 rfl rfl rfl rfl rfl rfl ?_
      refine r_aload_n 106 hX dX8_turn_105 rfl ?_
      refine r_iload_n 107 hX dX8_turn_106 rfl ?_
      refine r_iconst 108 hX dX8_turn_107 (v := 4) (by decide) ?_
      refine r_iconst 109 hX dX8_turn_108 (v := -1) (by decide) ?_
      refine r_cV3U 112 hX hR (tX8_put (t := 0) (k := 4) (n := 10) rfl (by decide)) dX8_turn_109 kX8_put lX8_56 rfl rfl rfl rfl rfl rfl ?_
      refine r_vret hX hT dX8_turn_112 ?_
      refine ⟨rfl, ?_⟩
      unfold mtn_0
      rw [if_neg (fun h => h.elim (fun h => (show ¬ M.1 52 10 = -1 from c1) h) (fun h => h (show M.1 52 18 = M.1 48 0 from c2)))]
      rfl
    · refine r_vret hX hT dX8_turn_91 ?_
      refine ⟨rfl, ?_⟩
      unfold mtn_0
      first | (rw [if_pos (Or.inl (show M.1 52 10 = -1 from c1))]; rfl) | (rw [if_pos (Or.inr (show ¬ M.1 52 18 = M.1 48 0 from c2))]; rfl)
def mpl_1 (M : mx_Mem) : Nat → Int32 := fun k => M.1 52 (64 + k)
set_option maxRecDepth 100000 in
set_option maxHeartbeats 4000000 in
theorem tX8_placeOf_1 {l : Launch} {G : mx_G} {p : Int32} {M : mx_Mem} : mx_Met l G yX8_placeOf cX8_placeOf 4 ((some FieldType.int)) 1 22 [.ref 46, .int 1, .int p] M (mx_F (some (.int (plc (mpl_1 M) p))) M) := by
  refine mx_enter (own := RX8) (L := [.ref 46, .int 1, .int p, .null]) (by decide +kernel) rfl rfl rfl ?_
  intro X hlX hX hR hT
  refine r_iconst 1 hX dX8_placeOf_0 (v := 0) (by decide) ?_
  refine r_istore_n 2 hX dX8_placeOf_1 rfl ?_
  refine r_iload_n 3 hX dX8_placeOf_2 rfl ?_
  refine r_bipush 5 hX dX8_placeOf_3 (v := 6) (by decide) ?_
  refine r_icmp_ge 8 29 hX dX8_placeOf_5 (fun c => absurd c (by decide)) (fun _ => ?_)
  refine r_aload_n 9 hX dX8_placeOf_8 rfl ?_
  refine r_iload_n 10 hX dX8_placeOf_9 rfl ?_
  refine r_bipush 12 hX dX8_placeOf_10 (v := 8) (by decide) ?_
  refine r_iload_n 13 hX dX8_placeOf_12 rfl ?_
  refine r_iaddK 14 hX dX8_placeOf_13 (w := 8) (by decide) ?_
  refine r_cV2F 17 hX hR (tX8_get (t := 1) (k := 8) (n := 64) rfl (by decide)) dX8_placeOf_14 kX8_get lX8_95 rfl rfl rfl rfl rfl rfl ?_
  refine r_iload_n 18 hX dX8_placeOf_17 rfl ?_
  refine r_icmp_ne 21 23 hX dX8_placeOf_18 (fun c1 => ?_) (fun c1 => ?_)
  · refine r_iincK 26 hX dX8_placeOf_23 rfl (w := 1) (by decide) rfl ?_
    refine r_goto 2 hX dX8_placeOf_26 ?_
    refine r_iload_n 3 hX dX8_placeOf_2 rfl ?_
    refine r_bipush 5 hX dX8_placeOf_3 (v := 6) (by decide) ?_
    refine r_icmp_ge 8 29 hX dX8_placeOf_5 (fun c => absurd c (by decide)) (fun _ => ?_)
    refine r_aload_n 9 hX dX8_placeOf_8 rfl ?_
    refine r_iload_n 10 hX dX8_placeOf_9 rfl ?_
    refine r_bipush 12 hX dX8_placeOf_10 (v := 8) (by decide) ?_
    refine r_iload_n 13 hX dX8_placeOf_12 rfl ?_
    refine r_iaddK 14 hX dX8_placeOf_13 (w := 9) (by decide) ?_
    refine r_cV2F 17 hX hR (tX8_get (t := 1) (k := 9) (n := 65) rfl (by decide)) dX8_placeOf_14 kX8_get lX8_95 rfl rfl rfl rfl rfl rfl ?_
    refine r_iload_n 18 hX dX8_placeOf_17 rfl ?_
    refine r_icmp_ne 21 23 hX dX8_placeOf_18 (fun c2 => ?_) (fun c2 => ?_)
    · refine r_iincK 26 hX dX8_placeOf_23 rfl (w := 2) (by decide) rfl ?_
      refine (show mx_WW G X 26 [_, _, _, _] _ _ from ?_)
      refine r_goto 2 hX dX8_placeOf_26 ?_
      refine r_iload_n 3 hX dX8_placeOf_2 rfl ?_
      refine r_bipush 5 hX dX8_placeOf_3 (v := 6) (by decide) ?_
      refine r_icmp_ge 8 29 hX dX8_placeOf_5 (fun c => absurd c (by decide)) (fun _ => ?_)
      refine r_aload_n 9 hX dX8_placeOf_8 rfl ?_
      refine r_iload_n 10 hX dX8_placeOf_9 rfl ?_
      refine r_bipush 12 hX dX8_placeOf_10 (v := 8) (by decide) ?_
      refine r_iload_n 13 hX dX8_placeOf_12 rfl ?_
      refine r_iaddK 14 hX dX8_placeOf_13 (w := 10) (by decide) ?_
      refine r_cV2F 17 hX hR (tX8_get (t := 1) (k := 10) (n := 66) rfl (by decide)) dX8_placeOf_14 kX8_get lX8_95 rfl rfl rfl rfl rfl rfl ?_
      refine r_iload_n 18 hX dX8_placeOf_17 rfl ?_
      refine r_icmp_ne 21 23 hX dX8_placeOf_18 (fun c3 => ?_) (fun c3 => ?_)
      · refine r_iincK 26 hX dX8_placeOf_23 rfl (w := 3) (by decide) rfl ?_
        refine r_goto 2 hX dX8_placeOf_26 ?_
        refine r_iload_n 3 hX dX8_placeOf_2 rfl ?_
        refine r_bipush 5 hX dX8_placeOf_3 (v := 6) (by decide) ?_
        refine r_icmp_ge 8 29 hX dX8_placeOf_5 (fun c => absurd c (by decide)) (fun _ => ?_)
        refine r_aload_n 9 hX dX8_placeOf_8 rfl ?_
        refine r_iload_n 10 hX dX8_placeOf_9 rfl ?_
        refine r_bipush 12 hX dX8_placeOf_10 (v := 8) (by decide) ?_
        refine r_iload_n 13 hX dX8_placeOf_12 rfl ?_
        refine r_iaddK 14 hX dX8_placeOf_13 (w := 11) (by decide) ?_
        refine r_cV2F 17 hX hR (tX8_get (t := 1) (k := 11) (n := 67) rfl (by decide)) dX8_placeOf_14 kX8_get lX8_95 rfl rfl rfl rfl rfl rfl ?_
        refine r_iload_n 18 hX dX8_placeOf_17 rfl ?_
        refine r_icmp_ne 21 23 hX dX8_placeOf_18 (fun c4 => ?_) (fun c4 => ?_)
        · refine r_iincK 26 hX dX8_placeOf_23 rfl (w := 4) (by decide) rfl ?_
          refine r_goto 2 hX dX8_placeOf_26 ?_
          refine r_iload_n 3 hX dX8_placeOf_2 rfl ?_
          refine r_bipush 5 hX dX8_placeOf_3 (v := 6) (by decide) ?_
          refine r_icmp_ge 8 29 hX dX8_placeOf_5 (fun c => absurd c (by decide)) (fun _ => ?_)
          refine r_aload_n 9 hX dX8_placeOf_8 rfl ?_
          refine r_iload_n 10 hX dX8_placeOf_9 rfl ?_
          refine r_bipush 12 hX dX8_placeOf_10 (v := 8) (by decide) ?_
          refine r_iload_n 13 hX dX8_placeOf_12 rfl ?_
          refine r_iaddK 14 hX dX8_placeOf_13 (w := 12) (by decide) ?_
          refine r_cV2F 17 hX hR (tX8_get (t := 1) (k := 12) (n := 68) rfl (by decide)) dX8_placeOf_14 kX8_get lX8_95 rfl rfl rfl rfl rfl rfl ?_
          refine r_iload_n 18 hX dX8_placeOf_17 rfl ?_
          refine r_icmp_ne 21 23 hX dX8_placeOf_18 (fun c5 => ?_) (fun c5 => ?_)
          · refine r_iincK 26 hX dX8_placeOf_23 rfl (w := 5) (by decide) rfl ?_
            refine (show mx_WW G X 26 [_, _, _, _] _ _ from ?_)
            refine r_goto 2 hX dX8_placeOf_26 ?_
            refine r_iload_n 3 hX dX8_placeOf_2 rfl ?_
            refine r_bipush 5 hX dX8_placeOf_3 (v := 6) (by decide) ?_
            refine r_icmp_ge 8 29 hX dX8_placeOf_5 (fun c => absurd c (by decide)) (fun _ => ?_)
            refine r_aload_n 9 hX dX8_placeOf_8 rfl ?_
            refine r_iload_n 10 hX dX8_placeOf_9 rfl ?_
            refine r_bipush 12 hX dX8_placeOf_10 (v := 8) (by decide) ?_
            refine r_iload_n 13 hX dX8_placeOf_12 rfl ?_
            refine r_iaddK 14 hX dX8_placeOf_13 (w := 13) (by decide) ?_
            refine r_cV2F 17 hX hR (tX8_get (t := 1) (k := 13) (n := 69) rfl (by decide)) dX8_placeOf_14 kX8_get lX8_95 rfl rfl rfl rfl rfl rfl ?_
            refine r_iload_n 18 hX dX8_placeOf_17 rfl ?_
            refine r_icmp_ne 21 23 hX dX8_placeOf_18 (fun c6 => ?_) (fun c6 => ?_)
            · refine r_iincK 26 hX dX8_placeOf_23 rfl (w := 6) (by decide) rfl ?_
              refine r_goto 2 hX dX8_placeOf_26 ?_
              refine r_iload_n 3 hX dX8_placeOf_2 rfl ?_
              refine r_bipush 5 hX dX8_placeOf_3 (v := 6) (by decide) ?_
              refine r_icmp_ge 8 29 hX dX8_placeOf_5 (fun _ => ?_) (fun c => absurd c (by decide))
              refine r_iconst 30 hX dX8_placeOf_29 (v := -1) (by decide) ?_
              refine r_iret hX hT dX8_placeOf_30 ?_
              exact ⟨by simp [*, plc, mpl_1], rfl⟩
            · refine r_iload_n 22 hX dX8_placeOf_21 rfl ?_
              refine r_iret hX hT dX8_placeOf_22 ?_
              exact ⟨by simp [*, plc, mpl_1], rfl⟩
          · refine r_iload_n 22 hX dX8_placeOf_21 rfl ?_
            refine r_iret hX hT dX8_placeOf_22 ?_
            exact ⟨by simp [*, plc, mpl_1], rfl⟩
        · refine r_iload_n 22 hX dX8_placeOf_21 rfl ?_
          refine r_iret hX hT dX8_placeOf_22 ?_
          exact ⟨by simp [*, plc, mpl_1], rfl⟩
      · refine r_iload_n 22 hX dX8_placeOf_21 rfl ?_
        refine r_iret hX hT dX8_placeOf_22 ?_
        exact ⟨by simp [*, plc, mpl_1], rfl⟩
    · refine r_iload_n 22 hX dX8_placeOf_21 rfl ?_
      refine r_iret hX hT dX8_placeOf_22 ?_
      exact ⟨by simp [*, plc, mpl_1], rfl⟩
  · refine r_iload_n 22 hX dX8_placeOf_21 rfl ?_
    refine r_iret hX hT dX8_placeOf_22 ?_
    exact ⟨by simp [*, plc, mpl_1], rfl⟩
def mmC_1 (M : mx_Mem) (a b : Int32) : Int32 :=
  if ¬ M.1 52 1 = 1 then 1 else if ¬ isP a ∨ ¬ isP b ∨ a = b then 2 else if plc (mpl_1 M) a = -1 ∨ a = M.1 48 1 then 3 else if ¬ plc (mpl_1 M) b = -1 ∨ b = M.1 48 1 ∨ M.1 52 60 = b then 4
  else if M.1 49 4 ≤ M.1 52 58 then 5 else if M.1 52 (a.toNatClampNeg + 70) = 1 ∧ M.1 52 (b.toNatClampNeg + 70) = 0 then 0
  else if M.1 52 (a.toNatClampNeg + 70) = 3 ∧ M.1 52 (b.toNatClampNeg + 70) = 2 ∧ M.1 52 (a.toNatClampNeg + 82) = b then 0 else 6
set_option maxRecDepth 100000 in
set_option maxHeartbeats 4000000 in
theorem tX8_mayNot_1 {l : Launch} {G : mx_G} {a b : Int32} {M : mx_Mem} : mx_Met l G yX8_mayNot cX8_mayNot 6 ((some FieldType.int)) 2 45 [.ref 46, .int 1, .int a, .int b] M (mx_F (some (.int (mmC_1 M a b))) M) := by
  refine mx_enter (own := RX8) (L := [.ref 46, .int 1, .int a, .int b, .null, .null]) (by decide +kernel) rfl rfl rfl ?_
  intro X hlX hX hR hT
  refine r_aload_n 1 hX dX8_mayNot_0 rfl ?_
  refine r_cV0F 4 hX hR tX8_isOn dX8_mayNot_1 kX8_isOn lX8_82 rfl rfl rfl rfl rfl rfl ?_
  refine r_Bne 7 9 hX dX8_mayNot_4 (fun c1 => ?_) (fun c1 => ?_)
  · refine r_iload_n 10 hX dX8_mayNot_9 rfl ?_
    refine r_cS1F 13 hX hR tX8_isPlayer dX8_mayNot_10 kX8_isPlayer lX8_75 rfl rfl rfl ?_
    refine r_Beq 16 28 hX dX8_mayNot_13 (fun c2 => ?_) (fun c2 => ?_)
    · refine r_iconst 29 hX dX8_mayNot_28 (v := 2) (by decide) ?_
      refine r_iret hX hT dX8_mayNot_29 ?_
      clear hT hX hR hlX
      exact ⟨by grind (splits := 30) [mmC_1], rfl⟩
    · refine r_iload_n 17 hX dX8_mayNot_16 rfl ?_
      refine r_cS1F 20 hX hR tX8_isPlayer dX8_mayNot_17 kX8_isPlayer lX8_75 rfl rfl rfl ?_
      refine r_Beq 23 28 hX dX8_mayNot_20 (fun c3 => ?_) (fun c3 => ?_)
      · refine r_iconst 29 hX dX8_mayNot_28 (v := 2) (by decide) ?_
        refine r_iret hX hT dX8_mayNot_29 ?_
        clear hT hX hR hlX
        exact ⟨by grind (splits := 30) [mmC_1], rfl⟩
      · refine r_iload_n 24 hX dX8_mayNot_23 rfl ?_
        refine r_iload_n 25 hX dX8_mayNot_24 rfl ?_
        refine r_icmp_ne 28 30 hX dX8_mayNot_25 (fun c4 => ?_) (fun c4 => ?_)
        · refine r_aload_n 31 hX dX8_mayNot_30 rfl ?_
          refine r_iload_n 32 hX dX8_mayNot_31 rfl ?_
          refine r_iload_n 33 hX dX8_mayNot_32 rfl ?_
          refine r_cV2F 36 hX hR tX8_placeOf_1 dX8_mayNot_33 kX8_placeOf lX8_117 rfl rfl rfl rfl rfl rfl ?_
          refine r_iconst 37 hX dX8_mayNot_36 (v := -1) (by decide) ?_
          refine r_icmp_eq 40 50 hX dX8_mayNot_37 (fun c5 => ?_) (fun c5 => ?_)
          · refine r_iconst 51 hX dX8_mayNot_50 (v := 3) (by decide) ?_
            refine r_iret hX hT dX8_mayNot_51 ?_
            clear hT hX hR hlX
            exact ⟨by grind (splits := 30) [mmC_1], rfl⟩
          · refine r_iload_n 41 hX dX8_mayNot_40 rfl ?_
            refine r_aload_n 42 hX dX8_mayNot_41 rfl ?_
            refine r_getR 45 hX dX8_mayNot_42 fX8_13 rfl rfl rfl ?_
            refine r_iload_n 46 hX dX8_mayNot_45 rfl ?_
            refine r_ialdK 47 hX dX8_mayNot_46 rfl rfl (vpK rfl) (j := 1) (by decide) ?_
            refine r_icmp_ne 50 52 hX dX8_mayNot_47 (fun c6 => ?_) (fun c6 => ?_)
            · refine r_aload_n 53 hX dX8_mayNot_52 rfl ?_
              refine r_iload_n 54 hX dX8_mayNot_53 rfl ?_
              refine r_iload_n 55 hX dX8_mayNot_54 rfl ?_
              refine r_cV2F 58 hX hR tX8_placeOf_1 dX8_mayNot_55 kX8_placeOf lX8_117 rfl rfl rfl rfl rfl rfl ?_
              refine r_iconst 59 hX dX8_mayNot_58 (v := -1) (by decide) ?_
              refine r_icmp_ne 62 82 hX dX8_mayNot_59 (fun c7 => ?_) (fun c7 => ?_)
              · refine r_iconst 83 hX dX8_mayNot_82 (v := 4) (by decide) ?_
                refine r_iret hX hT dX8_mayNot_83 ?_
                clear hT hX hR hlX
                exact ⟨by grind (splits := 30) [mmC_1], rfl⟩
              · refine r_iload_n 63 hX dX8_mayNot_62 rfl ?_
                refine r_aload_n 64 hX dX8_mayNot_63 rfl ?_
                refine r_getR 67 hX dX8_mayNot_64 fX8_13 rfl rfl rfl ?_
                refine r_iload_n 68 hX dX8_mayNot_67 rfl ?_
                refine r_ialdK 69 hX dX8_mayNot_68 rfl rfl (vpK rfl) (j := 1) (by decide) ?_
                refine r_icmp_eq 72 82 hX dX8_mayNot_69 (fun c8 => ?_) (fun c8 => ?_)
                · refine r_iconst 83 hX dX8_mayNot_82 (v := 4) (by decide) ?_
                  refine r_iret hX hT dX8_mayNot_83 ?_
                  clear hT hX hR hlX
                  exact ⟨by grind (splits := 30) [mmC_1], rfl⟩
                · refine r_aload_n 73 hX dX8_mayNot_72 rfl ?_
                  refine r_iload_n 74 hX dX8_mayNot_73 rfl ?_
                  refine r_iconst 75 hX dX8_mayNot_74 (v := 4) (by decide) ?_
                  refine r_cV2F 78 hX hR (tX8_get (t := 1) (k := 4) (n := 60) rfl (by decide)) dX8_mayNot_75 kX8_get lX8_95 rfl rfl rfl rfl rfl rfl ?_
                  refine r_iload_n 79 hX dX8_mayNot_78 rfl ?_
                  refine r_icmp_ne 82 84 hX dX8_mayNot_79 (fun c9 => ?_) (fun c9 => ?_)
                  · refine r_aload_n 85 hX dX8_mayNot_84 rfl ?_
                    refine r_iload_n 86 hX dX8_mayNot_85 rfl ?_
                    refine r_iconst 87 hX dX8_mayNot_86 (v := 2) (by decide) ?_
                    refine r_cV2F 90 hX hR (tX8_get (t := 1) (k := 2) (n := 58) rfl (by decide)) dX8_mayNot_87 kX8_get lX8_95 rfl rfl rfl rfl rfl rfl ?_
                    refine r_aload_n 91 hX dX8_mayNot_90 rfl ?_
                    refine r_getR 94 hX dX8_mayNot_91 fX8_16 rfl rfl rfl ?_
                    refine r_iconst 95 hX dX8_mayNot_94 (v := 4) (by decide) ?_
                    refine r_ialdK 96 hX dX8_mayNot_95 rfl rfl (vpK rfl) (j := 4) (by decide) ?_
                    refine r_Icmp_lt 99 101 hX dX8_mayNot_96 (fun c10 => ?_) (fun c10 => ?_)
                    · refine r_aload_n 102 hX dX8_mayNot_101 rfl ?_
                      refine r_iload_n 103 hX dX8_mayNot_102 rfl ?_
                      refine r_bipush 105 hX dX8_mayNot_103 (v := 14) (by decide) ?_
                      refine r_iload_n 106 hX dX8_mayNot_105 rfl ?_
                      refine r_iadd 107 hX dX8_mayNot_106 ?_
                      refine r_cV2F 110 hX hR (tX8_getV 1 14 70 12 rfl (by decide) (vpP (by assumption))) dX8_mayNot_107 kX8_get lX8_95 rfl rfl rfl rfl rfl rfl ?_
                      refine r_istore 112 hX dX8_mayNot_110 rfl ?_
                      refine r_aload_n 113 hX dX8_mayNot_112 rfl ?_
                      refine r_iload_n 114 hX dX8_mayNot_113 rfl ?_
                      refine r_bipush 116 hX dX8_mayNot_114 (v := 14) (by decide) ?_
                      refine r_iload_n 117 hX dX8_mayNot_116 rfl ?_
                      refine r_iadd 118 hX dX8_mayNot_117 ?_
                      refine r_cV2F 121 hX hR (tX8_getV 1 14 70 12 rfl (by decide) (vpP (by assumption))) dX8_mayNot_118 kX8_get lX8_95 rfl rfl rfl rfl rfl rfl ?_
                      refine r_istore 123 hX dX8_mayNot_121 rfl ?_
                      refine r_iload 125 hX dX8_mayNot_123 rfl ?_
                      refine r_iconst 126 hX dX8_mayNot_125 (v := 1) (by decide) ?_
                      refine r_icmp_ne 129 136 hX dX8_mayNot_126 (fun c11 => ?_) (fun c11 => ?_)
                      · refine r_iload 138 hX dX8_mayNot_136 rfl ?_
                        refine r_iconst 139 hX dX8_mayNot_138 (v := 3) (by decide) ?_
                        refine r_icmp_ne 142 165 hX dX8_mayNot_139 (fun c12 => ?_) (fun c12 => ?_)
                        · refine r_bipush 167 hX dX8_mayNot_165 (v := 6) (by decide) ?_
                          refine r_iret hX hT dX8_mayNot_167 ?_
                          clear hT hX hR hlX
                          exact ⟨by grind (splits := 30) [mmC_1], rfl⟩
                        · refine r_iload 144 hX dX8_mayNot_142 rfl ?_
                          refine r_iconst 145 hX dX8_mayNot_144 (v := 2) (by decide) ?_
                          refine r_icmp_ne 148 165 hX dX8_mayNot_145 (fun c13 => ?_) (fun c13 => ?_)
                          · refine r_bipush 167 hX dX8_mayNot_165 (v := 6) (by decide) ?_
                            refine r_iret hX hT dX8_mayNot_167 ?_
                            clear hT hX hR hlX
                            exact ⟨by grind (splits := 30) [mmC_1], rfl⟩
                          · refine r_aload_n 149 hX dX8_mayNot_148 rfl ?_
                            refine r_iload_n 150 hX dX8_mayNot_149 rfl ?_
                            refine r_bipush 152 hX dX8_mayNot_150 (v := 26) (by decide) ?_
                            refine r_iload_n 153 hX dX8_mayNot_152 rfl ?_
                            refine r_iadd 154 hX dX8_mayNot_153 ?_
                            refine r_cV2F 157 hX hR (tX8_getV 1 26 82 12 rfl (by decide) (vpP (by assumption))) dX8_mayNot_154 kX8_get lX8_95 rfl rfl rfl rfl rfl rfl ?_
                            refine r_iload_n 158 hX dX8_mayNot_157 rfl ?_
                            refine r_icmp_ne 161 165 hX dX8_mayNot_158 (fun c14 => ?_) (fun c14 => ?_)
                            · refine r_bipush 167 hX dX8_mayNot_165 (v := 6) (by decide) ?_
                              refine r_iret hX hT dX8_mayNot_167 ?_
                              clear hT hX hR hlX
                              exact ⟨by grind (splits := 30) [mmC_1], rfl⟩
                            · refine r_iconst 162 hX dX8_mayNot_161 (v := 0) (by decide) ?_
                              refine r_goto 167 hX dX8_mayNot_162 ?_
                              refine r_iret hX hT dX8_mayNot_167 ?_
                              clear hT hX hR hlX
                              exact ⟨by grind (splits := 30) [mmC_1], rfl⟩
                      · refine r_iload 131 hX dX8_mayNot_129 rfl ?_
                        refine r_if_ne 134 136 hX dX8_mayNot_131 (fun c15 => ?_) (fun c15 => ?_)
                        · refine r_iload 138 hX dX8_mayNot_136 rfl ?_
                          refine r_iconst 139 hX dX8_mayNot_138 (v := 3) (by decide) ?_
                          refine r_icmp_ne 142 165 hX dX8_mayNot_139 (fun c16 => ?_) (fun c16 => ?_)
                          · refine r_bipush 167 hX dX8_mayNot_165 (v := 6) (by decide) ?_
                            refine r_iret hX hT dX8_mayNot_167 ?_
                            clear hT hX hR hlX
                            exact ⟨by grind (splits := 30) [mmC_1], rfl⟩
                          · refine r_iload 144 hX dX8_mayNot_142 rfl ?_
                            refine r_iconst 145 hX dX8_mayNot_144 (v := 2) (by decide) ?_
                            refine r_icmp_ne 148 165 hX dX8_mayNot_145 (fun c17 => ?_) (fun c17 => ?_)
                            · refine r_bipush 167 hX dX8_mayNot_165 (v := 6) (by decide) ?_
                              refine r_iret hX hT dX8_mayNot_167 ?_
                              clear hT hX hR hlX
                              exact ⟨by grind (splits := 30) [mmC_1], rfl⟩
                            · refine r_aload_n 149 hX dX8_mayNot_148 rfl ?_
                              refine r_iload_n 150 hX dX8_mayNot_149 rfl ?_
                              refine r_bipush 152 hX dX8_mayNot_150 (v := 26) (by decide) ?_
                              refine r_iload_n 153 hX dX8_mayNot_152 rfl ?_
                              refine r_iadd 154 hX dX8_mayNot_153 ?_
                              refine r_cV2F 157 hX hR (tX8_getV 1 26 82 12 rfl (by decide) (vpP (by assumption))) dX8_mayNot_154 kX8_get lX8_95 rfl rfl rfl rfl rfl rfl ?_
                              refine r_iload_n 158 hX dX8_mayNot_157 rfl ?_
                              refine r_icmp_ne 161 165 hX dX8_mayNot_158 (fun c18 => ?_) (fun c18 => ?_)
                              · refine r_bipush 167 hX dX8_mayNot_165 (v := 6) (by decide) ?_
                                refine r_iret hX hT dX8_mayNot_167 ?_
                                clear hT hX hR hlX
                                exact ⟨by grind (splits := 30) [mmC_1], rfl⟩
                              · refine r_iconst 162 hX dX8_mayNot_161 (v := 0) (by decide) ?_
                                refine r_goto 167 hX dX8_mayNot_162 ?_
                                refine r_iret hX hT dX8_mayNot_167 ?_
                                clear hT hX hR hlX
                                exact ⟨by grind (splits := 30) [mmC_1], rfl⟩
                        · refine r_iconst 135 hX dX8_mayNot_134 (v := 0) (by decide) ?_
                          refine r_iret hX hT dX8_mayNot_135 ?_
                          clear hT hX hR hlX
                          exact ⟨by grind (splits := 30) [mmC_1], rfl⟩
                    · refine r_iconst 100 hX dX8_mayNot_99 (v := 5) (by decide) ?_
                      refine r_iret hX hT dX8_mayNot_100 ?_
                      clear hT hX hR hlX
                      exact ⟨by grind (splits := 30) [mmC_1], rfl⟩
                  · refine r_iconst 83 hX dX8_mayNot_82 (v := 4) (by decide) ?_
                    refine r_iret hX hT dX8_mayNot_83 ?_
                    clear hT hX hR hlX
                    exact ⟨by grind (splits := 30) [mmC_1], rfl⟩
            · refine r_iconst 51 hX dX8_mayNot_50 (v := 3) (by decide) ?_
              refine r_iret hX hT dX8_mayNot_51 ?_
              clear hT hX hR hlX
              exact ⟨by grind (splits := 30) [mmC_1], rfl⟩
        · refine r_iconst 29 hX dX8_mayNot_28 (v := 2) (by decide) ?_
          refine r_iret hX hT dX8_mayNot_29 ?_
          clear hT hX hR hlX
          exact ⟨by grind (splits := 30) [mmC_1], rfl⟩
  · refine r_iconst 8 hX dX8_mayNot_7 (v := 1) (by decide) ?_
    refine r_iret hX hT dX8_mayNot_8 ?_
    clear hT hX hR hlX
    exact ⟨by grind (splits := 30) [mmC_1], rfl⟩
set_option maxRecDepth 100000 in
set_option maxHeartbeats 4000000 in
theorem tX8_may_1 {l : Launch} {G : mx_G} {a b : Int32} {M : mx_Mem} : mx_Met l G yX8_may cX8_may 4 ((some FieldType.int)) 3 70 [.ref 46, .int 1, .int a, .int b] M (mx_F (some (.int (mmC_1 M a b))) (th0 M)) := by
  refine mx_enter (own := RX8) (L := [.ref 46, .int 1, .int a, .int b]) (by decide +kernel) rfl rfl rfl ?_
  intro X hlX hX hR hT
  refine r_aload_n 1 hX dX8_may_0 rfl ?_
  refine r_iconst 2 hX dX8_may_1 (v := 0) (by decide) ?_
  refine r_putI 5 hX dX8_may_2 fX8_63 fp8_13 rfl rfl rfl ?_
  refine r_iload_n 6 hX dX8_may_5 rfl ?_
  refine r_cS1F 9 hX hR tX8_isTeam_1 dX8_may_6 kX8_isTeam lX8_71 rfl rfl rfl ?_
  refine r_if_eq 12 22 hX dX8_may_9 (fun c => absurd c (by decide)) (fun _ => ?_)
  refine r_aload_n 13 hX dX8_may_12 rfl ?_
  refine r_iload_n 14 hX dX8_may_13 rfl ?_
  refine r_iload_n 15 hX dX8_may_14 rfl ?_
  refine r_iload_n 16 hX dX8_may_15 rfl ?_
  refine r_cV3F 19 hX hR tX8_mayNot_1 dX8_may_16 kX8_mayNot lX8_120 rfl rfl rfl rfl rfl rfl ?_
  refine r_goto 23 hX dX8_may_19 ?_
  refine r_iret hX hT dX8_may_23 ?_
  exact ⟨rfl, rfl⟩
def mdc_1 (M : mx_Mem) (a b : Int32) : mx_Mem :=
  let N1 := mI M 52 ((plc (mpl_1 M) a).toNatClampNeg + 64) b
  let N2 := if M.1 52 (a.toNatClampNeg + 70) = 3 then mI (mI N1 52 (a.toNatClampNeg + 70) 4) 52 (b.toNatClampNeg + 70) 4 else mI (mI N1 52 (a.toNatClampNeg + 70) 2) 52 (b.toNatClampNeg + 70) 3
  let N3 := mI (mI N2 52 (a.toNatClampNeg + 82) b) 52 (b.toNatClampNeg + 82) a
  mI N3 52 58 (N3.1 52 58 + 1)
set_option maxRecDepth 100000 in
set_option maxHeartbeats 4000000 in
theorem tX8_doChange_1 {l : Launch} {G : mx_G} {a b : Int32} {M : mx_Mem} (ha : isP a) (hb : isP b) (h1 : ¬ plc (mpl_1 M) a = -1) : mx_Met l G yX8_doChange cX8_doChange 6 ((some FieldType.int)) 2 45 [.ref 46, .int 1, .int a, .int b] M (mx_F (some (.int (plc (mpl_1 M) a))) (mdc_1 M a b)) := by
  refine mx_enter (own := RX8) (L := [.ref 46, .int 1, .int a, .int b, .null, .null]) (by decide +kernel) rfl rfl rfl ?_
  intro X hlX hX hR hT
  refine r_aload_n 1 hX dX8_doChange_0 rfl ?_
  refine r_iload_n 2 hX dX8_doChange_1 rfl ?_
  refine r_iload_n 3 hX dX8_doChange_2 rfl ?_
  refine r_cV2F 6 hX hR tX8_placeOf_1 dX8_doChange_3 kX8_placeOf lX8_117 rfl rfl rfl rfl rfl rfl ?_
  refine r_istore 8 hX dX8_doChange_6 rfl ?_
  refine r_aload_n 9 hX dX8_doChange_8 rfl ?_
  refine r_iload_n 10 hX dX8_doChange_9 rfl ?_
  refine r_bipush 12 hX dX8_doChange_10 (v := 14) (by decide) ?_
  refine r_iload_n 13 hX dX8_doChange_12 rfl ?_
  refine r_iadd 14 hX dX8_doChange_13 ?_
  refine r_cV2F 17 hX hR (tX8_getV 1 14 70 12 rfl (by decide) (vpP ha)) dX8_doChange_14 kX8_get lX8_95 rfl rfl rfl rfl rfl rfl ?_
  refine r_iconst 18 hX dX8_doChange_17 (v := 3) (by decide) ?_
  refine r_icmp_ne 21 25 hX dX8_doChange_18 (fun c1 => ?_) (fun c1 => ?_)
  · refine r_iconst 26 hX dX8_doChange_25 (v := 0) (by decide) ?_
    refine r_istore 28 hX dX8_doChange_26 rfl ?_
    refine r_aload_n 29 hX dX8_doChange_28 rfl ?_
    refine r_iload_n 30 hX dX8_doChange_29 rfl ?_
    refine r_bipush 32 hX dX8_doChange_30 (v := 8) (by decide) ?_
    refine r_iload 34 hX dX8_doChange_32 rfl ?_
    refine r_iadd 35 hX dX8_doChange_34 ?_
    refine r_iload_n 36 hX dX8_doChange_35 rfl ?_
    refine r_cV3U 39 hX hR (tX8_putV 1 8 64 6 rfl (by decide) (plc_in _ _ h1)) dX8_doChange_36 kX8_put lX8_56 rfl rfl rfl rfl rfl rfl ?_
    refine r_aload_n 40 hX dX8_doChange_39 rfl ?_
    refine r_iload_n 41 hX dX8_doChange_40 rfl ?_
    refine r_bipush 43 hX dX8_doChange_41 (v := 14) (by decide) ?_
    refine r_iload_n 44 hX dX8_doChange_43 rfl ?_
    refine r_iadd 45 hX dX8_doChange_44 ?_
    refine r_iload 47 hX dX8_doChange_45 rfl ?_
    refine r_if_eq 50 54 hX dX8_doChange_47 (fun _ => ?_) (fun c => absurd c (by decide))
    refine r_iconst 55 hX dX8_doChange_54 (v := 2) (by decide) ?_
    refine r_cV3U 58 hX hR (tX8_putV 1 14 70 12 rfl (by decide) (vpP ha)) dX8_doChange_55 kX8_put lX8_56 rfl rfl rfl rfl rfl rfl ?_
    refine r_aload_n 59 hX dX8_doChange_58 rfl ?_
    refine r_iload_n 60 hX dX8_doChange_59 rfl ?_
    refine r_bipush 62 hX dX8_doChange_60 (v := 14) (by decide) ?_
    refine r_iload_n 63 hX dX8_doChange_62 rfl ?_
    refine r_iadd 64 hX dX8_doChange_63 ?_
    refine r_iload 66 hX dX8_doChange_64 rfl ?_
    refine r_if_eq 69 73 hX dX8_doChange_66 (fun _ => ?_) (fun c => absurd c (by decide))
    refine r_iconst 74 hX dX8_doChange_73 (v := 3) (by decide) ?_
    refine r_cV3U 77 hX hR (tX8_putV 1 14 70 12 rfl (by decide) (vpP hb)) dX8_doChange_74 kX8_put lX8_56 rfl rfl rfl rfl rfl rfl ?_
    refine r_aload_n 78 hX dX8_doChange_77 rfl ?_
    refine r_iload_n 79 hX dX8_doChange_78 rfl ?_
    refine r_bipush 81 hX dX8_doChange_79 (v := 26) (by decide) ?_
    refine r_iload_n 82 hX dX8_doChange_81 rfl ?_
    refine r_iadd 83 hX dX8_doChange_82 ?_
    refine r_iload_n 84 hX dX8_doChange_83 rfl ?_
    refine r_cV3U 87 hX hR (tX8_putV 1 26 82 12 rfl (by decide) (vpP ha)) dX8_doChange_84 kX8_put lX8_56 rfl rfl rfl rfl rfl rfl ?_
    refine r_aload_n 88 hX dX8_doChange_87 rfl ?_
    refine r_iload_n 89 hX dX8_doChange_88 rfl ?_
    refine r_bipush 91 hX dX8_doChange_89 (v := 26) (by decide) ?_
    refine r_iload_n 92 hX dX8_doChange_91 rfl ?_
    refine r_iadd 93 hX dX8_doChange_92 ?_
    refine r_iload_n 94 hX dX8_doChange_93 rfl ?_
    refine r_cV3U 97 hX hR (tX8_putV 1 26 82 12 rfl (by decide) (vpP hb)) dX8_doChange_94 kX8_put lX8_56 rfl rfl rfl rfl rfl rfl ?_
    refine r_aload_n 98 hX dX8_doChange_97 rfl ?_
    refine r_iload_n 99 hX dX8_doChange_98 rfl ?_
    refine r_iconst 100 hX dX8_doChange_99 (v := 2) (by decide) ?_
    refine r_aload_n 101 hX dX8_doChange_100 rfl ?_
    refine r_iload_n 102 hX dX8_doChange_101 rfl ?_
    refine r_iconst 103 hX dX8_doChange_102 (v := 2) (by decide) ?_
    refine r_cV2F 106 hX hR (tX8_get (t := 1) (k := 2) (n := 58) rfl (by decide)) dX8_doChange_103 kX8_get lX8_95 rfl rfl rfl rfl rfl rfl ?_
    refine r_iconst 107 hX dX8_doChange_106 (v := 1) (by decide) ?_
    refine r_iadd 108 hX dX8_doChange_107 ?_
    refine r_cV3U 111 hX hR (tX8_put (t := 1) (k := 2) (n := 58) rfl (by decide)) dX8_doChange_108 kX8_put lX8_56 rfl rfl rfl rfl rfl rfl ?_
    refine r_iload 113 hX dX8_doChange_111 rfl ?_
    refine r_iret hX hT dX8_doChange_113 ?_
    refine ⟨rfl, ?_⟩
    unfold mdc_1
    first | (simp only [if_pos c1]; done) | (simp only [if_neg c1]; done)
  · refine r_iconst 22 hX dX8_doChange_21 (v := 1) (by decide) ?_
    refine r_goto 26 hX dX8_doChange_22 ?_
    refine r_istore 28 hX dX8_doChange_26 rfl ?_
    refine r_aload_n 29 hX dX8_doChange_28 rfl ?_
    refine r_iload_n 30 hX dX8_doChange_29 rfl ?_
    refine r_bipush 32 hX dX8_doChange_30 (v := 8) (by decide) ?_
    refine r_iload 34 hX dX8_doChange_32 rfl ?_
    refine r_iadd 35 hX dX8_doChange_34 ?_
    refine r_iload_n 36 hX dX8_doChange_35 rfl ?_
    refine r_cV3U 39 hX hR (tX8_putV 1 8 64 6 rfl (by decide) (plc_in _ _ h1)) dX8_doChange_36 kX8_put lX8_56 rfl rfl rfl rfl rfl rfl ?_
    refine r_aload_n 40 hX dX8_doChange_39 rfl ?_
    refine r_iload_n 41 hX dX8_doChange_40 rfl ?_
    refine r_bipush 43 hX dX8_doChange_41 (v := 14) (by decide) ?_
    refine r_iload_n 44 hX dX8_doChange_43 rfl ?_
    refine r_iadd 45 hX dX8_doChange_44 ?_
    refine r_iload 47 hX dX8_doChange_45 rfl ?_
    refine r_if_eq 50 54 hX dX8_doChange_47 (fun c => absurd c (by decide)) (fun _ => ?_)
    refine r_iconst 51 hX dX8_doChange_50 (v := 4) (by decide) ?_
    refine r_goto 55 hX dX8_doChange_51 ?_
    refine r_cV3U 58 hX hR (tX8_putV 1 14 70 12 rfl (by decide) (vpP ha)) dX8_doChange_55 kX8_put lX8_56 rfl rfl rfl rfl rfl rfl ?_
    refine r_aload_n 59 hX dX8_doChange_58 rfl ?_
    refine r_iload_n 60 hX dX8_doChange_59 rfl ?_
    refine r_bipush 62 hX dX8_doChange_60 (v := 14) (by decide) ?_
    refine r_iload_n 63 hX dX8_doChange_62 rfl ?_
    refine r_iadd 64 hX dX8_doChange_63 ?_
    refine r_iload 66 hX dX8_doChange_64 rfl ?_
    refine r_if_eq 69 73 hX dX8_doChange_66 (fun c => absurd c (by decide)) (fun _ => ?_)
    refine r_iconst 70 hX dX8_doChange_69 (v := 4) (by decide) ?_
    refine r_goto 74 hX dX8_doChange_70 ?_
    refine r_cV3U 77 hX hR (tX8_putV 1 14 70 12 rfl (by decide) (vpP hb)) dX8_doChange_74 kX8_put lX8_56 rfl rfl rfl rfl rfl rfl ?_
    refine r_aload_n 78 hX dX8_doChange_77 rfl ?_
    refine r_iload_n 79 hX dX8_doChange_78 rfl ?_
    refine r_bipush 81 hX dX8_doChange_79 (v := 26) (by decide) ?_
    refine r_iload_n 82 hX dX8_doChange_81 rfl ?_
    refine r_iadd 83 hX dX8_doChange_82 ?_
    refine r_iload_n 84 hX dX8_doChange_83 rfl ?_
    refine r_cV3U 87 hX hR (tX8_putV 1 26 82 12 rfl (by decide) (vpP ha)) dX8_doChange_84 kX8_put lX8_56 rfl rfl rfl rfl rfl rfl ?_
    refine r_aload_n 88 hX dX8_doChange_87 rfl ?_
    refine r_iload_n 89 hX dX8_doChange_88 rfl ?_
    refine r_bipush 91 hX dX8_doChange_89 (v := 26) (by decide) ?_
    refine r_iload_n 92 hX dX8_doChange_91 rfl ?_
    refine r_iadd 93 hX dX8_doChange_92 ?_
    refine r_iload_n 94 hX dX8_doChange_93 rfl ?_
    refine r_cV3U 97 hX hR (tX8_putV 1 26 82 12 rfl (by decide) (vpP hb)) dX8_doChange_94 kX8_put lX8_56 rfl rfl rfl rfl rfl rfl ?_
    refine r_aload_n 98 hX dX8_doChange_97 rfl ?_
    refine r_iload_n 99 hX dX8_doChange_98 rfl ?_
    refine r_iconst 100 hX dX8_doChange_99 (v := 2) (by decide) ?_
    refine r_aload_n 101 hX dX8_doChange_100 rfl ?_
    refine r_iload_n 102 hX dX8_doChange_101 rfl ?_
    refine r_iconst 103 hX dX8_doChange_102 (v := 2) (by decide) ?_
    refine r_cV2F 106 hX hR (tX8_get (t := 1) (k := 2) (n := 58) rfl (by decide)) dX8_doChange_103 kX8_get lX8_95 rfl rfl rfl rfl rfl rfl ?_
    refine r_iconst 107 hX dX8_doChange_106 (v := 1) (by decide) ?_
    refine r_iadd 108 hX dX8_doChange_107 ?_
    refine r_cV3U 111 hX hR (tX8_put (t := 1) (k := 2) (n := 58) rfl (by decide)) dX8_doChange_108 kX8_put lX8_56 rfl rfl rfl rfl rfl rfl ?_
    refine r_iload 113 hX dX8_doChange_111 rfl ?_
    refine r_iret hX hT dX8_doChange_113 ?_
    refine ⟨rfl, ?_⟩
    unfold mdc_1
    first | (simp only [if_pos c1]; done) | (simp only [if_neg c1]; done)
theorem mmC_0_1 {M : mx_Mem} {a b : Int32} (h : mmC_1 M a b = 0) : isP a ∧ isP b ∧ ¬ plc (mpl_1 M) a = -1 := by
  grind (splits := 30) [mmC_1]
set_option maxRecDepth 100000 in
set_option maxHeartbeats 4000000 in
theorem tX8_change_1 {l : Launch} {G : mx_G} {a b : Int32} {M : mx_Mem} : mx_Met l G yX8_change cX8_change 4 ((some FieldType.int)) 3 70 [.ref 46, .int 1, .int a, .int b] M (mx_F (some (.int (if mmC_1 (th0 M) a b = 0 then plc (mpl_1 (th0 M)) a else -1))) (if mmC_1 (th0 M) a b = 0 then mdc_1 (th0 M) a b else th0 M)) := by
  refine mx_enter (own := RX8) (L := [.ref 46, .int 1, .int a, .int b]) (by decide +kernel) rfl rfl rfl ?_
  intro X hlX hX hR hT
  refine r_aload_n 1 hX dX8_change_0 rfl ?_
  refine r_iconst 2 hX dX8_change_1 (v := 0) (by decide) ?_
  refine r_putI 5 hX dX8_change_2 fX8_63 fp8_13 rfl rfl rfl ?_
  refine r_iload_n 6 hX dX8_change_5 rfl ?_
  refine r_cS1F 9 hX hR tX8_isTeam_1 dX8_change_6 kX8_isTeam lX8_71 rfl rfl rfl ?_
  refine r_if_eq 12 32 hX dX8_change_9 (fun c => absurd c (by decide)) (fun _ => ?_)
  refine r_aload_n 13 hX dX8_change_12 rfl ?_
  refine r_iload_n 14 hX dX8_change_13 rfl ?_
  refine r_iload_n 15 hX dX8_change_14 rfl ?_
  refine r_iload_n 16 hX dX8_change_15 rfl ?_
  refine r_cV3F 19 hX hR tX8_mayNot_1 dX8_change_16 kX8_mayNot lX8_120 rfl rfl rfl rfl rfl rfl ?_
  refine r_if_ne 22 32 hX dX8_change_19 (fun c1 => ?_) (fun c1 => ?_)
  · refine r_iconst 33 hX dX8_change_32 (v := -1) (by decide) ?_
    refine r_iret hX hT dX8_change_33 ?_
    first | (rw [if_neg c1, if_neg c1]; exact ⟨rfl, rfl⟩) | (rw [if_pos c1, if_pos c1]; exact ⟨rfl, rfl⟩)
  · refine r_aload_n 23 hX dX8_change_22 rfl ?_
    refine r_iload_n 24 hX dX8_change_23 rfl ?_
    refine r_iload_n 25 hX dX8_change_24 rfl ?_
    refine r_iload_n 26 hX dX8_change_25 rfl ?_
    refine r_cV3F 29 hX hR (tX8_doChange_1 (mmC_0_1 c1).1 (mmC_0_1 c1).2.1 (mmC_0_1 c1).2.2) dX8_change_26 kX8_doChange lX8_123 rfl rfl rfl rfl rfl rfl ?_
    refine r_goto 33 hX dX8_change_29 ?_
    refine r_iret hX hT dX8_change_33 ?_
    first | (rw [if_neg c1, if_neg c1]; exact ⟨rfl, rfl⟩) | (rw [if_pos c1, if_pos c1]; exact ⟨rfl, rfl⟩)
def mfC_1 (M : mx_Mem) : Prop := M.1 52 1 = 1 ∧ ¬ M.1 48 1 = -1 ∧ ¬ M.1 52 63 = 1
def mfF_1 (M : mx_Mem) : mx_Mem := mI (mI (mI M 52 ((plc (mpl_1 M) (M.1 48 1)).toNatClampNeg + 64) (M.1 52 60)) 52 60 (-1)) 52 63 1
def mfN_1 (M : mx_Mem) (p : Int32) : mx_Mem := mI (mI (mI M 52 ((plc (mpl_1 M) p).toNatClampNeg + 64) (M.1 48 1)) 52 60 p) 52 63 1
set_option maxRecDepth 100000 in
set_option maxHeartbeats 4000000 in
theorem tX8_doFree_1 {l : Launch} {G : mx_G} {p : Int32} {M : mx_Mem} (hf : ¬ M.1 52 60 = -1 → ¬ plc (mpl_1 M) (M.1 48 1) = -1) : mx_Met l G yX8_doFree cX8_doFree 4 ((some FieldType.int)) 2 45 [.ref 46, .int 1, .int p] M (fun r M' => (¬ mfC_1 M ∧ r = some (.int (-1)) ∧ M' = M) ∨ (mfC_1 M ∧ ((p = -1 ∧ M.1 52 60 = -1 ∧ r = some (.int (-1)) ∧ M' = M) ∨ (p = -1 ∧ ¬ M.1 52 60 = -1 ∧ r = some (.int (plc (mpl_1 M) (M.1 48 1))) ∧ M' = mfF_1 M) ∨ (¬ p = -1 ∧ (isP p ∧ M.1 52 60 = -1 ∧ (plc (mpl_1 M) p = 4 ∨ plc (mpl_1 M) p = 5)) ∧ r = some (.int (plc (mpl_1 M) p)) ∧ M' = mfN_1 M p) ∨ (¬ p = -1 ∧ ¬ (isP p ∧ M.1 52 60 = -1 ∧ (plc (mpl_1 M) p = 4 ∨ plc (mpl_1 M) p = 5)) ∧ r = some (.int (-1)) ∧ M' = M)))) := by
  refine mx_enter (own := RX8) (L := [.ref 46, .int 1, .int p, .null]) (by decide +kernel) rfl rfl rfl ?_
  intro X hlX hX hR hT
  refine r_aload_n 1 hX dX8_doFree_0 rfl ?_
  refine r_cV0F 4 hX hR tX8_isOn dX8_doFree_1 kX8_isOn lX8_82 rfl rfl rfl rfl rfl rfl ?_
  refine r_Beq 7 28 hX dX8_doFree_4 (fun c1 => ?_) (fun c1 => ?_)
  · refine r_iconst 29 hX dX8_doFree_28 (v := -1) (by decide) ?_
    refine r_iret hX hT dX8_doFree_29 ?_
    exact Or.inl ⟨fun h => by obtain ⟨h1, h2, h3⟩ := h; contradiction, rfl, rfl⟩
  · refine r_aload_n 8 hX dX8_doFree_7 rfl ?_
    refine r_getR 11 hX dX8_doFree_8 fX8_13 rfl rfl rfl ?_
    refine r_iload_n 12 hX dX8_doFree_11 rfl ?_
    refine r_ialdK 13 hX dX8_doFree_12 rfl rfl (vpK rfl) (j := 1) (by decide) ?_
    refine r_iconst 14 hX dX8_doFree_13 (v := -1) (by decide) ?_
    refine r_icmp_eq 17 28 hX dX8_doFree_14 (fun c2 => ?_) (fun c2 => ?_)
    · refine r_iconst 29 hX dX8_doFree_28 (v := -1) (by decide) ?_
      refine r_iret hX hT dX8_doFree_29 ?_
      exact Or.inl ⟨fun h => by obtain ⟨h1, h2, h3⟩ := h; contradiction, rfl, rfl⟩
    · refine r_aload_n 18 hX dX8_doFree_17 rfl ?_
      refine r_iload_n 19 hX dX8_doFree_18 rfl ?_
      refine r_bipush 21 hX dX8_doFree_19 (v := 7) (by decide) ?_
      refine r_cV2F 24 hX hR (tX8_get (t := 1) (k := 7) (n := 63) rfl (by decide)) dX8_doFree_21 kX8_get lX8_95 rfl rfl rfl rfl rfl rfl ?_
      refine r_iconst 25 hX dX8_doFree_24 (v := 1) (by decide) ?_
      refine r_icmp_ne 28 30 hX dX8_doFree_25 (fun c3 => ?_) (fun c3 => ?_)
      · refine r_iload_n 31 hX dX8_doFree_30 rfl ?_
        refine r_iconst 32 hX dX8_doFree_31 (v := -1) (by decide) ?_
        refine r_icmp_ne 35 84 hX dX8_doFree_32 (fun c4 => ?_) (fun c4 => ?_)
        · refine r_iload_n 85 hX dX8_doFree_84 rfl ?_
          refine r_cS1F 88 hX hR tX8_isPlayer dX8_doFree_85 kX8_isPlayer lX8_75 rfl rfl rfl ?_
          refine r_Beq 91 101 hX dX8_doFree_88 (fun c5 => ?_) (fun c5 => ?_)
          · refine r_iconst 102 hX dX8_doFree_101 (v := -1) (by decide) ?_
            refine r_iret hX hT dX8_doFree_102 ?_
            exact Or.inr ⟨⟨c1, c2, c3⟩, Or.inr (Or.inr (Or.inr ⟨c4, fun h => by obtain ⟨h1, h2, h3⟩ := h; contradiction, rfl, rfl⟩))⟩
          · refine r_aload_n 92 hX dX8_doFree_91 rfl ?_
            refine r_iload_n 93 hX dX8_doFree_92 rfl ?_
            refine r_iconst 94 hX dX8_doFree_93 (v := 4) (by decide) ?_
            refine r_cV2F 97 hX hR (tX8_get (t := 1) (k := 4) (n := 60) rfl (by decide)) dX8_doFree_94 kX8_get lX8_95 rfl rfl rfl rfl rfl rfl ?_
            refine r_iconst 98 hX dX8_doFree_97 (v := -1) (by decide) ?_
            refine r_icmp_eq 101 103 hX dX8_doFree_98 (fun c6 => ?_) (fun c6 => ?_)
            · refine r_aload_n 104 hX dX8_doFree_103 rfl ?_
              refine r_iload_n 105 hX dX8_doFree_104 rfl ?_
              refine r_iload_n 106 hX dX8_doFree_105 rfl ?_
              refine r_cV2F 109 hX hR tX8_placeOf_1 dX8_doFree_106 kX8_placeOf lX8_117 rfl rfl rfl rfl rfl rfl ?_
              refine r_istore_n 110 hX dX8_doFree_109 rfl ?_
              refine r_iload_n 111 hX dX8_doFree_110 rfl ?_
              refine r_iconst 112 hX dX8_doFree_111 (v := 4) (by decide) ?_
              refine r_icmp_eq 115 122 hX dX8_doFree_112 (fun c7 => ?_) (fun c7 => ?_)
              · refine r_aload_n 123 hX dX8_doFree_122 rfl ?_
                refine r_iload_n 124 hX dX8_doFree_123 rfl ?_
                refine r_bipush 126 hX dX8_doFree_124 (v := 8) (by decide) ?_
                refine r_iload_n 127 hX dX8_doFree_126 rfl ?_
                refine r_iadd 128 hX dX8_doFree_127 ?_
                refine r_aload_n 129 hX dX8_doFree_128 rfl ?_
                refine r_getR 132 hX dX8_doFree_129 fX8_13 rfl rfl rfl ?_
                refine r_iload_n 133 hX dX8_doFree_132 rfl ?_
                refine r_ialdK 134 hX dX8_doFree_133 rfl rfl (vpK rfl) (j := 1) (by decide) ?_
                refine r_cV3U 137 hX hR (tX8_putV 1 8 64 6 rfl (by decide) (plc_in _ _ (fun h8 => by first | exact absurd (h8.symm.trans c7) (by decide) | exact absurd (h8.symm.trans c8) (by decide)))) dX8_doFree_134 kX8_put lX8_56 rfl rfl rfl rfl rfl rfl ?_
                refine r_aload_n 138 hX dX8_doFree_137 rfl ?_
                refine r_iload_n 139 hX dX8_doFree_138 rfl ?_
                refine r_iconst 140 hX dX8_doFree_139 (v := 4) (by decide) ?_
                refine r_iload_n 141 hX dX8_doFree_140 rfl ?_
                refine r_cV3U 144 hX hR (tX8_put (t := 1) (k := 4) (n := 60) rfl (by decide)) dX8_doFree_141 kX8_put lX8_56 rfl rfl rfl rfl rfl rfl ?_
                refine r_aload_n 145 hX dX8_doFree_144 rfl ?_
                refine r_iload_n 146 hX dX8_doFree_145 rfl ?_
                refine r_bipush 148 hX dX8_doFree_146 (v := 7) (by decide) ?_
                refine r_iconst 149 hX dX8_doFree_148 (v := 1) (by decide) ?_
                refine r_cV3U 152 hX hR (tX8_put (t := 1) (k := 7) (n := 63) rfl (by decide)) dX8_doFree_149 kX8_put lX8_56 rfl rfl rfl rfl rfl rfl ?_
                refine r_iload_n 153 hX dX8_doFree_152 rfl ?_
                refine r_iret hX hT dX8_doFree_153 ?_
                first | exact Or.inr ⟨⟨c1, c2, c3⟩, Or.inr (Or.inl ⟨c4, c5, rfl, rfl⟩)⟩ | exact Or.inr ⟨⟨c1, c2, c3⟩, Or.inr (Or.inr (Or.inl ⟨c4, ⟨c5, c6, by first | exact Or.inl (by assumption) | exact Or.inr (by assumption)⟩, rfl, rfl⟩))⟩
              · refine r_iload_n 116 hX dX8_doFree_115 rfl ?_
                refine r_iconst 117 hX dX8_doFree_116 (v := 5) (by decide) ?_
                refine r_icmp_eq 120 122 hX dX8_doFree_117 (fun c8 => ?_) (fun c8 => ?_)
                · refine r_aload_n 123 hX dX8_doFree_122 rfl ?_
                  refine r_iload_n 124 hX dX8_doFree_123 rfl ?_
                  refine r_bipush 126 hX dX8_doFree_124 (v := 8) (by decide) ?_
                  refine r_iload_n 127 hX dX8_doFree_126 rfl ?_
                  refine r_iadd 128 hX dX8_doFree_127 ?_
                  refine r_aload_n 129 hX dX8_doFree_128 rfl ?_
                  refine r_getR 132 hX dX8_doFree_129 fX8_13 rfl rfl rfl ?_
                  refine r_iload_n 133 hX dX8_doFree_132 rfl ?_
                  refine r_ialdK 134 hX dX8_doFree_133 rfl rfl (vpK rfl) (j := 1) (by decide) ?_
                  refine r_cV3U 137 hX hR (tX8_putV 1 8 64 6 rfl (by decide) (plc_in _ _ (fun h8 => by first | exact absurd (h8.symm.trans c7) (by decide) | exact absurd (h8.symm.trans c8) (by decide)))) dX8_doFree_134 kX8_put lX8_56 rfl rfl rfl rfl rfl rfl ?_
                  refine r_aload_n 138 hX dX8_doFree_137 rfl ?_
                  refine r_iload_n 139 hX dX8_doFree_138 rfl ?_
                  refine r_iconst 140 hX dX8_doFree_139 (v := 4) (by decide) ?_
                  refine r_iload_n 141 hX dX8_doFree_140 rfl ?_
                  refine r_cV3U 144 hX hR (tX8_put (t := 1) (k := 4) (n := 60) rfl (by decide)) dX8_doFree_141 kX8_put lX8_56 rfl rfl rfl rfl rfl rfl ?_
                  refine r_aload_n 145 hX dX8_doFree_144 rfl ?_
                  refine r_iload_n 146 hX dX8_doFree_145 rfl ?_
                  refine r_bipush 148 hX dX8_doFree_146 (v := 7) (by decide) ?_
                  refine r_iconst 149 hX dX8_doFree_148 (v := 1) (by decide) ?_
                  refine r_cV3U 152 hX hR (tX8_put (t := 1) (k := 7) (n := 63) rfl (by decide)) dX8_doFree_149 kX8_put lX8_56 rfl rfl rfl rfl rfl rfl ?_
                  refine r_iload_n 153 hX dX8_doFree_152 rfl ?_
                  refine r_iret hX hT dX8_doFree_153 ?_
                  first | exact Or.inr ⟨⟨c1, c2, c3⟩, Or.inr (Or.inl ⟨c4, c5, rfl, rfl⟩)⟩ | exact Or.inr ⟨⟨c1, c2, c3⟩, Or.inr (Or.inr (Or.inl ⟨c4, ⟨c5, c6, by first | exact Or.inl (by assumption) | exact Or.inr (by assumption)⟩, rfl, rfl⟩))⟩
                · refine r_iconst 121 hX dX8_doFree_120 (v := -1) (by decide) ?_
                  refine r_iret hX hT dX8_doFree_121 ?_
                  exact Or.inr ⟨⟨c1, c2, c3⟩, Or.inr (Or.inr (Or.inr ⟨c4, fun h => by obtain ⟨h1, h2, h3 | h3⟩ := h <;> contradiction, rfl, rfl⟩))⟩
            · refine r_iconst 102 hX dX8_doFree_101 (v := -1) (by decide) ?_
              refine r_iret hX hT dX8_doFree_102 ?_
              exact Or.inr ⟨⟨c1, c2, c3⟩, Or.inr (Or.inr (Or.inr ⟨c4, fun h => by obtain ⟨h1, h2, h3⟩ := h; contradiction, rfl, rfl⟩))⟩
        · refine r_aload_n 36 hX dX8_doFree_35 rfl ?_
          refine r_iload_n 37 hX dX8_doFree_36 rfl ?_
          refine r_iconst 38 hX dX8_doFree_37 (v := 4) (by decide) ?_
          refine r_cV2F 41 hX hR (tX8_get (t := 1) (k := 4) (n := 60) rfl (by decide)) dX8_doFree_38 kX8_get lX8_95 rfl rfl rfl rfl rfl rfl ?_
          refine r_iconst 42 hX dX8_doFree_41 (v := -1) (by decide) ?_
          refine r_icmp_ne 45 47 hX dX8_doFree_42 (fun c5 => ?_) (fun c5 => ?_)
          · refine r_aload_n 48 hX dX8_doFree_47 rfl ?_
            refine r_iload_n 49 hX dX8_doFree_48 rfl ?_
            refine r_aload_n 50 hX dX8_doFree_49 rfl ?_
            refine r_getR 53 hX dX8_doFree_50 fX8_13 rfl rfl rfl ?_
            refine r_iload_n 54 hX dX8_doFree_53 rfl ?_
            refine r_ialdK 55 hX dX8_doFree_54 rfl rfl (vpK rfl) (j := 1) (by decide) ?_
            refine r_cV2F 58 hX hR tX8_placeOf_1 dX8_doFree_55 kX8_placeOf lX8_117 rfl rfl rfl rfl rfl rfl ?_
            refine r_istore_n 59 hX dX8_doFree_58 rfl ?_
            refine r_aload_n 60 hX dX8_doFree_59 rfl ?_
            refine r_iload_n 61 hX dX8_doFree_60 rfl ?_
            refine r_bipush 63 hX dX8_doFree_61 (v := 8) (by decide) ?_
            refine r_iload_n 64 hX dX8_doFree_63 rfl ?_
            refine r_iadd 65 hX dX8_doFree_64 ?_
            refine r_aload_n 66 hX dX8_doFree_65 rfl ?_
            refine r_iload_n 67 hX dX8_doFree_66 rfl ?_
            refine r_iconst 68 hX dX8_doFree_67 (v := 4) (by decide) ?_
            refine r_cV2F 71 hX hR (tX8_get (t := 1) (k := 4) (n := 60) rfl (by decide)) dX8_doFree_68 kX8_get lX8_95 rfl rfl rfl rfl rfl rfl ?_
            refine r_cV3U 74 hX hR (tX8_putV 1 8 64 6 rfl (by decide) (plc_in _ _ (hf c5))) dX8_doFree_71 kX8_put lX8_56 rfl rfl rfl rfl rfl rfl ?_
            refine r_aload_n 75 hX dX8_doFree_74 rfl ?_
            refine r_iload_n 76 hX dX8_doFree_75 rfl ?_
            refine r_iconst 77 hX dX8_doFree_76 (v := 4) (by decide) ?_
            refine r_iconst 78 hX dX8_doFree_77 (v := -1) (by decide) ?_
            refine r_cV3U 81 hX hR (tX8_put (t := 1) (k := 4) (n := 60) rfl (by decide)) dX8_doFree_78 kX8_put lX8_56 rfl rfl rfl rfl rfl rfl ?_
            refine r_goto 144 hX dX8_doFree_81 ?_
            refine r_aload_n 145 hX dX8_doFree_144 rfl ?_
            refine r_iload_n 146 hX dX8_doFree_145 rfl ?_
            refine r_bipush 148 hX dX8_doFree_146 (v := 7) (by decide) ?_
            refine r_iconst 149 hX dX8_doFree_148 (v := 1) (by decide) ?_
            refine r_cV3U 152 hX hR (tX8_put (t := 1) (k := 7) (n := 63) rfl (by decide)) dX8_doFree_149 kX8_put lX8_56 rfl rfl rfl rfl rfl rfl ?_
            refine r_iload_n 153 hX dX8_doFree_152 rfl ?_
            refine r_iret hX hT dX8_doFree_153 ?_
            first | exact Or.inr ⟨⟨c1, c2, c3⟩, Or.inr (Or.inl ⟨c4, c5, rfl, rfl⟩)⟩ | exact Or.inr ⟨⟨c1, c2, c3⟩, Or.inr (Or.inr (Or.inl ⟨c4, ⟨c5, c6, by first | exact Or.inl (by assumption) | exact Or.inr (by assumption)⟩, rfl, rfl⟩))⟩
          · refine r_iconst 46 hX dX8_doFree_45 (v := -1) (by decide) ?_
            refine r_iret hX hT dX8_doFree_46 ?_
            exact Or.inr ⟨⟨c1, c2, c3⟩, Or.inl ⟨c4, c5, rfl, rfl⟩⟩
      · refine r_iconst 29 hX dX8_doFree_28 (v := -1) (by decide) ?_
        refine r_iret hX hT dX8_doFree_29 ?_
        exact Or.inl ⟨fun h => by obtain ⟨h1, h2, h3⟩ := h; contradiction, rfl, rfl⟩
set_option maxRecDepth 100000 in
set_option maxHeartbeats 4000000 in
theorem tX8_doPause_1 {l : Launch} {G : mx_G} {M : mx_Mem} : mx_Met l G yX8_doPause cX8_doPause 2 ((some FieldType.int)) 1 23 [.ref 46, .int 1] M (mx_F (some (.int (if ¬ M.1 52 1 = 1 ∨ M.1 49 5 ≤ M.1 52 59 then -1 else M.1 52 59 + 1))) (if ¬ M.1 52 1 = 1 ∨ M.1 49 5 ≤ M.1 52 59 then M else mI M 52 59 (M.1 52 59 + 1))) := by
  refine mx_enter (own := RX8) (L := [.ref 46, .int 1]) (by decide +kernel) rfl rfl rfl ?_
  intro X hlX hX hR hT
  refine r_aload_n 1 hX dX8_doPause_0 rfl ?_
  refine r_cV0F 4 hX hR tX8_isOn dX8_doPause_1 kX8_isOn lX8_82 rfl rfl rfl rfl rfl rfl ?_
  refine r_Beq 7 22 hX dX8_doPause_4 (fun c1 => ?_) (fun c1 => ?_)
  · refine r_iconst 23 hX dX8_doPause_22 (v := -1) (by decide) ?_
    refine r_iret hX hT dX8_doPause_23 ?_
    exact ⟨by simp [*, mI_self], by simp [*]⟩
  · refine r_aload_n 8 hX dX8_doPause_7 rfl ?_
    refine r_iload_n 9 hX dX8_doPause_8 rfl ?_
    refine r_iconst 10 hX dX8_doPause_9 (v := 3) (by decide) ?_
    refine r_cV2F 13 hX hR (tX8_get (t := 1) (k := 3) (n := 59) rfl (by decide)) dX8_doPause_10 kX8_get lX8_95 rfl rfl rfl rfl rfl rfl ?_
    refine r_aload_n 14 hX dX8_doPause_13 rfl ?_
    refine r_getR 17 hX dX8_doPause_14 fX8_16 rfl rfl rfl ?_
    refine r_iconst 18 hX dX8_doPause_17 (v := 5) (by decide) ?_
    refine r_ialdK 19 hX dX8_doPause_18 rfl rfl (vpK rfl) (j := 5) (by decide) ?_
    refine r_Icmp_lt 22 24 hX dX8_doPause_19 (fun c2 => ?_) (fun c2 => ?_)
    · refine r_aload_n 25 hX dX8_doPause_24 rfl ?_
      refine r_iload_n 26 hX dX8_doPause_25 rfl ?_
      refine r_iconst 27 hX dX8_doPause_26 (v := 3) (by decide) ?_
      refine r_aload_n 28 hX dX8_doPause_27 rfl ?_
      refine r_iload_n 29 hX dX8_doPause_28 rfl ?_
      refine r_iconst 30 hX dX8_doPause_29 (v := 3) (by decide) ?_
      refine r_cV2F 33 hX hR (tX8_get (t := 1) (k := 3) (n := 59) rfl (by decide)) dX8_doPause_30 kX8_get lX8_95 rfl rfl rfl rfl rfl rfl ?_
      refine r_iconst 34 hX dX8_doPause_33 (v := 1) (by decide) ?_
      refine r_iadd 35 hX dX8_doPause_34 ?_
      refine r_cV3U 38 hX hR (tX8_put (t := 1) (k := 3) (n := 59) rfl (by decide)) dX8_doPause_35 kX8_put lX8_56 rfl rfl rfl rfl rfl rfl ?_
      refine r_aload_n 39 hX dX8_doPause_38 rfl ?_
      refine r_iload_n 40 hX dX8_doPause_39 rfl ?_
      refine r_iconst 41 hX dX8_doPause_40 (v := 3) (by decide) ?_
      refine r_cV2F 44 hX hR (tX8_get (t := 1) (k := 3) (n := 59) rfl (by decide)) dX8_doPause_41 kX8_get lX8_95 rfl rfl rfl rfl rfl rfl ?_
      refine r_iret hX hT dX8_doPause_44 ?_
      exact ⟨by simp [*, mI_self], by simp [*]⟩
    · refine r_iconst 23 hX dX8_doPause_22 (v := -1) (by decide) ?_
      refine r_iret hX hT dX8_doPause_23 ?_
      exact ⟨by simp [*, mI_self], by simp [*]⟩
def mtO_1 (M : mx_Mem) : mx_Mem := mI (mI (mI (mI (mI (mI M 52 64 (M.1 52 65)) 52 65 (M.1 52 66)) 52 66 (M.1 52 67)) 52 67 (M.1 52 68)) 52 68 (M.1 52 69)) 52 69 (M.1 52 64)
def mtN_1 (M : mx_Mem) : mx_Mem := mI (mtO_1 M) 52 62 (M.1 52 62 + 1)
def mtn_1 (M : mx_Mem) : mx_Mem := if M.1 52 60 = -1 ∨ ¬ M.1 52 68 = M.1 48 1 then mtN_1 M else mI (mI (mtN_1 M) 52 67 (M.1 52 60)) 52 60 (-1)
set_option maxRecDepth 100000 in
set_option maxHeartbeats 4000000 in
theorem tX8_turn_1 {l : Launch} {G : mx_G} {M : mx_Mem} : mx_Met l G yX8_turn cX8_turn 4 (none) 1 23 [.ref 46, .int 1] M (mx_F none (mtn_1 M)) := by
  refine mx_enter (own := RX8) (L := [.ref 46, .int 1, .null, .null]) (by decide +kernel) rfl rfl rfl ?_
  intro X hlX hX hR hT
  refine r_aload_n 1 hX dX8_turn_0 rfl ?_
  refine r_iload_n 2 hX dX8_turn_1 rfl ?_
  refine r_bipush 4 hX dX8_turn_2 (v := 8) (by decide) ?_
  refine r_cV2F 7 hX hR (tX8_get (t := 1) (k := 8) (n := 64) rfl (by decide)) dX8_turn_4 kX8_get lX8_95 rfl rfl rfl rfl rfl rfl ?_
  refine r_istore_n 8 hX dX8_turn_7 rfl ?_
  refine r_iconst 9 hX dX8_turn_8 (v := 0) (by decide) ?_
  refine r_istore_n 10 hX dX8_turn_9 rfl ?_
  refine r_iload_n 11 hX dX8_turn_10 rfl ?_
  refine r_iconst 12 hX dX8_turn_11 (v := 5) (by decide) ?_
  refine r_icmp_ge 15 41 hX dX8_turn_12 (fun c => absurd c (by decide)) (fun _ => ?_)
  refine r_aload_n 16 hX dX8_turn_15 rfl ?_
  refine r_iload_n 17 hX dX8_turn_16 rfl ?_
  refine r_bipush 19 hX dX8_turn_17 (v := 8) (by decide) ?_
  refine r_iload_n 20 hX dX8_turn_19 rfl ?_
  refine r_iaddK 21 hX dX8_turn_20 (w := 8) (by decide) ?_
  refine r_aload_n 22 hX dX8_turn_21 rfl ?_
  refine r_iload_n 23 hX dX8_turn_22 rfl ?_
  refine r_bipush 25 hX dX8_turn_23 (v := 8) (by decide) ?_
  refine r_iload_n 26 hX dX8_turn_25 rfl ?_
  refine r_iaddK 27 hX dX8_turn_26 (w := 8) (by decide) ?_
  refine r_iconst 28 hX dX8_turn_27 (v := 1) (by decide) ?_
  refine r_iaddK 29 hX dX8_turn_28 (w := 9) (by decide) ?_
  refine r_cV2F 32 hX hR (tX8_get (t := 1) (k := 9) (n := 65) rfl (by decide)) dX8_turn_29 kX8_get lX8_95 rfl rfl rfl rfl rfl rfl ?_
  refine r_cV3U 35 hX hR (tX8_put (t := 1) (k := 8) (n := 64) rfl (by decide)) dX8_turn_32 kX8_put lX8_56 rfl rfl rfl rfl rfl rfl ?_
  refine r_iincK 38 hX dX8_turn_35 rfl (w := 1) (by decide) rfl ?_
  refine (show mx_WW G X 38 [_, _, _, _] _ _ from ?_)
  refine r_goto 10 hX dX8_turn_38 ?_
  refine r_iload_n 11 hX dX8_turn_10 rfl ?_
  refine r_iconst 12 hX dX8_turn_11 (v := 5) (by decide) ?_
  refine r_icmp_ge 15 41 hX dX8_turn_12 (fun c => absurd c (by decide)) (fun _ => ?_)
  refine r_aload_n 16 hX dX8_turn_15 rfl ?_
  refine r_iload_n 17 hX dX8_turn_16 rfl ?_
  refine r_bipush 19 hX dX8_turn_17 (v := 8) (by decide) ?_
  refine r_iload_n 20 hX dX8_turn_19 rfl ?_
  refine r_iaddK 21 hX dX8_turn_20 (w := 9) (by decide) ?_
  refine r_aload_n 22 hX dX8_turn_21 rfl ?_
  refine r_iload_n 23 hX dX8_turn_22 rfl ?_
  refine r_bipush 25 hX dX8_turn_23 (v := 8) (by decide) ?_
  refine r_iload_n 26 hX dX8_turn_25 rfl ?_
  refine r_iaddK 27 hX dX8_turn_26 (w := 9) (by decide) ?_
  refine r_iconst 28 hX dX8_turn_27 (v := 1) (by decide) ?_
  refine r_iaddK 29 hX dX8_turn_28 (w := 10) (by decide) ?_
  refine r_cV2F 32 hX hR (tX8_get (t := 1) (k := 10) (n := 66) rfl (by decide)) dX8_turn_29 kX8_get lX8_95 rfl rfl rfl rfl rfl rfl ?_
  refine r_cV3U 35 hX hR (tX8_put (t := 1) (k := 9) (n := 65) rfl (by decide)) dX8_turn_32 kX8_put lX8_56 rfl rfl rfl rfl rfl rfl ?_
  refine r_iincK 38 hX dX8_turn_35 rfl (w := 2) (by decide) rfl ?_
  refine r_goto 10 hX dX8_turn_38 ?_
  refine r_iload_n 11 hX dX8_turn_10 rfl ?_
  refine r_iconst 12 hX dX8_turn_11 (v := 5) (by decide) ?_
  refine r_icmp_ge 15 41 hX dX8_turn_12 (fun c => absurd c (by decide)) (fun _ => ?_)
  refine r_aload_n 16 hX dX8_turn_15 rfl ?_
  refine r_iload_n 17 hX dX8_turn_16 rfl ?_
  refine r_bipush 19 hX dX8_turn_17 (v := 8) (by decide) ?_
  refine r_iload_n 20 hX dX8_turn_19 rfl ?_
  refine r_iaddK 21 hX dX8_turn_20 (w := 10) (by decide) ?_
  refine r_aload_n 22 hX dX8_turn_21 rfl ?_
  refine r_iload_n 23 hX dX8_turn_22 rfl ?_
  refine r_bipush 25 hX dX8_turn_23 (v := 8) (by decide) ?_
  refine r_iload_n 26 hX dX8_turn_25 rfl ?_
  refine r_iaddK 27 hX dX8_turn_26 (w := 10) (by decide) ?_
  refine r_iconst 28 hX dX8_turn_27 (v := 1) (by decide) ?_
  refine r_iaddK 29 hX dX8_turn_28 (w := 11) (by decide) ?_
  refine r_cV2F 32 hX hR (tX8_get (t := 1) (k := 11) (n := 67) rfl (by decide)) dX8_turn_29 kX8_get lX8_95 rfl rfl rfl rfl rfl rfl ?_
  refine r_cV3U 35 hX hR (tX8_put (t := 1) (k := 10) (n := 66) rfl (by decide)) dX8_turn_32 kX8_put lX8_56 rfl rfl rfl rfl rfl rfl ?_
  refine r_iincK 38 hX dX8_turn_35 rfl (w := 3) (by decide) rfl ?_
  refine r_goto 10 hX dX8_turn_38 ?_
  refine r_iload_n 11 hX dX8_turn_10 rfl ?_
  refine r_iconst 12 hX dX8_turn_11 (v := 5) (by decide) ?_
  refine r_icmp_ge 15 41 hX dX8_turn_12 (fun c => absurd c (by decide)) (fun _ => ?_)
  refine r_aload_n 16 hX dX8_turn_15 rfl ?_
  refine r_iload_n 17 hX dX8_turn_16 rfl ?_
  refine r_bipush 19 hX dX8_turn_17 (v := 8) (by decide) ?_
  refine r_iload_n 20 hX dX8_turn_19 rfl ?_
  refine r_iaddK 21 hX dX8_turn_20 (w := 11) (by decide) ?_
  refine r_aload_n 22 hX dX8_turn_21 rfl ?_
  refine r_iload_n 23 hX dX8_turn_22 rfl ?_
  refine r_bipush 25 hX dX8_turn_23 (v := 8) (by decide) ?_
  refine r_iload_n 26 hX dX8_turn_25 rfl ?_
  refine r_iaddK 27 hX dX8_turn_26 (w := 11) (by decide) ?_
  refine r_iconst 28 hX dX8_turn_27 (v := 1) (by decide) ?_
  refine r_iaddK 29 hX dX8_turn_28 (w := 12) (by decide) ?_
  refine r_cV2F 32 hX hR (tX8_get (t := 1) (k := 12) (n := 68) rfl (by decide)) dX8_turn_29 kX8_get lX8_95 rfl rfl rfl rfl rfl rfl ?_
  refine r_cV3U 35 hX hR (tX8_put (t := 1) (k := 11) (n := 67) rfl (by decide)) dX8_turn_32 kX8_put lX8_56 rfl rfl rfl rfl rfl rfl ?_
  refine r_iincK 38 hX dX8_turn_35 rfl (w := 4) (by decide) rfl ?_
  refine (show mx_WW G X 38 [_, _, _, _] _ _ from ?_)
  refine r_goto 10 hX dX8_turn_38 ?_
  refine r_iload_n 11 hX dX8_turn_10 rfl ?_
  refine r_iconst 12 hX dX8_turn_11 (v := 5) (by decide) ?_
  refine r_icmp_ge 15 41 hX dX8_turn_12 (fun c => absurd c (by decide)) (fun _ => ?_)
  refine r_aload_n 16 hX dX8_turn_15 rfl ?_
  refine r_iload_n 17 hX dX8_turn_16 rfl ?_
  refine r_bipush 19 hX dX8_turn_17 (v := 8) (by decide) ?_
  refine r_iload_n 20 hX dX8_turn_19 rfl ?_
  refine r_iaddK 21 hX dX8_turn_20 (w := 12) (by decide) ?_
  refine r_aload_n 22 hX dX8_turn_21 rfl ?_
  refine r_iload_n 23 hX dX8_turn_22 rfl ?_
  refine r_bipush 25 hX dX8_turn_23 (v := 8) (by decide) ?_
  refine r_iload_n 26 hX dX8_turn_25 rfl ?_
  refine r_iaddK 27 hX dX8_turn_26 (w := 12) (by decide) ?_
  refine r_iconst 28 hX dX8_turn_27 (v := 1) (by decide) ?_
  refine r_iaddK 29 hX dX8_turn_28 (w := 13) (by decide) ?_
  refine r_cV2F 32 hX hR (tX8_get (t := 1) (k := 13) (n := 69) rfl (by decide)) dX8_turn_29 kX8_get lX8_95 rfl rfl rfl rfl rfl rfl ?_
  refine r_cV3U 35 hX hR (tX8_put (t := 1) (k := 12) (n := 68) rfl (by decide)) dX8_turn_32 kX8_put lX8_56 rfl rfl rfl rfl rfl rfl ?_
  refine r_iincK 38 hX dX8_turn_35 rfl (w := 5) (by decide) rfl ?_
  refine r_goto 10 hX dX8_turn_38 ?_
  refine r_iload_n 11 hX dX8_turn_10 rfl ?_
  refine r_iconst 12 hX dX8_turn_11 (v := 5) (by decide) ?_
  refine r_icmp_ge 15 41 hX dX8_turn_12 (fun _ => ?_) (fun c => absurd c (by decide))
  refine r_aload_n 42 hX dX8_turn_41 rfl ?_
  refine r_iload_n 43 hX dX8_turn_42 rfl ?_
  refine r_bipush 45 hX dX8_turn_43 (v := 13) (by decide) ?_
  refine r_iload_n 46 hX dX8_turn_45 rfl ?_
  refine r_cV3U 49 hX hR (tX8_put (t := 1) (k := 13) (n := 69) rfl (by decide)) dX8_turn_46 kX8_put lX8_56 rfl rfl rfl rfl rfl rfl ?_
  refine r_aload_n 50 hX dX8_turn_49 rfl ?_
  refine r_iload_n 51 hX dX8_turn_50 rfl ?_
  refine r_bipush 53 hX dX8_turn_51 (v := 6) (by decide) ?_
  refine r_aload_n 54 hX dX8_turn_53 rfl ?_
  refine r_iload_n 55 hX dX8_turn_54 rfl ?_
  refine r_bipush 57 hX dX8_turn_55 (v := 6) (by decide) ?_
  refine r_cV2F 60 hX hR (tX8_get (t := 1) (k := 6) (n := 62) rfl (by decide)) dX8_turn_57 kX8_get lX8_95 rfl rfl rfl rfl rfl rfl ?_
  refine r_iconst 61 hX dX8_turn_60 (v := 1) (by decide) ?_
  refine r_iadd 62 hX dX8_turn_61 ?_
  refine r_cV3U 65 hX hR (tX8_put (t := 1) (k := 6) (n := 62) rfl (by decide)) dX8_turn_62 kX8_put lX8_56 rfl rfl rfl rfl rfl rfl ?_
  refine r_aload_n 66 hX dX8_turn_65 rfl ?_
  refine r_iload_n 67 hX dX8_turn_66 rfl ?_
  refine r_iconst 68 hX dX8_turn_67 (v := 4) (by decide) ?_
  refine r_cV2F 71 hX hR (tX8_get (t := 1) (k := 4) (n := 60) rfl (by decide)) dX8_turn_68 kX8_get lX8_95 rfl rfl rfl rfl rfl rfl ?_
  refine r_iconst 72 hX dX8_turn_71 (v := -1) (by decide) ?_
  refine r_icmp_eq 75 91 hX dX8_turn_72 (fun c1 => ?_) (fun c1 => ?_)
  · refine r_vret hX hT dX8_turn_91 ?_
    refine ⟨rfl, ?_⟩
    unfold mtn_1
    first | (rw [if_pos (Or.inl (show M.1 52 60 = -1 from c1))]; rfl) | (rw [if_pos (Or.inr (show ¬ M.1 52 68 = M.1 48 1 from c2))]; rfl)
  · refine r_aload_n 76 hX dX8_turn_75 rfl ?_
    refine r_iload_n 77 hX dX8_turn_76 rfl ?_
    refine r_bipush 79 hX dX8_turn_77 (v := 11) (by decide) ?_
    refine r_cV2F 82 hX hR (tX8_get (t := 1) (k := 11) (n := 67) rfl (by decide)) dX8_turn_79 kX8_get lX8_95 rfl rfl rfl rfl rfl rfl ?_
    refine r_aload_n 83 hX dX8_turn_82 rfl ?_
    refine r_getR 86 hX dX8_turn_83 fX8_13 rfl rfl rfl ?_
    refine r_iload_n 87 hX dX8_turn_86 rfl ?_
    refine r_ialdK 88 hX dX8_turn_87 rfl rfl (vpK rfl) (j := 1) (by decide) ?_
    refine r_icmp_eq 91 92 hX dX8_turn_88 (fun c2 => ?_) (fun c2 => ?_)
    · refine r_aload_n 93 hX dX8_turn_92 rfl ?_
      refine r_iload_n 94 hX dX8_turn_93 rfl ?_
      refine r_bipush 96 hX dX8_turn_94 (v := 11) (by decide) ?_
      refine r_aload_n 97 hX dX8_turn_96 rfl ?_
      refine r_iload_n 98 hX dX8_turn_97 rfl ?_
      refine r_iconst 99 hX dX8_turn_98 (v := 4) (by decide) ?_
      refine r_cV2F 102 hX hR (tX8_get (t := 1) (k := 4) (n := 60) rfl (by decide)) dX8_turn_99 kX8_get lX8_95 rfl rfl rfl rfl rfl rfl ?_
      refine r_cV3U 105 hX hR (tX8_put (t := 1) (k := 11) (n := 67) rfl (by decide)) dX8_turn_102 kX8_put lX8_56 rfl rfl rfl rfl rfl rfl ?_
      refine r_aload_n 106 hX dX8_turn_105 rfl ?_
      refine r_iload_n 107 hX dX8_turn_106 rfl ?_
      refine r_iconst 108 hX dX8_turn_107 (v := 4) (by decide) ?_
      refine r_iconst 109 hX dX8_turn_108 (v := -1) (by decide) ?_
      refine r_cV3U 112 hX hR (tX8_put (t := 1) (k := 4) (n := 60) rfl (by decide)) dX8_turn_109 kX8_put lX8_56 rfl rfl rfl rfl rfl rfl ?_
      refine r_vret hX hT dX8_turn_112 ?_
      refine ⟨rfl, ?_⟩
      unfold mtn_1
      rw [if_neg (fun h => h.elim (fun h => (show ¬ M.1 52 60 = -1 from c1) h) (fun h => h (show M.1 52 68 = M.1 48 1 from c2)))]
      rfl
    · refine r_vret hX hT dX8_turn_91 ?_
      refine ⟨rfl, ?_⟩
      unfold mtn_1
      first | (rw [if_pos (Or.inl (show M.1 52 60 = -1 from c1))]; rfl) | (rw [if_pos (Or.inr (show ¬ M.1 52 68 = M.1 48 1 from c2))]; rfl)
set_option maxRecDepth 100000 in
set_option maxHeartbeats 4000000 in
theorem tX8_playerOf {l : Launch} {G : mx_G} {c : Int32} {M : mx_Mem} : mx_Met l G yX8_playerOf cX8_playerOf 1 ((some FieldType.int)) 0 0 [.int c] M (mx_F (some (.int (plo c))) M) := by
  refine mx_enter (own := RX8) (L := [.int c]) (by decide +kernel) rfl rfl rfl ?_
  intro X hlX hX hR hT
  refine r_iload_n 1 hX dX8_playerOf_0 rfl ?_
  refine r_bipush 3 hX dX8_playerOf_1 (v := 48) (by decide) ?_
  refine r_Icmp_lt 6 19 hX dX8_playerOf_3 (fun c1 => ?_) (fun c1 => ?_)
  · refine r_iload_n 20 hX dX8_playerOf_19 rfl ?_
    refine r_bipush 22 hX dX8_playerOf_20 (v := 120) (by decide) ?_
    refine r_icmp_ne 25 30 hX dX8_playerOf_22 (fun c2 => ?_) (fun c2 => ?_)
    · refine r_iload_n 31 hX dX8_playerOf_30 rfl ?_
      refine r_bipush 33 hX dX8_playerOf_31 (v := 121) (by decide) ?_
      refine r_icmp_ne 36 41 hX dX8_playerOf_33 (fun c3 => ?_) (fun c3 => ?_)
      · refine r_iconst 42 hX dX8_playerOf_41 (v := -1) (by decide) ?_
        refine r_iret hX hT dX8_playerOf_42 ?_
        exact ⟨by simp [*, plo], rfl⟩
      · refine r_bipush 38 hX dX8_playerOf_36 (v := 11) (by decide) ?_
        refine r_goto 42 hX dX8_playerOf_38 ?_
        refine r_iret hX hT dX8_playerOf_42 ?_
        exact ⟨by simp [*, plo], rfl⟩
    · refine r_bipush 27 hX dX8_playerOf_25 (v := 10) (by decide) ?_
      refine r_goto 42 hX dX8_playerOf_27 ?_
      refine r_iret hX hT dX8_playerOf_42 ?_
      exact ⟨by simp [*, plo], rfl⟩
  · refine r_iload_n 7 hX dX8_playerOf_6 rfl ?_
    refine r_bipush 9 hX dX8_playerOf_7 (v := 57) (by decide) ?_
    refine r_Icmp_gt 12 19 hX dX8_playerOf_9 (fun c4 => ?_) (fun c4 => ?_)
    · refine r_iload_n 20 hX dX8_playerOf_19 rfl ?_
      refine r_bipush 22 hX dX8_playerOf_20 (v := 120) (by decide) ?_
      refine r_icmp_ne 25 30 hX dX8_playerOf_22 (fun c5 => ?_) (fun c5 => ?_)
      · refine r_iload_n 31 hX dX8_playerOf_30 rfl ?_
        refine r_bipush 33 hX dX8_playerOf_31 (v := 121) (by decide) ?_
        refine r_icmp_ne 36 41 hX dX8_playerOf_33 (fun c6 => ?_) (fun c6 => ?_)
        · refine r_iconst 42 hX dX8_playerOf_41 (v := -1) (by decide) ?_
          refine r_iret hX hT dX8_playerOf_42 ?_
          exact ⟨by simp [*, plo], rfl⟩
        · refine r_bipush 38 hX dX8_playerOf_36 (v := 11) (by decide) ?_
          refine r_goto 42 hX dX8_playerOf_38 ?_
          refine r_iret hX hT dX8_playerOf_42 ?_
          exact ⟨by simp [*, plo], rfl⟩
      · refine r_bipush 27 hX dX8_playerOf_25 (v := 10) (by decide) ?_
        refine r_goto 42 hX dX8_playerOf_27 ?_
        refine r_iret hX hT dX8_playerOf_42 ?_
        exact ⟨by simp [*, plo], rfl⟩
    · refine r_iload_n 13 hX dX8_playerOf_12 rfl ?_
      refine r_bipush 15 hX dX8_playerOf_13 (v := 48) (by decide) ?_
      refine r_isub 16 hX dX8_playerOf_15 ?_
      refine r_goto 42 hX dX8_playerOf_16 ?_
      refine r_iret hX hT dX8_playerOf_42 ?_
      exact ⟨by simp [*, plo], rfl⟩
set_option maxRecDepth 100000 in
set_option maxHeartbeats 4000000 in
theorem tX8_row {l : Launch} {G : mx_G} {i : Int32} {M : mx_Mem} : mx_Met l G yX8_row cX8_row 2 ((some FieldType.int)) 0 0 [.ref 46, .int i] M (mx_F (some (.int (if i = 0 ∧ M.1 46 12 = 1 then M.1 46 11 else 0))) (if i = 0 ∧ M.1 46 12 = 1 then th0 M else mI (th0 M) 46 13 1)) := by
  refine mx_enter (own := RX8) (L := [.ref 46, .int i]) (by decide +kernel) rfl rfl rfl ?_
  intro X hlX hX hR hT
  refine r_aload_n 1 hX dX8_row_0 rfl ?_
  refine r_iconst 2 hX dX8_row_1 (v := 0) (by decide) ?_
  refine r_putI 5 hX dX8_row_2 fX8_63 fp8_13 rfl rfl rfl ?_
  refine r_iload_n 6 hX dX8_row_5 rfl ?_
  refine r_if_ne 9 22 hX dX8_row_6 (fun c1 => ?_) (fun c1 => ?_)
  · refine r_aload_n 23 hX dX8_row_22 rfl ?_
    refine r_iconst 24 hX dX8_row_23 (v := 1) (by decide) ?_
    refine r_putI 27 hX dX8_row_24 fX8_63 fp8_13 rfl rfl rfl ?_
    refine r_iconst 28 hX dX8_row_27 (v := 0) (by decide) ?_
    refine r_iret hX hT dX8_row_28 ?_
    first | (rw [if_neg (fun h => c1 h.1), if_neg (fun h => c1 h.1)]; exact ⟨rfl, rfl⟩) | (have h2 : ¬ M.1 46 12 = 1 := c2; rw [if_neg (fun h => h2 h.2), if_neg (fun h => h2 h.2)]; exact ⟨rfl, rfl⟩)
  · refine r_aload_n 10 hX dX8_row_9 rfl ?_
    refine r_getI 13 hX dX8_row_10 fX8_132 rfl rfl rfl ?_
    refine r_iconst 14 hX dX8_row_13 (v := 1) (by decide) ?_
    refine r_icmp_ne 17 22 hX dX8_row_14 (fun c2 => ?_) (fun c2 => ?_)
    · refine r_aload_n 23 hX dX8_row_22 rfl ?_
      refine r_iconst 24 hX dX8_row_23 (v := 1) (by decide) ?_
      refine r_putI 27 hX dX8_row_24 fX8_63 fp8_13 rfl rfl rfl ?_
      refine r_iconst 28 hX dX8_row_27 (v := 0) (by decide) ?_
      refine r_iret hX hT dX8_row_28 ?_
      first | (rw [if_neg (fun h => c1 h.1), if_neg (fun h => c1 h.1)]; exact ⟨rfl, rfl⟩) | (have h2 : ¬ M.1 46 12 = 1 := c2; rw [if_neg (fun h => h2 h.2), if_neg (fun h => h2 h.2)]; exact ⟨rfl, rfl⟩)
    · refine r_aload_n 18 hX dX8_row_17 rfl ?_
      refine r_getI 21 hX dX8_row_18 fX8_200 rfl rfl rfl ?_
      refine r_iret hX hT dX8_row_21 ?_
      have h2 : M.1 46 12 = 1 := c2
      rw [if_pos ⟨c1, h2⟩, if_pos ⟨c1, h2⟩]
      exact ⟨rfl, rfl⟩
set_option maxRecDepth 100000 in
set_option maxHeartbeats 4000000 in
theorem tX8_end {l : Launch} {G : mx_G} {n : Int32} {M : mx_Mem} : mx_Met l G yX8_end cX8_end 2 ((some FieldType.boolean)) 1 22 [.ref 46, .int n] M (mx_F (some (.int (if 0 ≤ n ∧ n ≤ M.1 46 10 then 1 else 0))) (if 0 ≤ n ∧ n ≤ M.1 46 10 then mI (th0 M) 46 10 n else th0 M)) := by
  refine mx_enter (own := RX8) (L := [.ref 46, .int n]) (by decide +kernel) rfl rfl rfl ?_
  intro X hlX hX hR hT
  refine r_aload_n 1 hX dX8_end_0 rfl ?_
  refine r_iconst 2 hX dX8_end_1 (v := 0) (by decide) ?_
  refine r_putI 5 hX dX8_end_2 fX8_63 fp8_13 rfl rfl rfl ?_
  refine r_iload_n 6 hX dX8_end_5 rfl ?_
  refine r_iconst 7 hX dX8_end_6 (v := 0) (by decide) ?_
  refine r_aload_n 8 hX dX8_end_7 rfl ?_
  refine r_getI 11 hX dX8_end_8 fX8_135 rfl rfl rfl ?_
  refine r_cS3F 14 hX hR tX8_in dX8_end_11 kX8_in lX8_67 rfl rfl rfl ?_
  refine r_Bne 17 19 hX dX8_end_14 (fun c1 => ?_) (fun c1 => ?_)
  · refine r_aload_n 20 hX dX8_end_19 rfl ?_
    refine r_iload_n 21 hX dX8_end_20 rfl ?_
    refine r_putI 24 hX dX8_end_21 fX8_135 fp8_10 rfl rfl rfl ?_
    refine r_iconst 25 hX dX8_end_24 (v := 1) (by decide) ?_
    refine r_zret hX hT dX8_end_25 (by first | assumption | decide) ?_
    first | (rw [if_pos (show 0 ≤ n ∧ n ≤ M.1 46 10 from c1), if_pos (show 0 ≤ n ∧ n ≤ M.1 46 10 from c1)]; exact ⟨rfl, rfl⟩) | (rw [if_neg (show ¬ (0 ≤ n ∧ n ≤ M.1 46 10) from c1), if_neg (show ¬ (0 ≤ n ∧ n ≤ M.1 46 10) from c1)]; exact ⟨rfl, rfl⟩)
  · refine r_iconst 18 hX dX8_end_17 (v := 0) (by decide) ?_
    refine r_zret hX hT dX8_end_18 (by first | assumption | decide) ?_
    first | (rw [if_pos (show 0 ≤ n ∧ n ≤ M.1 46 10 from c1), if_pos (show 0 ≤ n ∧ n ≤ M.1 46 10 from c1)]; exact ⟨rfl, rfl⟩) | (rw [if_neg (show ¬ (0 ≤ n ∧ n ≤ M.1 46 10) from c1), if_neg (show ¬ (0 ≤ n ∧ n ≤ M.1 46 10) from c1)]; exact ⟨rfl, rfl⟩)

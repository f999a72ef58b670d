/-! Integer.bitCount; line-ups; sheets -/
abbrev usr (x : Int32) (k : Int32) : Int32 := (x.toUInt32 >>> (k.toUInt32 &&& Int32.toUInt32 31)).toInt32
def bc1 (x : Int32) : Int32 := x - (usr x 1 &&& 1431655765)
def bc2 (x : Int32) : Int32 := (x &&& 858993459) + (usr x 2 &&& 858993459)
def bc3 (x : Int32) : Int32 := (x + usr x 4) &&& 252645135
def bc4 (x : Int32) : Int32 := x + usr x 8
def bc5 (x : Int32) : Int32 := x + usr x 16
def bcF (x : Int32) : Int32 := bc5 (bc4 (bc3 (bc2 (bc1 x)))) &&& 63
set_option maxRecDepth 100000 in
set_option maxHeartbeats 4000000 in
theorem tJ6_bitCount_0f7a4 {l : Launch} {G : mx_G} {x : Int32} {M : mx_Mem} : mx_Met l G yJ6_bitCount_0f7a4 cJ6_bitCount_0f7a4 1 ((some FieldType.int)) 0 0 [.int x] M (mx_F (some (.int (bcF x))) M) := by
  refine mx_enter (own := RJ6) (L := [.int x]) (by decide +kernel) rfl rfl rfl ?_
  intro X hlX hX hR hT
  refine r_iload_n 1 hX dJ6_bitCount_0f7a4_0 rfl ?_
  refine r_iload_n 2 hX dJ6_bitCount_0f7a4_1 rfl ?_
  refine r_iconst 3 hX dJ6_bitCount_0f7a4_2 (v := 1) (by decide) ?_
  refine r_iushr 4 hX dJ6_bitCount_0f7a4_3 ?_
  refine r_ldcw 7 hX dJ6_bitCount_0f7a4_4 qJ6_265 ?_
  refine r_iand 8 hX dJ6_bitCount_0f7a4_7 ?_
  refine r_isub 9 hX dJ6_bitCount_0f7a4_8 ?_
  refine r_istore_n 10 hX dJ6_bitCount_0f7a4_9 rfl ?_
  refine r_iload_n 11 hX dJ6_bitCount_0f7a4_10 rfl ?_
  refine r_ldcw 14 hX dJ6_bitCount_0f7a4_11 qJ6_266 ?_
  refine r_iand 15 hX dJ6_bitCount_0f7a4_14 ?_
  refine r_iload_n 16 hX dJ6_bitCount_0f7a4_15 rfl ?_
  refine r_iconst 17 hX dJ6_bitCount_0f7a4_16 (v := 2) (by decide) ?_
  refine r_iushr 18 hX dJ6_bitCount_0f7a4_17 ?_
  refine r_ldcw 21 hX dJ6_bitCount_0f7a4_18 qJ6_266 ?_
  refine r_iand 22 hX dJ6_bitCount_0f7a4_21 ?_
  refine r_iadd 23 hX dJ6_bitCount_0f7a4_22 ?_
  refine r_istore_n 24 hX dJ6_bitCount_0f7a4_23 rfl ?_
  refine r_iload_n 25 hX dJ6_bitCount_0f7a4_24 rfl ?_
  refine r_iload_n 26 hX dJ6_bitCount_0f7a4_25 rfl ?_
  refine r_iconst 27 hX dJ6_bitCount_0f7a4_26 (v := 4) (by decide) ?_
  refine r_iushr 28 hX dJ6_bitCount_0f7a4_27 ?_
  refine r_iadd 29 hX dJ6_bitCount_0f7a4_28 ?_
  refine r_ldcw 32 hX dJ6_bitCount_0f7a4_29 qJ6_267 ?_
  refine r_iand 33 hX dJ6_bitCount_0f7a4_32 ?_
  refine r_istore_n 34 hX dJ6_bitCount_0f7a4_33 rfl ?_
  refine (show mx_WW G X 34 [_] _ _ from ?_)
  refine r_iload_n 35 hX dJ6_bitCount_0f7a4_34 rfl ?_
  refine r_iload_n 36 hX dJ6_bitCount_0f7a4_35 rfl ?_
  refine r_bipush 38 hX dJ6_bitCount_0f7a4_36 (v := 8) (by decide) ?_
  refine r_iushr 39 hX dJ6_bitCount_0f7a4_38 ?_
  refine r_iadd 40 hX dJ6_bitCount_0f7a4_39 ?_
  refine r_istore_n 41 hX dJ6_bitCount_0f7a4_40 rfl ?_
  refine r_iload_n 42 hX dJ6_bitCount_0f7a4_41 rfl ?_
  refine r_iload_n 43 hX dJ6_bitCount_0f7a4_42 rfl ?_
  refine r_bipush 45 hX dJ6_bitCount_0f7a4_43 (v := 16) (by decide) ?_
  refine r_iushr 46 hX dJ6_bitCount_0f7a4_45 ?_
  refine r_iadd 47 hX dJ6_bitCount_0f7a4_46 ?_
  refine r_istore_n 48 hX dJ6_bitCount_0f7a4_47 rfl ?_
  refine r_iload_n 49 hX dJ6_bitCount_0f7a4_48 rfl ?_
  refine r_bipush 51 hX dJ6_bitCount_0f7a4_49 (v := 63) (by decide) ?_
  refine r_iand 52 hX dJ6_bitCount_0f7a4_51 ?_
  refine r_iret hX hT dJ6_bitCount_0f7a4_52 ?_
  exact ⟨rfl, rfl⟩
def bto (p : Int32) : Int32 := if isP p then 1 <<< (p &&& 31) else 0
def sx6 (a b c d e f : Int32) : Int32 := bto a ||| bto b ||| bto c ||| bto d ||| bto e ||| bto f
def luC (M : mx_Mem) (z : Int32) (a b c d e f : Int32) : Prop := (M.1 19 1 = 0 ∧ M.1 19 6 = -1) ∧ bcF (sx6 a b c d e f) = 6 ∧ sx6 a b c d e f &&& bto z = 0
def telM (M : mx_Mem) (s : Nat) (a b c d e f : Int32) : mx_Mem := mI (mI (mI (mI (mI (mI (mI M (s + 2) 0 a) (s + 2) 1 b) (s + 2) 2 c) (s + 2) 3 d) (s + 2) 4 e) (s + 2) 5 f) s 3 1
set_option maxRecDepth 100000 in
set_option maxHeartbeats 4000000 in
theorem tX7_lineUp_0 {l : Launch} {G : mx_G} {a b c d e f : Int32} {M : mx_Mem} : mx_Met l G yX7_lineUp cX7_lineUp 10 ((some FieldType.boolean)) 2 40 [.ref 0, .int 0, .int a, .int b, .int c, .int d, .int e, .int f] M (fun r M' => (luC M (M.1 3 2) a b c d e f ∧ r = some (.int 1) ∧ M' = telM M 3 a b c d e f) ∨ (¬ luC M (M.1 3 2) a b c d e f ∧ r = some (.int 0) ∧ M' = M)) := by
  refine mx_enter (own := RX7) (L := [.ref 0, .int 0, .int a, .int b, .int c, .int d, .int e, .int f, .null, .null]) (by decide +kernel) rfl rfl rfl ?_
  intro X hlX hX hR hT
  refine r_iload_n 1 hX dX7_lineUp_0 rfl ?_
  refine r_cS1F 4 hX hR tX7_isTeam_0 dX7_lineUp_1 kX7_isTeam lX7_83 rfl rfl rfl ?_
  refine r_if_eq 7 28 hX dX7_lineUp_4 (fun c => absurd c (by decide)) (fun _ => ?_)
  refine r_aload_n 8 hX dX7_lineUp_7 rfl ?_
  refine r_getR 11 hX dX7_lineUp_8 fX7_39 rfl rfl rfl ?_
  refine r_getI 14 hX dX7_lineUp_11 fX7_102 rfl rfl rfl ?_
  refine r_if_ne 17 28 hX dX7_lineUp_14 (fun c1 => ?_) (fun c1 => ?_)
  · refine r_iconst 29 hX dX7_lineUp_28 (v := 0) (by decide) ?_
    refine r_zret hX hT dX7_lineUp_29 (by first | assumption | decide) ?_
    exact Or.inr ⟨fun h => by first | exact c1 h.1.1 | exact c2 h.1.2, rfl, rfl⟩
  · refine r_aload_n 18 hX dX7_lineUp_17 rfl ?_
    refine r_getR 21 hX dX7_lineUp_18 fX7_39 rfl rfl rfl ?_
    refine r_getI 24 hX dX7_lineUp_21 fX7_124 rfl rfl rfl ?_
    refine r_iconst 25 hX dX7_lineUp_24 (v := -1) (by decide) ?_
    refine r_icmp_eq 28 30 hX dX7_lineUp_25 (fun c2 => ?_) (fun c2 => ?_)
    · refine r_iload_n 31 hX dX7_lineUp_30 rfl ?_
      refine r_cS1F 34 hX hR tX7_bitOf dX7_lineUp_31 kX7_bitOf lX7_127 rfl rfl rfl ?_
      refine r_iload_n 35 hX dX7_lineUp_34 rfl ?_
      refine r_cS1F 38 hX hR tX7_bitOf dX7_lineUp_35 kX7_bitOf lX7_127 rfl rfl rfl ?_
      refine r_ior 39 hX dX7_lineUp_38 ?_
      refine r_iload 41 hX dX7_lineUp_39 rfl ?_
      refine r_cS1F 44 hX hR tX7_bitOf dX7_lineUp_41 kX7_bitOf lX7_127 rfl rfl rfl ?_
      refine r_ior 45 hX dX7_lineUp_44 ?_
      refine r_iload 47 hX dX7_lineUp_45 rfl ?_
      refine r_cS1F 50 hX hR tX7_bitOf dX7_lineUp_47 kX7_bitOf lX7_127 rfl rfl rfl ?_
      refine r_ior 51 hX dX7_lineUp_50 ?_
      refine r_iload 53 hX dX7_lineUp_51 rfl ?_
      refine r_cS1F 56 hX hR tX7_bitOf dX7_lineUp_53 kX7_bitOf lX7_127 rfl rfl rfl ?_
      refine r_ior 57 hX dX7_lineUp_56 ?_
      refine r_iload 59 hX dX7_lineUp_57 rfl ?_
      refine r_cS1F 62 hX hR tX7_bitOf dX7_lineUp_59 kX7_bitOf lX7_127 rfl rfl rfl ?_
      refine r_ior 63 hX dX7_lineUp_62 ?_
      refine r_istore 65 hX dX7_lineUp_63 rfl ?_
      refine r_aload_n 66 hX dX7_lineUp_65 rfl ?_
      refine r_iload_n 67 hX dX7_lineUp_66 rfl ?_
      refine r_cV1F 70 hX hR tX7_squadOf_0 dX7_lineUp_67 kX7_squadOf lX7_90 rfl rfl rfl rfl rfl rfl ?_
      refine r_astore 72 hX dX7_lineUp_70 rfl ?_
      refine r_iload 74 hX dX7_lineUp_72 rfl ?_
      refine r_cS1F 77 hX hR tJ6_bitCount_0f7a4 dX7_lineUp_74 kJ6_bitCount_0f7a4 lX7_130 rfl rfl rfl ?_
      refine r_bipush 79 hX dX7_lineUp_77 (v := 6) (by decide) ?_
      refine r_icmp_ne 82 96 hX dX7_lineUp_79 (fun c3 => ?_) (fun c3 => ?_)
      · refine r_iconst 97 hX dX7_lineUp_96 (v := 0) (by decide) ?_
        refine r_zret hX hT dX7_lineUp_97 (by first | assumption | decide) ?_
        exact Or.inr ⟨fun h => by first | exact c3 h.2.1 | exact c4 h.2.2, rfl, rfl⟩
      · refine r_iload 84 hX dX7_lineUp_82 rfl ?_
        refine r_aload 86 hX dX7_lineUp_84 rfl ?_
        refine r_getI 89 hX dX7_lineUp_86 fX7_106 rfl rfl rfl ?_
        refine r_cS1F 92 hX hR tX7_bitOf dX7_lineUp_89 kX7_bitOf lX7_127 rfl rfl rfl ?_
        refine r_iand 93 hX dX7_lineUp_92 ?_
        refine r_if_eq 96 98 hX dX7_lineUp_93 (fun c4 => ?_) (fun c4 => ?_)
        · refine r_aload 100 hX dX7_lineUp_98 rfl ?_
          refine r_iload_n 101 hX dX7_lineUp_100 rfl ?_
          refine r_iload_n 102 hX dX7_lineUp_101 rfl ?_
          refine r_iload 104 hX dX7_lineUp_102 rfl ?_
          refine r_iload 106 hX dX7_lineUp_104 rfl ?_
          refine r_iload 108 hX dX7_lineUp_106 rfl ?_
          refine r_iload 110 hX dX7_lineUp_108 rfl ?_
          refine r_cV6U 113 hX hR tX4_tell_3 dX7_lineUp_110 kX4_tell lX7_135 rfl rfl rfl rfl rfl rfl ?_
          refine r_iconst 114 hX dX7_lineUp_113 (v := 1) (by decide) ?_
          refine r_zret hX hT dX7_lineUp_114 (by first | assumption | decide) ?_
          exact Or.inl ⟨⟨⟨c1, c2⟩, c3, c4⟩, rfl, rfl⟩
        · refine r_iconst 97 hX dX7_lineUp_96 (v := 0) (by decide) ?_
          refine r_zret hX hT dX7_lineUp_97 (by first | assumption | decide) ?_
          exact Or.inr ⟨fun h => by first | exact c3 h.2.1 | exact c4 h.2.2, rfl, rfl⟩
    · refine r_iconst 29 hX dX7_lineUp_28 (v := 0) (by decide) ?_
      refine r_zret hX hT dX7_lineUp_29 (by first | assumption | decide) ?_
      exact Or.inr ⟨fun h => by first | exact c1 h.1.1 | exact c2 h.1.2, rfl, rfl⟩
set_option maxRecDepth 100000 in
set_option maxHeartbeats 4000000 in
theorem tX7_lineUp_1 {l : Launch} {G : mx_G} {a b c d e f : Int32} {M : mx_Mem} : mx_Met l G yX7_lineUp cX7_lineUp 10 ((some FieldType.boolean)) 2 40 [.ref 0, .int 1, .int a, .int b, .int c, .int d, .int e, .int f] M (fun r M' => (luC M (M.1 6 2) a b c d e f ∧ r = some (.int 1) ∧ M' = telM M 6 a b c d e f) ∨ (¬ luC M (M.1 6 2) a b c d e f ∧ r = some (.int 0) ∧ M' = M)) := by
  refine mx_enter (own := RX7) (L := [.ref 0, .int 1, .int a, .int b, .int c, .int d, .int e, .int f, .null, .null]) (by decide +kernel) rfl rfl rfl ?_
  intro X hlX hX hR hT
  refine r_iload_n 1 hX dX7_lineUp_0 rfl ?_
  refine r_cS1F 4 hX hR tX7_isTeam_1 dX7_lineUp_1 kX7_isTeam lX7_83 rfl rfl rfl ?_
  refine r_if_eq 7 28 hX dX7_lineUp_4 (fun c => absurd c (by decide)) (fun _ => ?_)
  refine r_aload_n 8 hX dX7_lineUp_7 rfl ?_
  refine r_getR 11 hX dX7_lineUp_8 fX7_39 rfl rfl rfl ?_
  refine r_getI 14 hX dX7_lineUp_11 fX7_102 rfl rfl rfl ?_
  refine r_if_ne 17 28 hX dX7_lineUp_14 (fun c1 => ?_) (fun c1 => ?_)
  · refine r_iconst 29 hX dX7_lineUp_28 (v := 0) (by decide) ?_
    refine r_zret hX hT dX7_lineUp_29 (by first | assumption | decide) ?_
    exact Or.inr ⟨fun h => by first | exact c1 h.1.1 | exact c2 h.1.2, rfl, rfl⟩
  · refine r_aload_n 18 hX dX7_lineUp_17 rfl ?_
    refine r_getR 21 hX dX7_lineUp_18 fX7_39 rfl rfl rfl ?_
    refine r_getI 24 hX dX7_lineUp_21 fX7_124 rfl rfl rfl ?_
    refine r_iconst 25 hX dX7_lineUp_24 (v := -1) (by decide) ?_
    refine r_icmp_eq 28 30 hX dX7_lineUp_25 (fun c2 => ?_) (fun c2 => ?_)
    · refine r_iload_n 31 hX dX7_lineUp_30 rfl ?_
      refine r_cS1F 34 hX hR tX7_bitOf dX7_lineUp_31 kX7_bitOf lX7_127 rfl rfl rfl ?_
      refine r_iload_n 35 hX dX7_lineUp_34 rfl ?_
      refine r_cS1F 38 hX hR tX7_bitOf dX7_lineUp_35 kX7_bitOf lX7_127 rfl rfl rfl ?_
      refine r_ior 39 hX dX7_lineUp_38 ?_
      refine r_iload 41 hX dX7_lineUp_39 rfl ?_
      refine r_cS1F 44 hX hR tX7_bitOf dX7_lineUp_41 kX7_bitOf lX7_127 rfl rfl rfl ?_
      refine r_ior 45 hX dX7_lineUp_44 ?_
      refine r_iload 47 hX dX7_lineUp_45 rfl ?_
      refine r_cS1F 50 hX hR tX7_bitOf dX7_lineUp_47 kX7_bitOf lX7_127 rfl rfl rfl ?_
      refine r_ior 51 hX dX7_lineUp_50 ?_
      refine r_iload 53 hX dX7_lineUp_51 rfl ?_
      refine r_cS1F 56 hX hR tX7_bitOf dX7_lineUp_53 kX7_bitOf lX7_127 rfl rfl rfl ?_
      refine r_ior 57 hX dX7_lineUp_56 ?_
      refine r_iload 59 hX dX7_lineUp_57 rfl ?_
      refine r_cS1F 62 hX hR tX7_bitOf dX7_lineUp_59 kX7_bitOf lX7_127 rfl rfl rfl ?_
      refine r_ior 63 hX dX7_lineUp_62 ?_
      refine r_istore 65 hX dX7_lineUp_63 rfl ?_
      refine r_aload_n 66 hX dX7_lineUp_65 rfl ?_
      refine r_iload_n 67 hX dX7_lineUp_66 rfl ?_
      refine r_cV1F 70 hX hR tX7_squadOf_1 dX7_lineUp_67 kX7_squadOf lX7_90 rfl rfl rfl rfl rfl rfl ?_
      refine r_astore 72 hX dX7_lineUp_70 rfl ?_
      refine r_iload 74 hX dX7_lineUp_72 rfl ?_
      refine r_cS1F 77 hX hR tJ6_bitCount_0f7a4 dX7_lineUp_74 kJ6_bitCount_0f7a4 lX7_130 rfl rfl rfl ?_
      refine r_bipush 79 hX dX7_lineUp_77 (v := 6) (by decide) ?_
      refine r_icmp_ne 82 96 hX dX7_lineUp_79 (fun c3 => ?_) (fun c3 => ?_)
      · refine r_iconst 97 hX dX7_lineUp_96 (v := 0) (by decide) ?_
        refine r_zret hX hT dX7_lineUp_97 (by first | assumption | decide) ?_
        exact Or.inr ⟨fun h => by first | exact c3 h.2.1 | exact c4 h.2.2, rfl, rfl⟩
      · refine r_iload 84 hX dX7_lineUp_82 rfl ?_
        refine r_aload 86 hX dX7_lineUp_84 rfl ?_
        refine r_getI 89 hX dX7_lineUp_86 fX7_106 rfl rfl rfl ?_
        refine r_cS1F 92 hX hR tX7_bitOf dX7_lineUp_89 kX7_bitOf lX7_127 rfl rfl rfl ?_
        refine r_iand 93 hX dX7_lineUp_92 ?_
        refine r_if_eq 96 98 hX dX7_lineUp_93 (fun c4 => ?_) (fun c4 => ?_)
        · refine r_aload 100 hX dX7_lineUp_98 rfl ?_
          refine r_iload_n 101 hX dX7_lineUp_100 rfl ?_
          refine r_iload_n 102 hX dX7_lineUp_101 rfl ?_
          refine r_iload 104 hX dX7_lineUp_102 rfl ?_
          refine r_iload 106 hX dX7_lineUp_104 rfl ?_
          refine r_iload 108 hX dX7_lineUp_106 rfl ?_
          refine r_iload 110 hX dX7_lineUp_108 rfl ?_
          refine r_cV6U 113 hX hR tX4_tell_6 dX7_lineUp_110 kX4_tell lX7_135 rfl rfl rfl rfl rfl rfl ?_
          refine r_iconst 114 hX dX7_lineUp_113 (v := 1) (by decide) ?_
          refine r_zret hX hT dX7_lineUp_114 (by first | assumption | decide) ?_
          exact Or.inl ⟨⟨⟨c1, c2⟩, c3, c4⟩, rfl, rfl⟩
        · refine r_iconst 97 hX dX7_lineUp_96 (v := 0) (by decide) ?_
          refine r_zret hX hT dX7_lineUp_97 (by first | assumption | decide) ?_
          exact Or.inr ⟨fun h => by first | exact c3 h.2.1 | exact c4 h.2.2, rfl, rfl⟩
    · refine r_iconst 29 hX dX7_lineUp_28 (v := 0) (by decide) ?_
      refine r_zret hX hT dX7_lineUp_29 (by first | assumption | decide) ?_
      exact Or.inr ⟨fun h => by first | exact c1 h.1.1 | exact c2 h.1.2, rfl, rfl⟩
theorem mCo_ne (M : mx_Mem) {a b k : Nat} (h : (k ≠ a ∧ k ≠ a + 1) ∧ (k ≠ a + 2 ∧ k ≠ a + 3) ∧ k ≠ a + 4) : (mCo M a b).1 k = M.1 k := by
  funext j
  simp only [mCo, mI_ne _ _ _ _ h.1.1, mR_ne _ _ h.1.2, mR_ne _ _ h.2.1.1, mR_ne _ _ h.2.1.2, mR_ne _ _ h.2.2]
theorem mCp7_ne (M : mx_Mem) {a b k : Nat} (h : k ≠ a) : (mCp7 M a b).1 k = M.1 k := by
  funext j
  simp only [mCp7, mI_ne _ _ _ _ h]
abbrev isB (x : Int32) : Prop := x = 0 ∨ x = 1
def svM (M : mx_Mem) : mx_Mem := mCp7 (mCo (mCo M 20 9) 25 14) 30 19
def rsM (M : mx_Mem) : mx_Mem := mCp7 (mCo (mCo M 9 20) 14 25) 19 30
set_option maxRecDepth 100000 in
set_option maxHeartbeats 4000000 in
theorem tX7_saveMatch {l : Launch} {G : mx_G} {M : mx_Mem} (h0 : isB (M.1 9 6)) (h1 : isB (M.1 14 6)) (h2 : isB (M.1 19 1)) : mx_Met l G yX7_saveMatch cX7_saveMatch 1 (none) 2 81 [.ref 0] M (mx_F none (svM M)) := by
  refine mx_enter (own := RX7) (L := [.ref 0]) (by decide +kernel) rfl rfl rfl ?_
  intro X hlX hX hR hT
  refine r_aload_n 1 hX dX7_saveMatch_0 rfl ?_
  refine r_getR 4 hX dX7_saveMatch_1 fX7_43 rfl rfl rfl ?_
  refine r_aload_n 5 hX dX7_saveMatch_4 rfl ?_
  refine r_getR 8 hX dX7_saveMatch_5 fX7_29 rfl rfl rfl ?_
  refine r_cV1U 11 hX hR (tX2_copyFrom_20 h0) dX7_saveMatch_8 kX2_copyFrom lX7_340 rfl rfl rfl rfl rfl rfl ?_
  refine r_aload_n 12 hX dX7_saveMatch_11 rfl ?_
  refine r_getR 15 hX dX7_saveMatch_12 fX7_46 rfl rfl rfl ?_
  refine r_aload_n 16 hX dX7_saveMatch_15 rfl ?_
  refine r_getR 19 hX dX7_saveMatch_16 fX7_33 rfl rfl rfl ?_
  refine r_cV1U 22 hX hR (tX2_copyFrom_25 (by rw [mCo_ne M (by decide)]; exact h1)) dX7_saveMatch_19 kX2_copyFrom lX7_340 rfl rfl rfl rfl rfl rfl ?_
  refine r_aload_n 23 hX dX7_saveMatch_22 rfl ?_
  refine r_getR 26 hX dX7_saveMatch_23 fX7_49 rfl rfl rfl ?_
  refine r_aload_n 27 hX dX7_saveMatch_26 rfl ?_
  refine r_getR 30 hX dX7_saveMatch_27 fX7_39 rfl rfl rfl ?_
  refine r_cV1U 33 hX hR (tX1_copyFrom_30 (by rw [mCo_ne _ (by decide), mCo_ne M (by decide)]; exact h2)) dX7_saveMatch_30 kX1_copyFrom lX7_344 rfl rfl rfl rfl rfl rfl ?_
  refine r_vret hX hT dX7_saveMatch_33 ?_
  exact ⟨rfl, rfl⟩
set_option maxRecDepth 100000 in
set_option maxHeartbeats 4000000 in
theorem tX7_restoreMatch {l : Launch} {G : mx_G} {M : mx_Mem} (h0 : isB (M.1 20 6)) (h1 : isB (M.1 25 6)) (h2 : isB (M.1 30 1)) : mx_Met l G yX7_restoreMatch cX7_restoreMatch 1 (none) 2 81 [.ref 0] M (mx_F none (rsM M)) := by
  refine mx_enter (own := RX7) (L := [.ref 0]) (by decide +kernel) rfl rfl rfl ?_
  intro X hlX hX hR hT
  refine r_aload_n 1 hX dX7_restoreMatch_0 rfl ?_
  refine r_getR 4 hX dX7_restoreMatch_1 fX7_29 rfl rfl rfl ?_
  refine r_aload_n 5 hX dX7_restoreMatch_4 rfl ?_
  refine r_getR 8 hX dX7_restoreMatch_5 fX7_43 rfl rfl rfl ?_
  refine r_cV1U 11 hX hR (tX2_copyFrom_9 h0) dX7_restoreMatch_8 kX2_copyFrom lX7_340 rfl rfl rfl rfl rfl rfl ?_
  refine r_aload_n 12 hX dX7_restoreMatch_11 rfl ?_
  refine r_getR 15 hX dX7_restoreMatch_12 fX7_33 rfl rfl rfl ?_
  refine r_aload_n 16 hX dX7_restoreMatch_15 rfl ?_
  refine r_getR 19 hX dX7_restoreMatch_16 fX7_46 rfl rfl rfl ?_
  refine r_cV1U 22 hX hR (tX2_copyFrom_14 (by rw [mCo_ne M (by decide)]; exact h1)) dX7_restoreMatch_19 kX2_copyFrom lX7_340 rfl rfl rfl rfl rfl rfl ?_
  refine r_aload_n 23 hX dX7_restoreMatch_22 rfl ?_
  refine r_getR 26 hX dX7_restoreMatch_23 fX7_39 rfl rfl rfl ?_
  refine r_aload_n 27 hX dX7_restoreMatch_26 rfl ?_
  refine r_getR 30 hX dX7_restoreMatch_27 fX7_49 rfl rfl rfl ?_
  refine r_cV1U 33 hX hR (tX1_copyFrom_19 (by rw [mCo_ne _ (by decide), mCo_ne M (by decide)]; exact h2)) dX7_restoreMatch_30 kX1_copyFrom lX7_344 rfl rfl rfl rfl rfl rfl ?_
  refine r_vret hX hT dX7_restoreMatch_33 ?_
  exact ⟨rfl, rfl⟩
/-- what the class's methods rest on -/
def CI (M : mx_Mem) : Prop := (isB (M.1 19 1) ∧ isB (M.1 9 6) ∧ isB (M.1 14 6)) ∧ (isB (M.1 30 1) ∧ isB (M.1 20 6) ∧ isB (M.1 25 6)) ∧ (∀ j : Nat, j < 100 → isCh (M.1 38 j)) ∧ ∀ k : Nat, k < 6 → isP (M.1 10 k) ∧ isP (M.1 15 k)
def rlR (M : mx_Mem) (c o : Nat) (t : Int32) : Int32 := if M.1 19 1 = 0 then -1 else clR (wrM M c t) c o
def rlM (M : mx_Mem) (c o : Nat) (t : Int32) : mx_Mem := if M.1 19 1 = 0 then M else clM (wrM M c t) c o t
def paR (M : mx_Mem) (c : Nat) : Int32 := if M.1 19 1 = 0 ∨ M.1 2 5 ≤ M.1 c 10 then -1 else M.1 c 10 + 1
def paM (M : mx_Mem) (c : Nat) : mx_Mem := if M.1 19 1 = 0 ∨ M.1 2 5 ≤ M.1 c 10 then M else mI M c 10 (M.1 c 10 + 1)
def chR (M : mx_Mem) (c : Nat) (a b : Int32) : Int32 := if mayC M c a b = 0 then plc (M.1 (c + 1)) a else -1
def chM (M : mx_Mem) (c : Nat) (a b : Int32) : mx_Mem := if mayC M c a b = 0 then exM M c a b else M
def itR_0 (M : mx_Mem) (b q : Int32) : Int32 := if b = 33 then paR M 9 else if b = 45 then frR_0 M (-1) else if b = 42 then frR_0 M q else chR M 9 (plo b) q
def itM_0 (M : mx_Mem) (b q : Int32) : mx_Mem := if b = 33 then paM M 9 else if b = 45 then frM_0 M (-1) else if b = 42 then frM_0 M q else chM M 9 (plo b) q
def itR_1 (M : mx_Mem) (b q : Int32) : Int32 := if b = 33 then paR M 14 else if b = 45 then frR_1 M (-1) else if b = 42 then frR_1 M q else chR M 14 (plo b) q
def itM_1 (M : mx_Mem) (b q : Int32) : mx_Mem := if b = 33 then paM M 14 else if b = 45 then frM_1 M (-1) else if b = 42 then frM_1 M q else chM M 14 (plo b) q
def diR (M : mx_Mem) (p : Int32) : Int32 := if sgn (M.1 38) p = 65 then rlR M 9 14 0 else if sgn (M.1 38) p = 66 then rlR M 14 9 1 else if sgn (M.1 38) p = 97 then itR_0 M (sgn (M.1 38) (p + 1)) (plo (sgn (M.1 38) (p + 2))) else itR_1 M (sgn (M.1 38) (p + 1)) (plo (sgn (M.1 38) (p + 2)))
def diM (M : mx_Mem) (p : Int32) : mx_Mem := if sgn (M.1 38) p = 65 then rlM M 9 14 0 else if sgn (M.1 38) p = 66 then rlM M 14 9 1 else if sgn (M.1 38) p = 97 then itM_0 M (sgn (M.1 38) (p + 1)) (plo (sgn (M.1 38) (p + 2))) else itM_1 M (sgn (M.1 38) (p + 1)) (plo (sgn (M.1 38) (p + 2)))
set_option maxRecDepth 100000 in
set_option maxHeartbeats 4000000 in
theorem tX7_doItem {l : Launch} {G : mx_G} {p : Int32} {M : mx_Mem} (hI : CI M) : mx_Met l G yX7_doItem cX7_doItem 5 ((some FieldType.int)) 4 91 [.ref 0, .int p] M (mx_F (some (.int (diR M p))) (diM M p)) := by
  refine mx_enter (own := RX7) (L := [.ref 0, .int p, .null, .null, .null]) (by decide +kernel) rfl rfl rfl ?_
  intro X hlX hX hR hT
  have hc := hI.2.2.1
  have hp0 : ¬ M.1 19 1 = 0 → isP (M.1 10 0) := fun _ => (hI.2.2.2 0 (by decide)).1
  have hp1 : ¬ M.1 19 1 = 0 → isP (M.1 15 0) := fun _ => (hI.2.2.2 0 (by decide)).2
  refine r_aload_n 1 hX dX7_doItem_0 rfl ?_
  refine r_getR 4 hX dX7_doItem_1 fX7_65 rfl rfl rfl ?_
  refine r_iload_n 5 hX dX7_doItem_4 rfl ?_
  refine r_cV1F 8 hX hR (tX6_signAt hc) dX7_doItem_5 kX6_signAt lX7_320 rfl rfl rfl rfl rfl rfl ?_
  refine r_istore_n 9 hX dX7_doItem_8 rfl ?_
  refine r_iload_n 10 hX dX7_doItem_9 rfl ?_
  refine r_bipush 12 hX dX7_doItem_10 (v := 65) (by decide) ?_
  refine r_icmp_eq 15 21 hX dX7_doItem_12 (fun c1 => ?_) (fun c1 => ?_)
  · refine r_aload_n 22 hX dX7_doItem_21 rfl ?_
    refine r_iload_n 23 hX dX7_doItem_22 rfl ?_
    refine r_bipush 25 hX dX7_doItem_23 (v := 65) (by decide) ?_
    refine r_icmp_ne 28 32 hX dX7_doItem_25 (fun c2 => ?_) (fun c2 => ?_)
    · refine r_iconst 33 hX dX7_doItem_32 (v := 1) (by decide) ?_
      refine r_cV1F 36 hX hR (tX7_rally_1 hp1) dX7_doItem_33 kX7_rally lX7_324 rfl rfl rfl rfl rfl rfl ?_
      refine r_iret hX hT dX7_doItem_36 ?_
      clear hT hX hR hlX hc hp0 hp1 hI
      refine ⟨?_, ?_⟩
      · unfold diR
        first | (simp only [*, if_true, if_false]; done) | (simp only [*, if_true, if_false, itR_0, itR_1]; first | done | rfl | simp_all) | simp_all [diR, itR_0, itR_1]
      · unfold diM
        first | (simp only [*, if_true, if_false]; done) | (simp only [*, if_true, if_false, itM_0, itM_1]; first | done | rfl | simp_all) | simp_all [diM, itM_0, itM_1]
    · refine r_iconst 29 hX dX7_doItem_28 (v := 0) (by decide) ?_
      refine r_goto 33 hX dX7_doItem_29 ?_
      refine r_cV1F 36 hX hR (tX7_rally_0 hp0) dX7_doItem_33 kX7_rally lX7_324 rfl rfl rfl rfl rfl rfl ?_
      refine r_iret hX hT dX7_doItem_36 ?_
      clear hT hX hR hlX hc hp0 hp1 hI
      refine ⟨?_, ?_⟩
      · unfold diR
        first | (simp only [*, if_true, if_false]; done) | (simp only [*, if_true, if_false, itR_0, itR_1]; first | done | rfl | simp_all) | simp_all [diR, itR_0, itR_1]
      · unfold diM
        first | (simp only [*, if_true, if_false]; done) | (simp only [*, if_true, if_false, itM_0, itM_1]; first | done | rfl | simp_all) | simp_all [diM, itM_0, itM_1]
  · refine r_iload_n 16 hX dX7_doItem_15 rfl ?_
    refine r_bipush 18 hX dX7_doItem_16 (v := 66) (by decide) ?_
    refine r_icmp_ne 21 37 hX dX7_doItem_18 (fun c3 => ?_) (fun c3 => ?_)
    · refine r_iload_n 38 hX dX7_doItem_37 rfl ?_
      refine r_bipush 40 hX dX7_doItem_38 (v := 97) (by decide) ?_
      refine r_icmp_ne 43 47 hX dX7_doItem_40 (fun c4 => ?_) (fun c4 => ?_)
      · refine r_iconst 48 hX dX7_doItem_47 (v := 1) (by decide) ?_
        refine r_istore_n 49 hX dX7_doItem_48 rfl ?_
        refine r_aload_n 50 hX dX7_doItem_49 rfl ?_
        refine r_getR 53 hX dX7_doItem_50 fX7_65 rfl rfl rfl ?_
        refine r_iload_n 54 hX dX7_doItem_53 rfl ?_
        refine r_iconst 55 hX dX7_doItem_54 (v := 1) (by decide) ?_
        refine r_iadd 56 hX dX7_doItem_55 ?_
        refine r_cV1F 59 hX hR (tX6_signAt hc) dX7_doItem_56 kX6_signAt lX7_320 rfl rfl rfl rfl rfl rfl ?_
        refine r_istore 61 hX dX7_doItem_59 rfl ?_
        refine (show mx_WW G X 61 [_, _, _, _, _] _ _ from ?_)
        refine r_iload 63 hX dX7_doItem_61 rfl ?_
        refine r_bipush 65 hX dX7_doItem_63 (v := 33) (by decide) ?_
        refine r_icmp_ne 68 74 hX dX7_doItem_65 (fun c5 => ?_) (fun c5 => ?_)
        · refine r_iload 76 hX dX7_doItem_74 rfl ?_
          refine r_bipush 78 hX dX7_doItem_76 (v := 45) (by decide) ?_
          refine r_icmp_ne 81 88 hX dX7_doItem_78 (fun c6 => ?_) (fun c6 => ?_)
          · refine r_iload 90 hX dX7_doItem_88 rfl ?_
            refine r_bipush 92 hX dX7_doItem_90 (v := 42) (by decide) ?_
            refine r_icmp_ne 95 114 hX dX7_doItem_92 (fun c7 => ?_) (fun c7 => ?_)
            · refine r_aload_n 115 hX dX7_doItem_114 rfl ?_
              refine r_iload_n 116 hX dX7_doItem_115 rfl ?_
              refine r_iload 118 hX dX7_doItem_116 rfl ?_
              refine r_cS1F 121 hX hR tX6_playerOf dX7_doItem_118 kX6_playerOf lX7_333 rfl rfl rfl ?_
              refine r_aload_n 122 hX dX7_doItem_121 rfl ?_
              refine r_getR 125 hX dX7_doItem_122 fX7_65 rfl rfl rfl ?_
              refine r_iload_n 126 hX dX7_doItem_125 rfl ?_
              refine r_iconst 127 hX dX7_doItem_126 (v := 2) (by decide) ?_
              refine r_iadd 128 hX dX7_doItem_127 ?_
              refine r_cV1F 131 hX hR (tX6_signAt hc) dX7_doItem_128 kX6_signAt lX7_320 rfl rfl rfl rfl rfl rfl ?_
              refine r_cS1F 134 hX hR tX6_playerOf dX7_doItem_131 kX6_playerOf lX7_333 rfl rfl rfl ?_
              refine r_cV3F 137 hX hR tX7_change_1 dX7_doItem_134 kX7_change lX7_337 rfl rfl rfl rfl rfl rfl ?_
              refine r_iret hX hT dX7_doItem_137 ?_
              clear hT hX hR hlX hc hp0 hp1 hI
              refine ⟨?_, ?_⟩
              · unfold diR
                first | (simp only [*, if_true, if_false]; done) | (simp only [*, if_true, if_false, itR_0, itR_1]; first | done | rfl | simp_all) | simp_all [diR, itR_0, itR_1]
              · unfold diM
                first | (simp only [*, if_true, if_false]; done) | (simp only [*, if_true, if_false, itM_0, itM_1]; first | done | rfl | simp_all) | simp_all [diM, itM_0, itM_1]
            · refine r_aload_n 96 hX dX7_doItem_95 rfl ?_
              refine r_iload_n 97 hX dX7_doItem_96 rfl ?_
              refine r_aload_n 98 hX dX7_doItem_97 rfl ?_
              refine r_getR 101 hX dX7_doItem_98 fX7_65 rfl rfl rfl ?_
              refine r_iload_n 102 hX dX7_doItem_101 rfl ?_
              refine r_iconst 103 hX dX7_doItem_102 (v := 2) (by decide) ?_
              refine r_iadd 104 hX dX7_doItem_103 ?_
              refine r_cV1F 107 hX hR (tX6_signAt hc) dX7_doItem_104 kX6_signAt lX7_320 rfl rfl rfl rfl rfl rfl ?_
              refine r_cS1F 110 hX hR tX6_playerOf dX7_doItem_107 kX6_playerOf lX7_333 rfl rfl rfl ?_
              refine r_cV2F 113 hX hR tX7_free_1 dX7_doItem_110 kX7_free lX7_330 rfl rfl rfl rfl rfl rfl ?_
              refine r_iret hX hT dX7_doItem_113 ?_
              clear hT hX hR hlX hc hp0 hp1 hI
              refine ⟨?_, ?_⟩
              · unfold diR
                first | (simp only [*, if_true, if_false]; done) | (simp only [*, if_true, if_false, itR_0, itR_1]; first | done | rfl | simp_all) | simp_all [diR, itR_0, itR_1]
              · unfold diM
                first | (simp only [*, if_true, if_false]; done) | (simp only [*, if_true, if_false, itM_0, itM_1]; first | done | rfl | simp_all) | simp_all [diM, itM_0, itM_1]
          · refine r_aload_n 82 hX dX7_doItem_81 rfl ?_
            refine r_iload_n 83 hX dX7_doItem_82 rfl ?_
            refine r_iconst 84 hX dX7_doItem_83 (v := -1) (by decide) ?_
            refine r_cV2F 87 hX hR tX7_free_1 dX7_doItem_84 kX7_free lX7_330 rfl rfl rfl rfl rfl rfl ?_
            refine r_iret hX hT dX7_doItem_87 ?_
            clear hT hX hR hlX hc hp0 hp1 hI
            refine ⟨?_, ?_⟩
            · unfold diR
              first | (simp only [*, if_true, if_false]; done) | (simp only [*, if_true, if_false, itR_0, itR_1]; first | done | rfl | simp_all) | simp_all [diR, itR_0, itR_1]
            · unfold diM
              first | (simp only [*, if_true, if_false]; done) | (simp only [*, if_true, if_false, itM_0, itM_1]; first | done | rfl | simp_all) | simp_all [diM, itM_0, itM_1]
        · refine r_aload_n 69 hX dX7_doItem_68 rfl ?_
          refine r_iload_n 70 hX dX7_doItem_69 rfl ?_
          refine r_cV1F 73 hX hR tX7_pause_1 dX7_doItem_70 kX7_pause lX7_327 rfl rfl rfl rfl rfl rfl ?_
          refine r_iret hX hT dX7_doItem_73 ?_
          clear hT hX hR hlX hc hp0 hp1 hI
          refine ⟨?_, ?_⟩
          · unfold diR
            first | (simp only [*, if_true, if_false]; done) | (simp only [*, if_true, if_false, itR_0, itR_1]; first | done | rfl | simp_all) | simp_all [diR, itR_0, itR_1]
          · unfold diM
            first | (simp only [*, if_true, if_false]; done) | (simp only [*, if_true, if_false, itM_0, itM_1]; first | done | rfl | simp_all) | simp_all [diM, itM_0, itM_1]
      · refine r_iconst 44 hX dX7_doItem_43 (v := 0) (by decide) ?_
        refine r_goto 48 hX dX7_doItem_44 ?_
        refine r_istore_n 49 hX dX7_doItem_48 rfl ?_
        refine r_aload_n 50 hX dX7_doItem_49 rfl ?_
        refine r_getR 53 hX dX7_doItem_50 fX7_65 rfl rfl rfl ?_
        refine r_iload_n 54 hX dX7_doItem_53 rfl ?_
        refine r_iconst 55 hX dX7_doItem_54 (v := 1) (by decide) ?_
        refine r_iadd 56 hX dX7_doItem_55 ?_
        refine r_cV1F 59 hX hR (tX6_signAt hc) dX7_doItem_56 kX6_signAt lX7_320 rfl rfl rfl rfl rfl rfl ?_
        refine r_istore 61 hX dX7_doItem_59 rfl ?_
        refine (show mx_WW G X 61 [_, _, _, _, _] _ _ from ?_)
        refine r_iload 63 hX dX7_doItem_61 rfl ?_
        refine r_bipush 65 hX dX7_doItem_63 (v := 33) (by decide) ?_
        refine r_icmp_ne 68 74 hX dX7_doItem_65 (fun c8 => ?_) (fun c8 => ?_)
        · refine r_iload 76 hX dX7_doItem_74 rfl ?_
          refine r_bipush 78 hX dX7_doItem_76 (v := 45) (by decide) ?_
          refine r_icmp_ne 81 88 hX dX7_doItem_78 (fun c9 => ?_) (fun c9 => ?_)
          · refine r_iload 90 hX dX7_doItem_88 rfl ?_
            refine r_bipush 92 hX dX7_doItem_90 (v := 42) (by decide) ?_
            refine r_icmp_ne 95 114 hX dX7_doItem_92 (fun c10 => ?_) (fun c10 => ?_)
            · refine r_aload_n 115 hX dX7_doItem_114 rfl ?_
              refine r_iload_n 116 hX dX7_doItem_115 rfl ?_
              refine r_iload 118 hX dX7_doItem_116 rfl ?_
              refine r_cS1F 121 hX hR tX6_playerOf dX7_doItem_118 kX6_playerOf lX7_333 rfl rfl rfl ?_
              refine r_aload_n 122 hX dX7_doItem_121 rfl ?_
              refine r_getR 125 hX dX7_doItem_122 fX7_65 rfl rfl rfl ?_
              refine r_iload_n 126 hX dX7_doItem_125 rfl ?_
              refine r_iconst 127 hX dX7_doItem_126 (v := 2) (by decide) ?_
              refine r_iadd 128 hX dX7_doItem_127 ?_
              refine r_cV1F 131 hX hR (tX6_signAt hc) dX7_doItem_128 kX6_signAt lX7_320 rfl rfl rfl rfl rfl rfl ?_
              refine r_cS1F 134 hX hR tX6_playerOf dX7_doItem_131 kX6_playerOf lX7_333 rfl rfl rfl ?_
              refine r_cV3F 137 hX hR tX7_change_0 dX7_doItem_134 kX7_change lX7_337 rfl rfl rfl rfl rfl rfl ?_
              refine r_iret hX hT dX7_doItem_137 ?_
              clear hT hX hR hlX hc hp0 hp1 hI
              refine ⟨?_, ?_⟩
              · unfold diR
                first | (simp only [*, if_true, if_false]; done) | (simp only [*, if_true, if_false, itR_0, itR_1]; first | done | rfl | simp_all) | simp_all [diR, itR_0, itR_1]
              · unfold diM
                first | (simp only [*, if_true, if_false]; done) | (simp only [*, if_true, if_false, itM_0, itM_1]; first | done | rfl | simp_all) | simp_all [diM, itM_0, itM_1]
            · refine r_aload_n 96 hX dX7_doItem_95 rfl ?_
              refine r_iload_n 97 hX dX7_doItem_96 rfl ?_
              refine r_aload_n 98 hX dX7_doItem_97 rfl ?_
              refine r_getR 101 hX dX7_doItem_98 fX7_65 rfl rfl rfl ?_
              refine r_iload_n 102 hX dX7_doItem_101 rfl ?_
              refine r_iconst 103 hX dX7_doItem_102 (v := 2) (by decide) ?_
              refine r_iadd 104 hX dX7_doItem_103 ?_
              refine r_cV1F 107 hX hR (tX6_signAt hc) dX7_doItem_104 kX6_signAt lX7_320 rfl rfl rfl rfl rfl rfl ?_
              refine r_cS1F 110 hX hR tX6_playerOf dX7_doItem_107 kX6_playerOf lX7_333 rfl rfl rfl ?_
              refine r_cV2F 113 hX hR tX7_free_0 dX7_doItem_110 kX7_free lX7_330 rfl rfl rfl rfl rfl rfl ?_
              refine r_iret hX hT dX7_doItem_113 ?_
              clear hT hX hR hlX hc hp0 hp1 hI
              refine ⟨?_, ?_⟩
              · unfold diR
                first | (simp only [*, if_true, if_false]; done) | (simp only [*, if_true, if_false, itR_0, itR_1]; first | done | rfl | simp_all) | simp_all [diR, itR_0, itR_1]
              · unfold diM
                first | (simp only [*, if_true, if_false]; done) | (simp only [*, if_true, if_false, itM_0, itM_1]; first | done | rfl | simp_all) | simp_all [diM, itM_0, itM_1]
          · refine r_aload_n 82 hX dX7_doItem_81 rfl ?_
            refine r_iload_n 83 hX dX7_doItem_82 rfl ?_
            refine r_iconst 84 hX dX7_doItem_83 (v := -1) (by decide) ?_
            refine r_cV2F 87 hX hR tX7_free_0 dX7_doItem_84 kX7_free lX7_330 rfl rfl rfl rfl rfl rfl ?_
            refine r_iret hX hT dX7_doItem_87 ?_
            clear hT hX hR hlX hc hp0 hp1 hI
            refine ⟨?_, ?_⟩
            · unfold diR
              first | (simp only [*, if_true, if_false]; done) | (simp only [*, if_true, if_false, itR_0, itR_1]; first | done | rfl | simp_all) | simp_all [diR, itR_0, itR_1]
            · unfold diM
              first | (simp only [*, if_true, if_false]; done) | (simp only [*, if_true, if_false, itM_0, itM_1]; first | done | rfl | simp_all) | simp_all [diM, itM_0, itM_1]
        · refine r_aload_n 69 hX dX7_doItem_68 rfl ?_
          refine r_iload_n 70 hX dX7_doItem_69 rfl ?_
          refine r_cV1F 73 hX hR tX7_pause_0 dX7_doItem_70 kX7_pause lX7_327 rfl rfl rfl rfl rfl rfl ?_
          refine r_iret hX hT dX7_doItem_73 ?_
          clear hT hX hR hlX hc hp0 hp1 hI
          refine ⟨?_, ?_⟩
          · unfold diR
            first | (simp only [*, if_true, if_false]; done) | (simp only [*, if_true, if_false, itR_0, itR_1]; first | done | rfl | simp_all) | simp_all [diR, itR_0, itR_1]
          · unfold diM
            first | (simp only [*, if_true, if_false]; done) | (simp only [*, if_true, if_false, itM_0, itM_1]; first | done | rfl | simp_all) | simp_all [diM, itM_0, itM_1]
    · refine r_aload_n 22 hX dX7_doItem_21 rfl ?_
      refine r_iload_n 23 hX dX7_doItem_22 rfl ?_
      refine r_bipush 25 hX dX7_doItem_23 (v := 65) (by decide) ?_
      refine r_icmp_ne 28 32 hX dX7_doItem_25 (fun c11 => ?_) (fun c11 => ?_)
      · refine r_iconst 33 hX dX7_doItem_32 (v := 1) (by decide) ?_
        refine r_cV1F 36 hX hR (tX7_rally_1 hp1) dX7_doItem_33 kX7_rally lX7_324 rfl rfl rfl rfl rfl rfl ?_
        refine r_iret hX hT dX7_doItem_36 ?_
        clear hT hX hR hlX hc hp0 hp1 hI
        refine ⟨?_, ?_⟩
        · unfold diR
          first | (simp only [*, if_true, if_false]; done) | (simp only [*, if_true, if_false, itR_0, itR_1]; first | done | rfl | simp_all) | simp_all [diR, itR_0, itR_1]
        · unfold diM
          first | (simp only [*, if_true, if_false]; done) | (simp only [*, if_true, if_false, itM_0, itM_1]; first | done | rfl | simp_all) | simp_all [diM, itM_0, itM_1]
      · refine r_iconst 29 hX dX7_doItem_28 (v := 0) (by decide) ?_
        refine r_goto 33 hX dX7_doItem_29 ?_
        refine r_cV1F 36 hX hR (tX7_rally_0 hp0) dX7_doItem_33 kX7_rally lX7_324 rfl rfl rfl rfl rfl rfl ?_
        refine r_iret hX hT dX7_doItem_36 ?_
        clear hT hX hR hlX hc hp0 hp1 hI
        refine ⟨?_, ?_⟩
        · unfold diR
          first | (simp only [*, if_true, if_false]; done) | (simp only [*, if_true, if_false, itR_0, itR_1]; first | done | rfl | simp_all) | simp_all [diR, itR_0, itR_1]
        · unfold diM
          first | (simp only [*, if_true, if_false]; done) | (simp only [*, if_true, if_false, itM_0, itM_1]; first | done | rfl | simp_all) | simp_all [diM, itM_0, itM_1]

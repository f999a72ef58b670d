/-! chances of the model: advice -/
theorem cnV_fr {M N : mx_Mem} (h : frM M N) (t i : Nat) : cnV N t i = cnV M t i := by
  unfold cnV
  rw [h.1 52 (by decide) (by decide), h.1 48 (by decide) (by decide)]
theorem cn_all (M : mx_Mem) : ∀ k, k < 12 → (cnM M).1 58 k = if k < 6 then cnV M 0 k else cnV M 1 (k - 6) := by
  intro k hk
  by_cases e : k < 6
  · rw [if_pos e, (cnM_58 M k e).1]
  · have := (cnM_58 M (k - 6) (by omega)).2
    rw [show 6 + (k - 6) = k by omega] at this
    rw [if_neg e, this]
theorem cn_congr {M N : mx_Mem} (h : frM M N) : ∀ k, k < 12 → (cnM N).1 58 k = (cnM M).1 58 k := by
  intro k hk
  rw [cn_all N k hk, cn_all M k hk, cnV_fr h, cnV_fr h]
theorem frM_58 (M : mx_Mem) (j : Nat) (v : Int32) : frM M (mI M 58 j v) := ⟨fun k h1 _ => by funext j'; rw [mI_ne _ _ _ _ h1], fun _ _ => rfl⟩
def maW_0 (M : mx_Mem) (s p0 p1 tg cap : Nat) (o i : Nat) : Int32 := nI (UU tg cap (moN (mI (cnM M) 58 (0 + (plc (mpl_0 M) (nI o)).toNatClampNeg) (nI i))) p0 p1 s 0 0)
def mmA_0 (M : mx_Mem) (o i : Nat) : Int32 := mmC_0 M (nI o) (nI i)
theorem mmC_fr_0 {M N : mx_Mem} (h : frM M N) (a b : Int32) : mmC_0 N a b = mmC_0 M a b := by
  unfold mmC_0 mpl_0
  rw [h.1 52 (by decide) (by decide), h.1 48 (by decide) (by decide), h.1 49 (by decide) (by decide)]
theorem mpl_fr_0 {M N : mx_Mem} (h : frM M N) : mpl_0 N = mpl_0 M := by
  unfold mpl_0
  rw [h.1 52 (by decide) (by decide)]
def maW_1 (M : mx_Mem) (s p0 p1 tg cap : Nat) (o i : Nat) : Int32 := nI (UU tg cap (moN (mI (cnM M) 58 (6 + (plc (mpl_1 M) (nI o)).toNatClampNeg) (nI i))) p0 p1 s 0 0)
def mmA_1 (M : mx_Mem) (o i : Nat) : Int32 := mmC_1 M (nI o) (nI i)
theorem mmC_fr_1 {M N : mx_Mem} (h : frM M N) (a b : Int32) : mmC_1 N a b = mmC_1 M a b := by
  unfold mmC_1 mpl_1
  rw [h.1 52 (by decide) (by decide), h.1 48 (by decide) (by decide), h.1 49 (by decide) (by decide)]
theorem mpl_fr_1 {M N : mx_Mem} (h : frM M N) : mpl_1 N = mpl_1 M := by
  unfold mpl_1
  rw [h.1 52 (by decide) (by decide)]
set_option maxRecDepth 100000 in
set_option maxHeartbeats 4000000 in
theorem tX8_advice_no {l : Launch} {G : mx_G} {t : Int32} {M : mx_Mem} (hn : ¬ (isT t ∧ M.1 52 1 = 1)) : mx_Met l G yX8_advice cX8_advice 7 ((some FieldType.int)) 4 104 [.ref 46, .int t] M (mx_F (some (.int (-1))) (mI M 46 13 0)) := by
  refine mx_enter (own := RX8) (L := [.ref 46, .int t, .null, .null, .null, .null, .null]) (by decide +kernel) rfl rfl rfl ?_
  intro X hlX hX hR hT
  refine r_aload_n 1 hX dX8_advice_0 rfl ?_
  refine r_iconst 2 hX dX8_advice_1 (v := 0) (by decide) ?_
  refine r_putI 5 hX dX8_advice_2 fX8_63 fp8_13 rfl rfl rfl ?_
  refine r_iload_n 6 hX dX8_advice_5 rfl ?_
  refine r_cS1F 9 hX hR tX8_isTeam dX8_advice_6 kX8_isTeam lX8_71 rfl rfl rfl ?_
  refine r_Beq 12 19 hX dX8_advice_9 (fun c1 => ?_) (fun c1 => ?_)
  · refine r_iconst 20 hX dX8_advice_19 (v := -1) (by decide) ?_
    refine r_iret hX hT dX8_advice_20 ?_
    exact ⟨rfl, rfl⟩
  · refine r_aload_n 13 hX dX8_advice_12 rfl ?_
    refine r_cV0F 16 hX hR tX8_isOn dX8_advice_13 kX8_isOn lX8_82 rfl rfl rfl rfl rfl rfl ?_
    refine r_Bne 19 21 hX dX8_advice_16 (fun c2 => ?_) (fun c2 => ?_)
    · exact absurd ⟨by simpa using c1, by simpa [mI, mR, upd] using c2⟩ hn
    · refine r_iconst 20 hX dX8_advice_19 (v := -1) (by decide) ?_
      refine r_iret hX hT dX8_advice_20 ?_
      exact ⟨rfl, rfl⟩
set_option maxRecDepth 100000 in
set_option maxHeartbeats 4000000 in
theorem tX8_advice_0 {l : Launch} {G : mx_G} {s p0 p1 tg cap : Nat} {M : mx_Mem} (ho : M.1 52 1 = 1) (hS : MO (mI M 46 13 0) s p0 p1 tg cap) (hP : ∀ k : Nat, k < 12 → isP ((cnM (mI M 46 13 0)).1 58 k)) : mx_Met l G yX8_advice cX8_advice 7 ((some FieldType.int)) 4 104 [.ref 46, .int 0] M ((fun r N => r = some (.int (adF 0 (mmA_0 (mI M 46 13 0)) (maW_0 (mI M 46 13 0) s p0 p1 tg cap) (nI (UU tg cap (moN (cnM (mI M 46 13 0))) p0 p1 s 0 0)) 144).1) ∧ if (adF 0 (mmA_0 (mI M 46 13 0)) (maW_0 (mI M 46 13 0) s p0 p1 tg cap) (nI (UU tg cap (moN (cnM (mI M 46 13 0))) p0 p1 s 0 0)) 144).1 = -2 then frM (mI M 46 13 0) N else frM (mI (mI (mI M 46 13 0) 46 11 (adF 0 (mmA_0 (mI M 46 13 0)) (maW_0 (mI M 46 13 0) s p0 p1 tg cap) (nI (UU tg cap (moN (cnM (mI M 46 13 0))) p0 p1 s 0 0)) 144).2) 46 12 1) N)) := by
  refine mx_enter (own := RX8) (L := [.ref 46, .int 0, .null, .null, .null, .null, .null]) (by decide +kernel) rfl rfl rfl ?_
  intro X hlX hX hR hT
  generalize hA : adF 0 (mmA_0 (mI M 46 13 0)) (maW_0 (mI M 46 13 0) s p0 p1 tg cap) (nI (UU tg cap (moN (cnM (mI M 46 13 0))) p0 p1 s 0 0)) = A
  have hA0 : A 0 = (-2, nI (UU tg cap (moN (cnM (mI M 46 13 0))) p0 p1 s 0 0)) := by rw [← hA]; rfl
  have hAs : ∀ o i, i < 12 → A (o * 12 + (i + 1)) = if mmA_0 (mI M 46 13 0) o i = 0 ∧ bt 0 (maW_0 (mI M 46 13 0) s p0 p1 tg cap o i) (A (o * 12 + i)).2 then (nI (o * 12 + i), maW_0 (mI M 46 13 0) s p0 p1 tg cap o i) else A (o * 12 + i) := fun o i hi => by rw [← hA]; exact adF_s _ _ _ _ hi
  have inner : ∀ o, o < 12 → (∀ N w6, frM (mI M 46 13 0) N → mx_WW G X 153 [.ref 46, .int 0, .int (A (o * 12 + 12)).1, .int (A (o * 12 + 12)).2, .int (nI o), .int (nI 12), w6] [] N) → ∀ N w6, frM (mI M 46 13 0) N → mx_WW G X 54 [.ref 46, .int 0, .int (A (o * 12)).1, .int (A (o * 12)).2, .int (nI o), .int (nI 0), w6] [] N := by
    intro o ho12 hE
    refine mx_back (P := fun i => ∀ N w6, frM (mI M 46 13 0) N → mx_WW G X 54 [.ref 46, .int 0, .int (A (o * 12 + i)).1, .int (A (o * 12 + i)).2, .int (nI o), .int (nI i), w6] [] N) 12 (fun i hi ih => ?_) ?_
    · intro N w6 hF
      have g1 : ¬ 12 ≤ nI i := nI_ge (b := 12) hi (by decide)
      have g2 : mmC_0 N (nI o) (nI i) = mmA_0 (mI M 46 13 0) o i := mmC_fr_0 hF (nI o) (nI i)
      have g3 := hAs o i hi
      have g4 : (12 : Int32) * nI o + nI i = nI (o * 12 + i) := by rw [show (12 : Int32) = nI 12 from rfl, pk_mul, nI_add, Nat.mul_comm]
      by_cases hm : mmA_0 (mI M 46 13 0) o i = 0
      · have hpl := (mmC_0_0 hm).2.2
        obtain ⟨k, hk, ek⟩ := vp_in_of (plc_in _ _ hpl) (by decide)
        have q1 : plc (mpl_0 (cnM N)) (nI o) = nI k := by rw [mpl_fr_0 (frM_tr hF (frM_cn N))]; exact ek
        have q2 : (0 : Int32) + nI k = nI (0 + k) := nI_add 0 k
        have fN : frM (mI M 46 13 0) (mI (cnM N) 58 (0 + k) (nI i)) := frM_tr hF (frM_tr (frM_cn N) (frM_58 _ _ _))
        have hC := MO_fr fN hS
        have q4 : ∀ k', k' < 12 → (mI (cnM N) 58 (0 + k) (nI i)).1 58 k' = (mI (cnM (mI M 46 13 0)) 58 (0 + k) (nI i)).1 58 k' := fun k' hk' => by rw [mI_ap, mI_ap, cn_congr hF k' hk']
        have e3 : ∀ k' : Nat, k' < 12 → isP ((mI (cnM N) 58 (0 + k) (nI i)).1 58 k') := fun k' hk' => by
          rw [q4 k' hk', mI_ap]
          split
          · exact ⟨nI_pos' (by omega), g1⟩
          · exact hP k' hk'
        have g5 : nI (UU tg cap (moN (mI (cnM N) 58 (0 + k) (nI i))) p0 p1 s 0 0) = maW_0 (mI M 46 13 0) s p0 p1 tg cap o i := by
          unfold maW_0
          rw [ek, nI_clamp (by omega)]
          refine congrArg nI (UU_congr ?_ q4 p0 p1 s 0 0)
          rw [fN.1 47 (by decide) (by decide), (frM_tr (frM_cn (mI M 46 13 0)) (frM_58 _ _ _)).1 47 (by decide) (by decide)]
        refine r_iload 56 hX dX8_advice_54 rfl ?_
        refine r_bipush 58 hX dX8_advice_56 (v := 12) (by decide) ?_
        refine r_icmp_ge 61 153 hX dX8_advice_58 (fun c1 => absurd c1 g1) (fun c1 => ?_)
        refine r_aload_n 62 hX dX8_advice_61 rfl ?_
        refine r_iload_n 63 hX dX8_advice_62 rfl ?_
        refine r_iload 65 hX dX8_advice_63 rfl ?_
        refine r_iload 67 hX dX8_advice_65 rfl ?_
        refine r_cV3F 70 hX hR tX8_mayNot_0 dX8_advice_67 kX8_mayNot lX8_120 rfl rfl rfl rfl rfl rfl ?_
        rw [g2]
        refine r_if_eq 73 76 hX dX8_advice_70 (fun c2 => ?_) (fun c2 => absurd hm c2)
        refine r_aload_n 77 hX dX8_advice_76 rfl ?_
        refine r_cV0U 80 hX hR tX8_countNow dX8_advice_77 kX8_countNow lX8_174 rfl rfl rfl rfl rfl rfl ?_
        refine r_aload_n 81 hX dX8_advice_80 rfl ?_
        refine r_getR 84 hX dX8_advice_81 fX8_45 rfl rfl rfl ?_
        refine r_bipush 86 hX dX8_advice_84 (v := 6) (by decide) ?_
        refine r_iload_n 87 hX dX8_advice_86 rfl ?_
        refine r_imulK 88 hX dX8_advice_87 (w := 0) (by decide) ?_
        refine r_aload_n 89 hX dX8_advice_88 rfl ?_
        refine r_iload_n 90 hX dX8_advice_89 rfl ?_
        refine r_iload 92 hX dX8_advice_90 rfl ?_
        refine r_cV2F 95 hX hR tX8_placeOf_0 dX8_advice_92 kX8_placeOf lX8_117 rfl rfl rfl rfl rfl rfl ?_
        rw [q1]
        refine r_iadd 96 hX dX8_advice_95 ?_
        rw [q2]
        refine r_iload 98 hX dX8_advice_96 rfl ?_
        refine r_iastK 99 hX dX8_advice_98 rfl rfl (vp_in_nI (show 0 + k < 12 by omega) (by decide)) (j := 0 + k) (nI_clamp (by omega)) ?_
        skip
        generalize hN2 : mI (cnM N) 58 (0 + k) (nI i) = N2 at fN hC e3 g5 ⊢
        refine r_aload_n 100 hX dX8_advice_99 rfl ?_
        refine r_aload_n 101 hX dX8_advice_100 rfl ?_
        refine r_cV0F 104 hX hR tX8_goal dX8_advice_101 kX8_goal lX8_102 rfl rfl rfl rfl rfl rfl ?_
        rw [hC.2.1.1]
        refine r_cV1G 107 hX hR (tX8_fill hC.2.2.1 hC.2.2.2.1 hC.2.1.2 e3) dX8_advice_104 kX8_fill lX8_194 rfl rfl rfl rfl rfl rfl (fun r9 M9 hp9 => ?_)
        obtain ⟨rfl, hI9⟩ := hp9
        show mx_WW G X 107 _ [] M9
        have hM := MO_fr (frM_fl hI9) hC
        have hF9 : frM (mI M 46 13 0) M9 := frM_tr fN (frM_fl hI9)
        refine r_aload_n 108 hX dX8_advice_107 rfl ?_
        refine r_cV0F 111 hX hR (tX8_now hM (hI9.2 p0 p1 hC.2.2.2.2.1 hC.2.2.2.2.2.1 s 0 0 hC.2.2.2.2.2.2 (by decide) (by decide))) dX8_advice_108 kX8_now lX8_197 rfl rfl rfl rfl rfl rfl ?_
        rw [g5]
        refine r_istore 113 hX dX8_advice_111 rfl ?_
        refine r_iload_n 114 hX dX8_advice_113 rfl ?_
        refine r_if_ne 117 126 hX dX8_advice_114 (fun c => absurd c (by decide)) (fun _ => ?_)
        refine r_iload 119 hX dX8_advice_117 rfl ?_
        refine r_iload_n 120 hX dX8_advice_119 rfl ?_
        refine r_Icmp_gt 123 135 hX dX8_advice_120 (fun c1 => ?_) (fun c1 => ?_)
        · refine r_bipush 137 hX dX8_advice_135 (v := 12) (by decide) ?_
          refine r_iload 139 hX dX8_advice_137 rfl ?_
          refine r_imul 140 hX dX8_advice_139 ?_
          refine r_iload 142 hX dX8_advice_140 rfl ?_
          refine r_iadd 143 hX dX8_advice_142 ?_
          rw [g4]
          refine r_istore_n 144 hX dX8_advice_143 rfl ?_
          refine r_iload 146 hX dX8_advice_144 rfl ?_
          refine r_istore_n 147 hX dX8_advice_146 rfl ?_
          refine (show mx_WW G X 147 [_, _, _, _, _, _, _] _ _ from ?_)
          refine r_iinc 150 hX dX8_advice_147 rfl (v := 1) (by decide) rfl ?_
          refine r_goto 54 hX dX8_advice_150 ?_
          rw [nI_1]
          first
          | (have ih2 := ih M9 (.int (maW_0 (mI M 46 13 0) s p0 p1 tg cap o i)) hF9; rw [g3, if_neg (fun k => c1 k.2)] at ih2; exact ih2)
          | (have ih2 := ih M9 (.int (maW_0 (mI M 46 13 0) s p0 p1 tg cap o i)) hF9; rw [g3, if_neg (fun k => k.2 c1)] at ih2; exact ih2)
          | (have ih2 := ih M9 (.int (maW_0 (mI M 46 13 0) s p0 p1 tg cap o i)) hF9; rw [g3, if_pos ⟨hm, c1⟩] at ih2; exact ih2)
        · refine r_goto 147 hX dX8_advice_123 ?_
          refine r_iinc 150 hX dX8_advice_147 rfl (v := 1) (by decide) rfl ?_
          refine r_goto 54 hX dX8_advice_150 ?_
          rw [nI_1]
          first
          | (have ih2 := ih M9 (.int (maW_0 (mI M 46 13 0) s p0 p1 tg cap o i)) hF9; rw [g3, if_neg (fun k => c1 k.2)] at ih2; exact ih2)
          | (have ih2 := ih M9 (.int (maW_0 (mI M 46 13 0) s p0 p1 tg cap o i)) hF9; rw [g3, if_neg (fun k => k.2 c1)] at ih2; exact ih2)
          | (have ih2 := ih M9 (.int (maW_0 (mI M 46 13 0) s p0 p1 tg cap o i)) hF9; rw [g3, if_pos ⟨hm, c1⟩] at ih2; exact ih2)
      · refine r_iload 56 hX dX8_advice_54 rfl ?_
        refine r_bipush 58 hX dX8_advice_56 (v := 12) (by decide) ?_
        refine r_icmp_ge 61 153 hX dX8_advice_58 (fun c1 => absurd c1 g1) (fun c1 => ?_)
        refine r_aload_n 62 hX dX8_advice_61 rfl ?_
        refine r_iload_n 63 hX dX8_advice_62 rfl ?_
        refine r_iload 65 hX dX8_advice_63 rfl ?_
        refine r_iload 67 hX dX8_advice_65 rfl ?_
        refine r_cV3F 70 hX hR tX8_mayNot_0 dX8_advice_67 kX8_mayNot lX8_120 rfl rfl rfl rfl rfl rfl ?_
        rw [g2]
        refine r_if_eq 73 76 hX dX8_advice_70 (fun c2 => absurd c2 hm) (fun c2 => ?_)
        refine r_goto 147 hX dX8_advice_73 ?_
        refine r_iinc 150 hX dX8_advice_147 rfl (v := 1) (by decide) rfl ?_
        refine r_goto 54 hX dX8_advice_150 ?_
        rw [nI_1]
        have ih2 := ih N w6 hF
        rw [g3, if_neg (fun k => hm k.1)] at ih2
        exact ih2
    · intro N w6 hF
      refine r_iload 56 hX dX8_advice_54 rfl ?_
      refine r_bipush 58 hX dX8_advice_56 (v := 12) (by decide) ?_
      refine r_icmp_ge 61 153 hX dX8_advice_58 (fun c1 => ?_) (fun c1 => absurd (show (12 : Int32) ≤ nI 12 by decide) c1)
      exact hE N w6 hF
  have outer : ∀ N w5 w6, frM (mI M 46 13 0) N → mx_WW G X 44 [.ref 46, .int 0, .int (A (0 * 12)).1, .int (A (0 * 12)).2, .int (nI 0), w5, w6] [] N := by
    refine mx_back (P := fun o => ∀ N w5 w6, frM (mI M 46 13 0) N → mx_WW G X 44 [.ref 46, .int 0, .int (A (o * 12)).1, .int (A (o * 12)).2, .int (nI o), w5, w6] [] N) 12 (fun o ho12 ih => ?_) ?_
    · intro N w5 w6 hF
      have g1 : ¬ 12 ≤ nI o := nI_ge (b := 12) ho12 (by decide)
      refine r_iload 46 hX dX8_advice_44 rfl ?_
      refine r_bipush 48 hX dX8_advice_46 (v := 12) (by decide) ?_
      refine r_icmp_ge 51 159 hX dX8_advice_48 (fun c1 => absurd c1 g1) (fun c1 => ?_)
      refine r_iconst 52 hX dX8_advice_51 (v := 0) (by decide) ?_
      refine r_istore 54 hX dX8_advice_52 rfl ?_
      skip
      refine inner o ho12 ?_ N w6 hF
      intro N2 w6 hF2
      refine r_iinc 156 hX dX8_advice_153 rfl (v := 1) (by decide) rfl ?_
      refine r_goto 44 hX dX8_advice_156 ?_
      rw [nI_1]
      have ih2 := ih N2 (.int (nI 12)) w6 hF2
      rw [show (o + 1) * 12 = o * 12 + 12 by omega] at ih2
      exact ih2
    · intro N w5 w6 hF
      show mx_WW G X 44 [.ref 46, .int 0, .int (A 144).1, .int (A 144).2, .int 12, w5, w6] [] N
      refine r_iload 46 hX dX8_advice_44 rfl ?_
      refine r_bipush 48 hX dX8_advice_46 (v := 12) (by decide) ?_
      refine r_icmp_ge 51 159 hX dX8_advice_48 (fun _ => ?_) (fun c => absurd c (by decide))
      refine r_iload_n 160 hX dX8_advice_159 rfl ?_
      refine r_bipush 162 hX dX8_advice_160 (v := -2) (by decide) ?_
      refine r_icmp_ne 165 167 hX dX8_advice_162 (fun c1 => ?_) (fun c1 => ?_)
      · refine r_aload_n 168 hX dX8_advice_167 rfl ?_
        refine r_iload_n 169 hX dX8_advice_168 rfl ?_
        refine r_putI 172 hX dX8_advice_169 fX8_200 fp8_11 rfl rfl rfl ?_
        refine r_aload_n 173 hX dX8_advice_172 rfl ?_
        refine r_iconst 174 hX dX8_advice_173 (v := 1) (by decide) ?_
        refine r_putI 177 hX dX8_advice_174 fX8_132 fp8_12 rfl rfl rfl ?_
        refine r_iload_n 178 hX dX8_advice_177 rfl ?_
        refine r_iret hX hT dX8_advice_178 ?_
        refine ⟨by rw [hA], ?_⟩
        rw [hA]
        first
        | (rw [if_pos c1]; exact hF)
        | (rw [if_neg c1]; exact frM_mI (frM_mI hF 11 _) 12 1)
      · refine r_iload_n 166 hX dX8_advice_165 rfl ?_
        refine r_iret hX hT dX8_advice_166 ?_
        refine ⟨by rw [hA], ?_⟩
        rw [hA]
        first
        | (rw [if_pos c1]; exact hF)
        | (rw [if_neg c1]; exact frM_mI (frM_mI hF 11 _) 12 1)
  have hC := MO_fr (frM_cn (mI M 46 13 0)) hS
  refine r_aload_n 1 hX dX8_advice_0 rfl ?_
  refine r_iconst 2 hX dX8_advice_1 (v := 0) (by decide) ?_
  refine r_putI 5 hX dX8_advice_2 fX8_63 fp8_13 rfl rfl rfl ?_
  refine r_iload_n 6 hX dX8_advice_5 rfl ?_
  refine r_cS1F 9 hX hR tX8_isTeam_0 dX8_advice_6 kX8_isTeam lX8_71 rfl rfl rfl ?_
  refine r_if_eq 12 19 hX dX8_advice_9 (fun c => absurd c (by decide)) (fun _ => ?_)
  refine r_aload_n 13 hX dX8_advice_12 rfl ?_
  refine r_cV0F 16 hX hR tX8_isOn dX8_advice_13 kX8_isOn lX8_82 rfl rfl rfl rfl rfl rfl ?_
  refine r_Bne 19 21 hX dX8_advice_16 (fun c1 => ?_) (fun c1 => absurd ho c1)
  refine r_aload_n 22 hX dX8_advice_21 rfl ?_
  refine r_cV0U 25 hX hR tX8_countNow dX8_advice_22 kX8_countNow lX8_174 rfl rfl rfl rfl rfl rfl ?_
  refine r_aload_n 26 hX dX8_advice_25 rfl ?_
  refine r_aload_n 27 hX dX8_advice_26 rfl ?_
  refine r_cV0F 30 hX hR tX8_goal dX8_advice_27 kX8_goal lX8_102 rfl rfl rfl rfl rfl rfl ?_
  rw [hC.2.1.1]
  refine r_cV1G 33 hX hR (tX8_fill hC.2.2.1 hC.2.2.2.1 hC.2.1.2 hP) dX8_advice_30 kX8_fill lX8_194 rfl rfl rfl rfl rfl rfl (fun r9 M9 hp9 => ?_)
  obtain ⟨rfl, hI9⟩ := hp9
  show mx_WW G X 33 _ [] M9
  have hM := MO_fr (frM_fl hI9) hC
  refine r_bipush 35 hX dX8_advice_33 (v := -2) (by decide) ?_
  refine r_istore_n 36 hX dX8_advice_35 rfl ?_
  refine r_aload_n 37 hX dX8_advice_36 rfl ?_
  refine r_cV0F 40 hX hR (tX8_now hM (hI9.2 p0 p1 hC.2.2.2.2.1 hC.2.2.2.2.2.1 s 0 0 hC.2.2.2.2.2.2 (by decide) (by decide))) dX8_advice_37 kX8_now lX8_197 rfl rfl rfl rfl rfl rfl ?_
  refine r_istore_n 41 hX dX8_advice_40 rfl ?_
  refine r_iconst 42 hX dX8_advice_41 (v := 0) (by decide) ?_
  refine r_istore 44 hX dX8_advice_42 rfl ?_
  skip
  have key := outer M9 .null .null (frM_tr (frM_cn (mI M 46 13 0)) (frM_fl hI9))
  rw [show 0 * 12 = 0 from rfl, hA0] at key
  exact key
set_option maxRecDepth 100000 in
set_option maxHeartbeats 4000000 in
theorem tX8_advice_1 {l : Launch} {G : mx_G} {s p0 p1 tg cap : Nat} {M : mx_Mem} (ho : M.1 52 1 = 1) (hS : MO (mI M 46 13 0) s p0 p1 tg cap) (hP : ∀ k : Nat, k < 12 → isP ((cnM (mI M 46 13 0)).1 58 k)) : mx_Met l G yX8_advice cX8_advice 7 ((some FieldType.int)) 4 104 [.ref 46, .int 1] M ((fun r N => r = some (.int (adF 1 (mmA_1 (mI M 46 13 0)) (maW_1 (mI M 46 13 0) s p0 p1 tg cap) (nI (UU tg cap (moN (cnM (mI M 46 13 0))) p0 p1 s 0 0)) 144).1) ∧ if (adF 1 (mmA_1 (mI M 46 13 0)) (maW_1 (mI M 46 13 0) s p0 p1 tg cap) (nI (UU tg cap (moN (cnM (mI M 46 13 0))) p0 p1 s 0 0)) 144).1 = -2 then frM (mI M 46 13 0) N else frM (mI (mI (mI M 46 13 0) 46 11 (adF 1 (mmA_1 (mI M 46 13 0)) (maW_1 (mI M 46 13 0) s p0 p1 tg cap) (nI (UU tg cap (moN (cnM (mI M 46 13 0))) p0 p1 s 0 0)) 144).2) 46 12 1) N)) := by
  refine mx_enter (own := RX8) (L := [.ref 46, .int 1, .null, .null, .null, .null, .null]) (by decide +kernel) rfl rfl rfl ?_
  intro X hlX hX hR hT
  generalize hA : adF 1 (mmA_1 (mI M 46 13 0)) (maW_1 (mI M 46 13 0) s p0 p1 tg cap) (nI (UU tg cap (moN (cnM (mI M 46 13 0))) p0 p1 s 0 0)) = A
  have hA0 : A 0 = (-2, nI (UU tg cap (moN (cnM (mI M 46 13 0))) p0 p1 s 0 0)) := by rw [← hA]; rfl
  have hAs : ∀ o i, i < 12 → A (o * 12 + (i + 1)) = if mmA_1 (mI M 46 13 0) o i = 0 ∧ bt 1 (maW_1 (mI M 46 13 0) s p0 p1 tg cap o i) (A (o * 12 + i)).2 then (nI (o * 12 + i), maW_1 (mI M 46 13 0) s p0 p1 tg cap o i) else A (o * 12 + i) := fun o i hi => by rw [← hA]; exact adF_s _ _ _ _ hi
  have inner : ∀ o, o < 12 → (∀ N w6, frM (mI M 46 13 0) N → mx_WW G X 153 [.ref 46, .int 1, .int (A (o * 12 + 12)).1, .int (A (o * 12 + 12)).2, .int (nI o), .int (nI 12), w6] [] N) → ∀ N w6, frM (mI M 46 13 0) N → mx_WW G X 54 [.ref 46, .int 1, .int (A (o * 12)).1, .int (A (o * 12)).2, .int (nI o), .int (nI 0), w6] [] N := by
    intro o ho12 hE
    refine mx_back (P := fun i => ∀ N w6, frM (mI M 46 13 0) N → mx_WW G X 54 [.ref 46, .int 1, .int (A (o * 12 + i)).1, .int (A (o * 12 + i)).2, .int (nI o), .int (nI i), w6] [] N) 12 (fun i hi ih => ?_) ?_
    · intro N w6 hF
      have g1 : ¬ 12 ≤ nI i := nI_ge (b := 12) hi (by decide)
      have g2 : mmC_1 N (nI o) (nI i) = mmA_1 (mI M 46 13 0) o i := mmC_fr_1 hF (nI o) (nI i)
      have g3 := hAs o i hi
      have g4 : (12 : Int32) * nI o + nI i = nI (o * 12 + i) := by rw [show (12 : Int32) = nI 12 from rfl, pk_mul, nI_add, Nat.mul_comm]
      by_cases hm : mmA_1 (mI M 46 13 0) o i = 0
      · have hpl := (mmC_0_1 hm).2.2
        obtain ⟨k, hk, ek⟩ := vp_in_of (plc_in _ _ hpl) (by decide)
        have q1 : plc (mpl_1 (cnM N)) (nI o) = nI k := by rw [mpl_fr_1 (frM_tr hF (frM_cn N))]; exact ek
        have q2 : (6 : Int32) + nI k = nI (6 + k) := nI_add 6 k
        have fN : frM (mI M 46 13 0) (mI (cnM N) 58 (6 + k) (nI i)) := frM_tr hF (frM_tr (frM_cn N) (frM_58 _ _ _))
        have hC := MO_fr fN hS
        have q4 : ∀ k', k' < 12 → (mI (cnM N) 58 (6 + k) (nI i)).1 58 k' = (mI (cnM (mI M 46 13 0)) 58 (6 + k) (nI i)).1 58 k' := fun k' hk' => by rw [mI_ap, mI_ap, cn_congr hF k' hk']
        have e3 : ∀ k' : Nat, k' < 12 → isP ((mI (cnM N) 58 (6 + k) (nI i)).1 58 k') := fun k' hk' => by
          rw [q4 k' hk', mI_ap]
          split
          · exact ⟨nI_pos' (by omega), g1⟩
          · exact hP k' hk'
        have g5 : nI (UU tg cap (moN (mI (cnM N) 58 (6 + k) (nI i))) p0 p1 s 0 0) = maW_1 (mI M 46 13 0) s p0 p1 tg cap o i := by
          unfold maW_1
          rw [ek, nI_clamp (by omega)]
          refine congrArg nI (UU_congr ?_ q4 p0 p1 s 0 0)
          rw [fN.1 47 (by decide) (by decide), (frM_tr (frM_cn (mI M 46 13 0)) (frM_58 _ _ _)).1 47 (by decide) (by decide)]
        refine r_iload 56 hX dX8_advice_54 rfl ?_
        refine r_bipush 58 hX dX8_advice_56 (v := 12) (by decide) ?_
        refine r_icmp_ge 61 153 hX dX8_advice_58 (fun c1 => absurd c1 g1) (fun c1 => ?_)
        refine r_aload_n 62 hX dX8_advice_61 rfl ?_
        refine r_iload_n 63 hX dX8_advice_62 rfl ?_
        refine r_iload 65 hX dX8_advice_63 rfl ?_
        refine r_iload 67 hX dX8_advice_65 rfl ?_
        refine r_cV3F 70 hX hR tX8_mayNot_1 dX8_advice_67 kX8_mayNot lX8_120 rfl rfl rfl rfl rfl rfl ?_
        rw [g2]
        refine r_if_eq 73 76 hX dX8_advice_70 (fun c2 => ?_) (fun c2 => absurd hm c2)
        refine r_aload_n 77 hX dX8_advice_76 rfl ?_
        refine r_cV0U 80 hX hR tX8_countNow dX8_advice_77 kX8_countNow lX8_174 rfl rfl rfl rfl rfl rfl ?_
        refine r_aload_n 81 hX dX8_advice_80 rfl ?_
        refine r_getR 84 hX dX8_advice_81 fX8_45 rfl rfl rfl ?_
        refine r_bipush 86 hX dX8_advice_84 (v := 6) (by decide) ?_
        refine r_iload_n 87 hX dX8_advice_86 rfl ?_
        refine r_imulK 88 hX dX8_advice_87 (w := 6) (by decide) ?_
        refine r_aload_n 89 hX dX8_advice_88 rfl ?_
        refine r_iload_n 90 hX dX8_advice_89 rfl ?_
        refine r_iload 92 hX dX8_advice_90 rfl ?_
        refine r_cV2F 95 hX hR tX8_placeOf_1 dX8_advice_92 kX8_placeOf lX8_117 rfl rfl rfl rfl rfl rfl ?_
        rw [q1]
        refine r_iadd 96 hX dX8_advice_95 ?_
        rw [q2]
        refine r_iload 98 hX dX8_advice_96 rfl ?_
        refine r_iastK 99 hX dX8_advice_98 rfl rfl (vp_in_nI (show 6 + k < 12 by omega) (by decide)) (j := 6 + k) (nI_clamp (by omega)) ?_
        skip
        generalize hN2 : mI (cnM N) 58 (6 + k) (nI i) = N2 at fN hC e3 g5 ⊢
        refine r_aload_n 100 hX dX8_advice_99 rfl ?_
        refine r_aload_n 101 hX dX8_advice_100 rfl ?_
        refine r_cV0F 104 hX hR tX8_goal dX8_advice_101 kX8_goal lX8_102 rfl rfl rfl rfl rfl rfl ?_
        rw [hC.2.1.1]
        refine r_cV1G 107 hX hR (tX8_fill hC.2.2.1 hC.2.2.2.1 hC.2.1.2 e3) dX8_advice_104 kX8_fill lX8_194 rfl rfl rfl rfl rfl rfl (fun r9 M9 hp9 => ?_)
        obtain ⟨rfl, hI9⟩ := hp9
        show mx_WW G X 107 _ [] M9
        have hM := MO_fr (frM_fl hI9) hC
        have hF9 : frM (mI M 46 13 0) M9 := frM_tr fN (frM_fl hI9)
        refine r_aload_n 108 hX dX8_advice_107 rfl ?_
        refine r_cV0F 111 hX hR (tX8_now hM (hI9.2 p0 p1 hC.2.2.2.2.1 hC.2.2.2.2.2.1 s 0 0 hC.2.2.2.2.2.2 (by decide) (by decide))) dX8_advice_108 kX8_now lX8_197 rfl rfl rfl rfl rfl rfl ?_
        rw [g5]
        refine r_istore 113 hX dX8_advice_111 rfl ?_
        refine r_iload_n 114 hX dX8_advice_113 rfl ?_
        refine r_if_ne 117 126 hX dX8_advice_114 (fun _ => ?_) (fun c => absurd c (by decide))
        refine r_iload 128 hX dX8_advice_126 rfl ?_
        refine r_iload_n 129 hX dX8_advice_128 rfl ?_
        refine r_Icmp_lt 132 135 hX dX8_advice_129 (fun c1 => ?_) (fun c1 => ?_)
        · refine r_bipush 137 hX dX8_advice_135 (v := 12) (by decide) ?_
          refine r_iload 139 hX dX8_advice_137 rfl ?_
          refine r_imul 140 hX dX8_advice_139 ?_
          refine r_iload 142 hX dX8_advice_140 rfl ?_
          refine r_iadd 143 hX dX8_advice_142 ?_
          rw [g4]
          refine r_istore_n 144 hX dX8_advice_143 rfl ?_
          refine r_iload 146 hX dX8_advice_144 rfl ?_
          refine r_istore_n 147 hX dX8_advice_146 rfl ?_
          refine (show mx_WW G X 147 [_, _, _, _, _, _, _] _ _ from ?_)
          refine r_iinc 150 hX dX8_advice_147 rfl (v := 1) (by decide) rfl ?_
          refine r_goto 54 hX dX8_advice_150 ?_
          rw [nI_1]
          first
          | (have ih2 := ih M9 (.int (maW_1 (mI M 46 13 0) s p0 p1 tg cap o i)) hF9; rw [g3, if_neg (fun k => c1 k.2)] at ih2; exact ih2)
          | (have ih2 := ih M9 (.int (maW_1 (mI M 46 13 0) s p0 p1 tg cap o i)) hF9; rw [g3, if_neg (fun k => k.2 c1)] at ih2; exact ih2)
          | (have ih2 := ih M9 (.int (maW_1 (mI M 46 13 0) s p0 p1 tg cap o i)) hF9; rw [g3, if_pos ⟨hm, c1⟩] at ih2; exact ih2)
        · refine r_goto 147 hX dX8_advice_132 ?_
          refine r_iinc 150 hX dX8_advice_147 rfl (v := 1) (by decide) rfl ?_
          refine r_goto 54 hX dX8_advice_150 ?_
          rw [nI_1]
          first
          | (have ih2 := ih M9 (.int (maW_1 (mI M 46 13 0) s p0 p1 tg cap o i)) hF9; rw [g3, if_neg (fun k => c1 k.2)] at ih2; exact ih2)
          | (have ih2 := ih M9 (.int (maW_1 (mI M 46 13 0) s p0 p1 tg cap o i)) hF9; rw [g3, if_neg (fun k => k.2 c1)] at ih2; exact ih2)
          | (have ih2 := ih M9 (.int (maW_1 (mI M 46 13 0) s p0 p1 tg cap o i)) hF9; rw [g3, if_pos ⟨hm, c1⟩] at ih2; exact ih2)
      · refine r_iload 56 hX dX8_advice_54 rfl ?_
        refine r_bipush 58 hX dX8_advice_56 (v := 12) (by decide) ?_
        refine r_icmp_ge 61 153 hX dX8_advice_58 (fun c1 => absurd c1 g1) (fun c1 => ?_)
        refine r_aload_n 62 hX dX8_advice_61 rfl ?_
        refine r_iload_n 63 hX dX8_advice_62 rfl ?_
        refine r_iload 65 hX dX8_advice_63 rfl ?_
        refine r_iload 67 hX dX8_advice_65 rfl ?_
        refine r_cV3F 70 hX hR tX8_mayNot_1 dX8_advice_67 kX8_mayNot lX8_120 rfl rfl rfl rfl rfl rfl ?_
        rw [g2]
        refine r_if_eq 73 76 hX dX8_advice_70 (fun c2 => absurd c2 hm) (fun c2 => ?_)
        refine r_goto 147 hX dX8_advice_73 ?_
        refine r_iinc 150 hX dX8_advice_147 rfl (v := 1) (by decide) rfl ?_
        refine r_goto 54 hX dX8_advice_150 ?_
        rw [nI_1]
        have ih2 := ih N w6 hF
        rw [g3, if_neg (fun k => hm k.1)] at ih2
        exact ih2
    · intro N w6 hF
      refine r_iload 56 hX dX8_advice_54 rfl ?_
      refine r_bipush 58 hX dX8_advice_56 (v := 12) (by decide) ?_
      refine r_icmp_ge 61 153 hX dX8_advice_58 (fun c1 => ?_) (fun c1 => absurd (show (12 : Int32) ≤ nI 12 by decide) c1)
      exact hE N w6 hF
  have outer : ∀ N w5 w6, frM (mI M 46 13 0) N → mx_WW G X 44 [.ref 46, .int 1, .int (A (0 * 12)).1, .int (A (0 * 12)).2, .int (nI 0), w5, w6] [] N := by
    refine mx_back (P := fun o => ∀ N w5 w6, frM (mI M 46 13 0) N → mx_WW G X 44 [.ref 46, .int 1, .int (A (o * 12)).1, .int (A (o * 12)).2, .int (nI o), w5, w6] [] N) 12 (fun o ho12 ih => ?_) ?_
    · intro N w5 w6 hF
      have g1 : ¬ 12 ≤ nI o := nI_ge (b := 12) ho12 (by decide)
      refine r_iload 46 hX dX8_advice_44 rfl ?_
      refine r_bipush 48 hX dX8_advice_46 (v := 12) (by decide) ?_
      refine r_icmp_ge 51 159 hX dX8_advice_48 (fun c1 => absurd c1 g1) (fun c1 => ?_)
      refine r_iconst 52 hX dX8_advice_51 (v := 0) (by decide) ?_
      refine r_istore 54 hX dX8_advice_52 rfl ?_
      skip
      refine inner o ho12 ?_ N w6 hF
      intro N2 w6 hF2
      refine r_iinc 156 hX dX8_advice_153 rfl (v := 1) (by decide) rfl ?_
      refine r_goto 44 hX dX8_advice_156 ?_
      rw [nI_1]
      have ih2 := ih N2 (.int (nI 12)) w6 hF2
      rw [show (o + 1) * 12 = o * 12 + 12 by omega] at ih2
      exact ih2
    · intro N w5 w6 hF
      show mx_WW G X 44 [.ref 46, .int 1, .int (A 144).1, .int (A 144).2, .int 12, w5, w6] [] N
      refine r_iload 46 hX dX8_advice_44 rfl ?_
      refine r_bipush 48 hX dX8_advice_46 (v := 12) (by decide) ?_
      refine r_icmp_ge 51 159 hX dX8_advice_48 (fun _ => ?_) (fun c => absurd c (by decide))
      refine r_iload_n 160 hX dX8_advice_159 rfl ?_
      refine r_bipush 162 hX dX8_advice_160 (v := -2) (by decide) ?_
      refine r_icmp_ne 165 167 hX dX8_advice_162 (fun c1 => ?_) (fun c1 => ?_)
      · refine r_aload_n 168 hX dX8_advice_167 rfl ?_
        refine r_iload_n 169 hX dX8_advice_168 rfl ?_
        refine r_putI 172 hX dX8_advice_169 fX8_200 fp8_11 rfl rfl rfl ?_
        refine r_aload_n 173 hX dX8_advice_172 rfl ?_
        refine r_iconst 174 hX dX8_advice_173 (v := 1) (by decide) ?_
        refine r_putI 177 hX dX8_advice_174 fX8_132 fp8_12 rfl rfl rfl ?_
        refine r_iload_n 178 hX dX8_advice_177 rfl ?_
        refine r_iret hX hT dX8_advice_178 ?_
        refine ⟨by rw [hA], ?_⟩
        rw [hA]
        first
        | (rw [if_pos c1]; exact hF)
        | (rw [if_neg c1]; exact frM_mI (frM_mI hF 11 _) 12 1)
      · refine r_iload_n 166 hX dX8_advice_165 rfl ?_
        refine r_iret hX hT dX8_advice_166 ?_
        refine ⟨by rw [hA], ?_⟩
        rw [hA]
        first
        | (rw [if_pos c1]; exact hF)
        | (rw [if_neg c1]; exact frM_mI (frM_mI hF 11 _) 12 1)
  have hC := MO_fr (frM_cn (mI M 46 13 0)) hS
  refine r_aload_n 1 hX dX8_advice_0 rfl ?_
  refine r_iconst 2 hX dX8_advice_1 (v := 0) (by decide) ?_
  refine r_putI 5 hX dX8_advice_2 fX8_63 fp8_13 rfl rfl rfl ?_
  refine r_iload_n 6 hX dX8_advice_5 rfl ?_
  refine r_cS1F 9 hX hR tX8_isTeam_1 dX8_advice_6 kX8_isTeam lX8_71 rfl rfl rfl ?_
  refine r_if_eq 12 19 hX dX8_advice_9 (fun c => absurd c (by decide)) (fun _ => ?_)
  refine r_aload_n 13 hX dX8_advice_12 rfl ?_
  refine r_cV0F 16 hX hR tX8_isOn dX8_advice_13 kX8_isOn lX8_82 rfl rfl rfl rfl rfl rfl ?_
  refine r_Bne 19 21 hX dX8_advice_16 (fun c1 => ?_) (fun c1 => absurd ho c1)
  refine r_aload_n 22 hX dX8_advice_21 rfl ?_
  refine r_cV0U 25 hX hR tX8_countNow dX8_advice_22 kX8_countNow lX8_174 rfl rfl rfl rfl rfl rfl ?_
  refine r_aload_n 26 hX dX8_advice_25 rfl ?_
  refine r_aload_n 27 hX dX8_advice_26 rfl ?_
  refine r_cV0F 30 hX hR tX8_goal dX8_advice_27 kX8_goal lX8_102 rfl rfl rfl rfl rfl rfl ?_
  rw [hC.2.1.1]
  refine r_cV1G 33 hX hR (tX8_fill hC.2.2.1 hC.2.2.2.1 hC.2.1.2 hP) dX8_advice_30 kX8_fill lX8_194 rfl rfl rfl rfl rfl rfl (fun r9 M9 hp9 => ?_)
  obtain ⟨rfl, hI9⟩ := hp9
  show mx_WW G X 33 _ [] M9
  have hM := MO_fr (frM_fl hI9) hC
  refine r_bipush 35 hX dX8_advice_33 (v := -2) (by decide) ?_
  refine r_istore_n 36 hX dX8_advice_35 rfl ?_
  refine r_aload_n 37 hX dX8_advice_36 rfl ?_
  refine r_cV0F 40 hX hR (tX8_now hM (hI9.2 p0 p1 hC.2.2.2.2.1 hC.2.2.2.2.2.1 s 0 0 hC.2.2.2.2.2.2 (by decide) (by decide))) dX8_advice_37 kX8_now lX8_197 rfl rfl rfl rfl rfl rfl ?_
  refine r_istore_n 41 hX dX8_advice_40 rfl ?_
  refine r_iconst 42 hX dX8_advice_41 (v := 0) (by decide) ?_
  refine r_istore 44 hX dX8_advice_42 rfl ?_
  skip
  have key := outer M9 .null .null (frM_tr (frM_cn (mI M 46 13 0)) (frM_fl hI9))
  rw [show 0 * 12 = 0 from rfl, hA0] at key
  exact key

/-! chances of the class: turn -/
theorem tkM_in (M : mx_Mem) (k : Nat) (f : Nat → Int32) (r : Nat) : ∀ i, i < 6 → (tkM M k f r).1 k i = f ((i + r) % 6) := by
  intro i hi
  have : i = 0 ∨ i = 1 ∨ i = 2 ∨ i = 3 ∨ i = 4 ∨ i = 5 := by omega
  unfold tkM
  rcases this with rfl | rfl | rfl | rfl | rfl | rfl <;> simp [mI, mR, upd]
def tkT (M : mx_Mem) (a b : Nat) : mx_Mem := tkM (tkM M 40 (M.1 5) a) 41 (M.1 8) b
theorem frC_tkT (M : mx_Mem) (a b : Nat) : frC M (tkT M a b) := ⟨fun k hk => by rw [tkT, tkM_ne _ _ _ _ (by omega), tkM_ne _ _ _ _ (by omega)], rfl⟩
theorem tkT_o (M : mx_Mem) (a b : Nat) : ∀ i, i < 6 → (tkT M a b).1 40 i = M.1 5 ((i + a) % 6) ∧ (tkT M a b).1 41 i = M.1 8 ((i + b) % 6) := by
  intro i hi
  rw [tkT, tkM_ne _ _ _ _ (by decide), tkM_in _ _ _ _ i hi, tkM_in _ _ _ _ i hi]
  exact ⟨rfl, rfl⟩
theorem tkT_eq {M N : mx_Mem} (h : frC M N) (a b : Nat) : eqO (tkT M a b) (tkT N a b) := by
  intro i hi
  have h1 := tkT_o M a b i hi
  have h2 := tkT_o N a b i hi
  rw [h.1 5 (by decide), h.1 8 (by decide)] at h2
  exact ⟨h2.1.trans h1.1.symm, h2.2.trans h1.2.symm⟩
theorem chV_tkT {M N : mx_Mem} (h : frC M N) (a b s p0 p1 tg cap : Nat) : chV (tkT N a b) s p0 p1 tg cap = chV (tkT M a b) s p0 p1 tg cap := by
  refine chV_congr ?_ ?_ (tkT_eq h a b) s p0 p1 tg cap
  · rw [(frC_tkT N a b).1 4 (by decide), (frC_tkT M a b).1 4 (by decide), h.1 4 (by decide)]
  · rw [(frC_tkT N a b).1 7 (by decide), (frC_tkT M a b).1 7 (by decide), h.1 7 (by decide)]
/-- TURN: the six beginnings in their order -/
def tuF (t : Int32) (W : Nat → Int32) : Nat → Int32 × Int32
  | 0 => (-1, 0)
  | n + 1 => if (tuF t W n).1 = -1 ∨ bt t (W n) (tuF t W n).2 then (nI n, W n) else tuF t W n
def tuW (M : mx_Mem) (t f tg cap : Nat) (r : Nat) : Int32 := nI (chV (tkT M (if t = 0 then r else 0) (if t = 1 then r else 0)) f 0 0 tg cap)
set_option maxRecDepth 100000 in
set_option maxHeartbeats 4000000 in
theorem tX7_turn_no {l : Launch} {G : mx_G} {t f : Int32} {M : mx_Mem} (hn : ¬ (isT t ∧ isT f ∧ ¬ M.1 3 3 = 0 ∧ ¬ M.1 6 3 = 0)) : mx_Met l G yX7_turn cX7_turn 7 ((some FieldType.int)) 5 134 [.ref 0, .int t, .int f] M (mx_F (some (.int (-1))) M) := by
  refine mx_enter (own := RX7) (L := [.ref 0, .int t, .int f, .null, .null, .null, .null]) (by decide +kernel) rfl rfl rfl ?_
  intro X hlX hX hR hT
  refine r_iload_n 1 hX dX7_turn_0 rfl ?_
  refine r_cS1F 4 hX hR tX7_isTeam dX7_turn_1 kX7_isTeam lX7_83 rfl rfl rfl ?_
  refine r_Beq 7 34 hX dX7_turn_4 (fun c1 => ?_) (fun c1 => ?_)
  · refine r_iconst 35 hX dX7_turn_34 (v := -1) (by decide) ?_
    refine r_iret hX hT dX7_turn_35 ?_
    exact ⟨rfl, rfl⟩
  · refine r_iload_n 8 hX dX7_turn_7 rfl ?_
    refine r_cS1F 11 hX hR tX7_isTeam dX7_turn_8 kX7_isTeam lX7_83 rfl rfl rfl ?_
    refine r_Beq 14 34 hX dX7_turn_11 (fun c2 => ?_) (fun c2 => ?_)
    · refine r_iconst 35 hX dX7_turn_34 (v := -1) (by decide) ?_
      refine r_iret hX hT dX7_turn_35 ?_
      exact ⟨rfl, rfl⟩
    · refine r_aload_n 15 hX dX7_turn_14 rfl ?_
      refine r_getR 18 hX dX7_turn_15 fX7_19 rfl rfl rfl ?_
      refine r_getI 21 hX dX7_turn_18 fX7_147 rfl rfl rfl ?_
      refine r_if_eq 24 34 hX dX7_turn_21 (fun c3 => ?_) (fun c3 => ?_)
      · refine r_iconst 35 hX dX7_turn_34 (v := -1) (by decide) ?_
        refine r_iret hX hT dX7_turn_35 ?_
        exact ⟨rfl, rfl⟩
      · refine r_aload_n 25 hX dX7_turn_24 rfl ?_
        refine r_getR 28 hX dX7_turn_25 fX7_23 rfl rfl rfl ?_
        refine r_getI 31 hX dX7_turn_28 fX7_147 rfl rfl rfl ?_
        refine r_if_ne 34 36 hX dX7_turn_31 (fun c4 => ?_) (fun c4 => ?_)
        · simp_all
        · refine r_iconst 35 hX dX7_turn_34 (v := -1) (by decide) ?_
          refine r_iret hX hT dX7_turn_35 ?_
          exact ⟨rfl, rfl⟩
set_option maxRecDepth 100000 in
set_option maxHeartbeats 4000000 in
theorem tX7_turn_0_0 {l : Launch} {G : mx_G} {tg cap : Nat} {M : mx_Mem} (ho0 : ¬ M.1 3 3 = 0) (ho1 : ¬ M.1 6 3 = 0) (h1 : tgt (M.1 2) (M.1 9 8) (M.1 14 8) = nI tg) (h2 : M.1 2 1 = nI cap) (ht : tg ≤ 100) (hcap : cap ≤ 30) : mx_Met l G yX7_turn cX7_turn 7 ((some FieldType.int)) 5 134 [.ref 0, .int 0, .int 0] M ((fun r N => r = some (.int (tuF 0 (tuW M 0 0 tg cap) 6).1) ∧ frC (mI (mI M 0 13 1) 0 14 (tuF 0 (tuW M 0 0 tg cap) 6).2) N)) := by
  refine mx_enter (own := RX7) (L := [.ref 0, .int 0, .int 0, .null, .null, .null, .null]) (by decide +kernel) rfl rfl rfl ?_
  intro X hlX hX hR hT
  generalize hA : tuF 0 (tuW M 0 0 tg cap) = A
  have hA0 : A 0 = (-1, 0) := by rw [← hA]; rfl
  have hAs : ∀ i, A (i + 1) = if (A i).1 = -1 ∨ bt 0 (tuW M 0 0 tg cap i) (A i).2 then (nI i, tuW M 0 0 tg cap i) else A i := fun i => by rw [← hA]; rfl
  have loop : ∀ N w6, frC M N → mx_WW G X 44 [.ref 0, .int 0, .int 0, .int (A 0).1, .int (A 0).2, .int (nI 0), w6] [] N := by
    refine mx_back (P := fun i => ∀ N w6, frC M N → mx_WW G X 44 [.ref 0, .int 0, .int 0, .int (A i).1, .int (A i).2, .int (nI i), w6] [] N) 6 (fun i hi ih => ?_) ?_
    · intro N w6 hF
      have g1 : ¬ 6 ≤ nI i := nI_ge (b := 6) hi (by decide)
      have g3 := hAs i
      have fT := frC_tkT N i 0
      have fT2 := frC_tr hF fT
      have e1 : tgt ((tkT N i 0).1 2) ((tkT N i 0).1 9 8) ((tkT N i 0).1 14 8) = nI tg := by rw [fT2.1 2 (by decide), fT2.1 9 (by decide), fT2.1 14 (by decide)]; exact h1
      have e2 : (tkT N i 0).1 2 1 = nI cap := by rw [fT2.1 2 (by decide)]; exact h2
      refine r_iload 46 hX dX7_turn_44 rfl ?_
      refine r_bipush 48 hX dX7_turn_46 (v := 6) (by decide) ?_
      refine r_icmp_ge 51 140 hX dX7_turn_48 (fun c1 => absurd c1 g1) (fun c1 => ?_)
      refine r_aload_n 52 hX dX7_turn_51 rfl ?_
      refine r_getR 55 hX dX7_turn_52 fX7_72 rfl rfl rfl ?_
      refine r_iconst 56 hX dX7_turn_55 (v := 0) (by decide) ?_
      refine r_aload_n 57 hX dX7_turn_56 rfl ?_
      refine r_getR 60 hX dX7_turn_57 fX7_19 rfl rfl rfl ?_
      refine r_getR 63 hX dX7_turn_60 fX7_264 rfl rfl rfl ?_
      refine r_iload_n 64 hX dX7_turn_63 rfl ?_
      refine r_if_ne 67 72 hX dX7_turn_64 (fun c => absurd c (by decide)) (fun _ => ?_)
      refine r_iload 69 hX dX7_turn_67 rfl ?_
      refine r_goto 73 hX dX7_turn_69 ?_
      refine r_cV3U 76 hX hR (tX0_take_5 (r := i) (by omega)) dX7_turn_73 kX0_take lX7_267 rfl rfl rfl rfl rfl rfl ?_
      refine r_aload_n 77 hX dX7_turn_76 rfl ?_
      refine r_getR 80 hX dX7_turn_77 fX7_72 rfl rfl rfl ?_
      refine r_iconst 81 hX dX7_turn_80 (v := 1) (by decide) ?_
      refine r_aload_n 82 hX dX7_turn_81 rfl ?_
      refine r_getR 85 hX dX7_turn_82 fX7_23 rfl rfl rfl ?_
      refine r_getR 88 hX dX7_turn_85 fX7_264 rfl rfl rfl ?_
      refine r_iload_n 89 hX dX7_turn_88 rfl ?_
      refine r_iconst 90 hX dX7_turn_89 (v := 1) (by decide) ?_
      refine r_icmp_ne 93 98 hX dX7_turn_90 (fun _ => ?_) (fun c => absurd c (by decide))
      refine r_iconst 99 hX dX7_turn_98 (v := 0) (by decide) ?_
      refine r_cV3U 102 hX hR (tX0_take_8 (r := 0) (by omega)) dX7_turn_99 kX0_take lX7_267 rfl rfl rfl rfl rfl rfl ?_
      show mx_WW G X 102 _ _ (tkT N i 0)
      refine r_aload_n 103 hX dX7_turn_102 rfl ?_
      refine r_iload_n 104 hX dX7_turn_103 rfl ?_
      refine r_iconst 105 hX dX7_turn_104 (v := 0) (by decide) ?_
      refine r_iconst 106 hX dX7_turn_105 (v := 0) (by decide) ?_
      refine r_cV3G 109 hX hR (tX7_chanceFrom_0 (p0 := 0) (p1 := 0) e1 e2 ht hcap (by omega) (by omega)) dX7_turn_106 kX7_chanceFrom lX7_271 rfl rfl rfl rfl rfl rfl (fun r9 M9 hp9 => ?_)
      obtain ⟨rfl, hI9⟩ := hp9
      show mx_WW G X 109 _ (.int _ :: []) M9
      have hF9 : frC M M9 := frC_tr fT2 (frC_tr (frC_fp _ _) (frC_sc hI9))
      have g5 : nI (VV tg cap (phN (tkT N i 0) 0) 0 0 0 0) = tuW M 0 0 tg cap i := congrArg nI (chV_tkT hF i 0 0 0 0 tg cap)
      rw [g5]
      refine r_istore 111 hX dX7_turn_109 rfl ?_
      refine r_iload_n 112 hX dX7_turn_111 rfl ?_
      refine r_iconst 113 hX dX7_turn_112 (v := -1) (by decide) ?_
      refine r_icmp_eq 116 127 hX dX7_turn_113 (fun c2 => ?_) (fun c2 => ?_)
      · refine r_iload 129 hX dX7_turn_127 rfl ?_
        refine r_istore_n 130 hX dX7_turn_129 rfl ?_
        refine r_iload 132 hX dX7_turn_130 rfl ?_
        refine r_istore 134 hX dX7_turn_132 rfl ?_
        refine (show mx_WW G X 134 [_, _, _, _, _, _, _] _ _ from ?_)
        refine r_iinc 137 hX dX7_turn_134 rfl (v := 1) (by decide) rfl ?_
        refine r_goto 44 hX dX7_turn_137 ?_
        rw [nI_1]
        have ih2 := ih M9 (.int (tuW M 0 0 tg cap i)) hF9
        first
        | (rw [g3, if_pos (Or.inl c2)] at ih2; exact ih2)
        | (rw [g3, if_pos (Or.inr c3)] at ih2; exact ih2)
        | (rw [g3, if_neg (fun k => k.elim c2 c3)] at ih2; exact ih2)
      · refine r_iload_n 117 hX dX7_turn_116 rfl ?_
        refine r_iload 119 hX dX7_turn_117 rfl ?_
        refine r_iload 121 hX dX7_turn_119 rfl ?_
        refine r_cS3F 124 hX hR tX7_isBetter dX7_turn_121 kX7_isBetter lX7_274 rfl rfl rfl ?_
        refine r_Beq 127 134 hX dX7_turn_124 (fun c3 => ?_) (fun c3 => ?_)
        · refine r_iinc 137 hX dX7_turn_134 rfl (v := 1) (by decide) rfl ?_
          refine r_goto 44 hX dX7_turn_137 ?_
          rw [nI_1]
          have ih2 := ih M9 (.int (tuW M 0 0 tg cap i)) hF9
          first
          | (rw [g3, if_pos (Or.inl c2)] at ih2; exact ih2)
          | (rw [g3, if_pos (Or.inr c3)] at ih2; exact ih2)
          | (rw [g3, if_neg (fun k => k.elim c2 c3)] at ih2; exact ih2)
        · refine r_iload 129 hX dX7_turn_127 rfl ?_
          refine r_istore_n 130 hX dX7_turn_129 rfl ?_
          refine r_iload 132 hX dX7_turn_130 rfl ?_
          refine r_istore 134 hX dX7_turn_132 rfl ?_
          refine (show mx_WW G X 134 [_, _, _, _, _, _, _] _ _ from ?_)
          refine r_iinc 137 hX dX7_turn_134 rfl (v := 1) (by decide) rfl ?_
          refine r_goto 44 hX dX7_turn_137 ?_
          rw [nI_1]
          have ih2 := ih M9 (.int (tuW M 0 0 tg cap i)) hF9
          first
          | (rw [g3, if_pos (Or.inl c2)] at ih2; exact ih2)
          | (rw [g3, if_pos (Or.inr c3)] at ih2; exact ih2)
          | (rw [g3, if_neg (fun k => k.elim c2 c3)] at ih2; exact ih2)
    · intro N w6 hF
      show mx_WW G X 44 [.ref 0, .int 0, .int 0, .int (A 6).1, .int (A 6).2, .int 6, w6] [] N
      refine r_iload 46 hX dX7_turn_44 rfl ?_
      refine r_bipush 48 hX dX7_turn_46 (v := 6) (by decide) ?_
      refine r_icmp_ge 51 140 hX dX7_turn_48 (fun _ => ?_) (fun c => absurd c (by decide))
      refine r_aload_n 141 hX dX7_turn_140 rfl ?_
      refine r_iload 143 hX dX7_turn_141 rfl ?_
      refine r_cV1U 146 hX hR tX7_tellRow dX7_turn_143 kX7_tellRow lX7_278 rfl rfl rfl rfl rfl rfl ?_
      refine r_iload_n 147 hX dX7_turn_146 rfl ?_
      refine r_iret hX hT dX7_turn_147 ?_
      refine ⟨by rw [hA], ?_⟩
      rw [hA]
      exact frC_mI (frC_mI hF 13 1) 14 _
  refine r_iload_n 1 hX dX7_turn_0 rfl ?_
  refine r_cS1F 4 hX hR tX7_isTeam_0 dX7_turn_1 kX7_isTeam lX7_83 rfl rfl rfl ?_
  refine r_if_eq 7 34 hX dX7_turn_4 (fun c => absurd c (by decide)) (fun _ => ?_)
  refine r_iload_n 8 hX dX7_turn_7 rfl ?_
  refine r_cS1F 11 hX hR tX7_isTeam_0 dX7_turn_8 kX7_isTeam lX7_83 rfl rfl rfl ?_
  refine r_if_eq 14 34 hX dX7_turn_11 (fun c => absurd c (by decide)) (fun _ => ?_)
  refine r_aload_n 15 hX dX7_turn_14 rfl ?_
  refine r_getR 18 hX dX7_turn_15 fX7_19 rfl rfl rfl ?_
  refine r_getI 21 hX dX7_turn_18 fX7_147 rfl rfl rfl ?_
  refine r_if_eq 24 34 hX dX7_turn_21 (fun c1 => absurd c1 ho0) (fun c1 => ?_)
  refine r_aload_n 25 hX dX7_turn_24 rfl ?_
  refine r_getR 28 hX dX7_turn_25 fX7_23 rfl rfl rfl ?_
  refine r_getI 31 hX dX7_turn_28 fX7_147 rfl rfl rfl ?_
  refine r_if_ne 34 36 hX dX7_turn_31 (fun c2 => ?_) (fun c2 => absurd c2 ho1)
  refine r_iconst 37 hX dX7_turn_36 (v := -1) (by decide) ?_
  refine r_istore_n 38 hX dX7_turn_37 rfl ?_
  refine r_iconst 39 hX dX7_turn_38 (v := 0) (by decide) ?_
  refine r_istore 41 hX dX7_turn_39 rfl ?_
  refine r_iconst 42 hX dX7_turn_41 (v := 0) (by decide) ?_
  refine r_istore 44 hX dX7_turn_42 rfl ?_
  skip
  have key := loop M .null ⟨fun _ _ => rfl, rfl⟩
  rw [hA0] at key
  exact key
set_option maxRecDepth 100000 in
set_option maxHeartbeats 4000000 in
theorem tX7_turn_1_0 {l : Launch} {G : mx_G} {tg cap : Nat} {M : mx_Mem} (ho0 : ¬ M.1 3 3 = 0) (ho1 : ¬ M.1 6 3 = 0) (h1 : tgt (M.1 2) (M.1 9 8) (M.1 14 8) = nI tg) (h2 : M.1 2 1 = nI cap) (ht : tg ≤ 100) (hcap : cap ≤ 30) : mx_Met l G yX7_turn cX7_turn 7 ((some FieldType.int)) 5 134 [.ref 0, .int 1, .int 0] M ((fun r N => r = some (.int (tuF 1 (tuW M 1 0 tg cap) 6).1) ∧ frC (mI (mI M 0 13 1) 0 14 (tuF 1 (tuW M 1 0 tg cap) 6).2) N)) := by
  refine mx_enter (own := RX7) (L := [.ref 0, .int 1, .int 0, .null, .null, .null, .null]) (by decide +kernel) rfl rfl rfl ?_
  intro X hlX hX hR hT
  generalize hA : tuF 1 (tuW M 1 0 tg cap) = A
  have hA0 : A 0 = (-1, 0) := by rw [← hA]; rfl
  have hAs : ∀ i, A (i + 1) = if (A i).1 = -1 ∨ bt 1 (tuW M 1 0 tg cap i) (A i).2 then (nI i, tuW M 1 0 tg cap i) else A i := fun i => by rw [← hA]; rfl
  have loop : ∀ N w6, frC M N → mx_WW G X 44 [.ref 0, .int 1, .int 0, .int (A 0).1, .int (A 0).2, .int (nI 0), w6] [] N := by
    refine mx_back (P := fun i => ∀ N w6, frC M N → mx_WW G X 44 [.ref 0, .int 1, .int 0, .int (A i).1, .int (A i).2, .int (nI i), w6] [] N) 6 (fun i hi ih => ?_) ?_
    · intro N w6 hF
      have g1 : ¬ 6 ≤ nI i := nI_ge (b := 6) hi (by decide)
      have g3 := hAs i
      have fT := frC_tkT N 0 i
      have fT2 := frC_tr hF fT
      have e1 : tgt ((tkT N 0 i).1 2) ((tkT N 0 i).1 9 8) ((tkT N 0 i).1 14 8) = nI tg := by rw [fT2.1 2 (by decide), fT2.1 9 (by decide), fT2.1 14 (by decide)]; exact h1
      have e2 : (tkT N 0 i).1 2 1 = nI cap := by rw [fT2.1 2 (by decide)]; exact h2
      refine r_iload 46 hX dX7_turn_44 rfl ?_
      refine r_bipush 48 hX dX7_turn_46 (v := 6) (by decide) ?_
      refine r_icmp_ge 51 140 hX dX7_turn_48 (fun c1 => absurd c1 g1) (fun c1 => ?_)
      refine r_aload_n 52 hX dX7_turn_51 rfl ?_
      refine r_getR 55 hX dX7_turn_52 fX7_72 rfl rfl rfl ?_
      refine r_iconst 56 hX dX7_turn_55 (v := 0) (by decide) ?_
      refine r_aload_n 57 hX dX7_turn_56 rfl ?_
      refine r_getR 60 hX dX7_turn_57 fX7_19 rfl rfl rfl ?_
      refine r_getR 63 hX dX7_turn_60 fX7_264 rfl rfl rfl ?_
      refine r_iload_n 64 hX dX7_turn_63 rfl ?_
      refine r_if_ne 67 72 hX dX7_turn_64 (fun _ => ?_) (fun c => absurd c (by decide))
      refine r_iconst 73 hX dX7_turn_72 (v := 0) (by decide) ?_
      refine r_cV3U 76 hX hR (tX0_take_5 (r := 0) (by omega)) dX7_turn_73 kX0_take lX7_267 rfl rfl rfl rfl rfl rfl ?_
      refine r_aload_n 77 hX dX7_turn_76 rfl ?_
      refine r_getR 80 hX dX7_turn_77 fX7_72 rfl rfl rfl ?_
      refine r_iconst 81 hX dX7_turn_80 (v := 1) (by decide) ?_
      refine r_aload_n 82 hX dX7_turn_81 rfl ?_
      refine r_getR 85 hX dX7_turn_82 fX7_23 rfl rfl rfl ?_
      refine r_getR 88 hX dX7_turn_85 fX7_264 rfl rfl rfl ?_
      refine r_iload_n 89 hX dX7_turn_88 rfl ?_
      refine r_iconst 90 hX dX7_turn_89 (v := 1) (by decide) ?_
      refine r_icmp_ne 93 98 hX dX7_turn_90 (fun c => absurd c (by decide)) (fun _ => ?_)
      refine r_iload 95 hX dX7_turn_93 rfl ?_
      refine r_goto 99 hX dX7_turn_95 ?_
      refine r_cV3U 102 hX hR (tX0_take_8 (r := i) (by omega)) dX7_turn_99 kX0_take lX7_267 rfl rfl rfl rfl rfl rfl ?_
      show mx_WW G X 102 _ _ (tkT N 0 i)
      refine r_aload_n 103 hX dX7_turn_102 rfl ?_
      refine r_iload_n 104 hX dX7_turn_103 rfl ?_
      refine r_iconst 105 hX dX7_turn_104 (v := 0) (by decide) ?_
      refine r_iconst 106 hX dX7_turn_105 (v := 0) (by decide) ?_
      refine r_cV3G 109 hX hR (tX7_chanceFrom_0 (p0 := 0) (p1 := 0) e1 e2 ht hcap (by omega) (by omega)) dX7_turn_106 kX7_chanceFrom lX7_271 rfl rfl rfl rfl rfl rfl (fun r9 M9 hp9 => ?_)
      obtain ⟨rfl, hI9⟩ := hp9
      show mx_WW G X 109 _ (.int _ :: []) M9
      have hF9 : frC M M9 := frC_tr fT2 (frC_tr (frC_fp _ _) (frC_sc hI9))
      have g5 : nI (VV tg cap (phN (tkT N 0 i) 0) 0 0 0 0) = tuW M 1 0 tg cap i := congrArg nI (chV_tkT hF 0 i 0 0 0 tg cap)
      rw [g5]
      refine r_istore 111 hX dX7_turn_109 rfl ?_
      refine r_iload_n 112 hX dX7_turn_111 rfl ?_
      refine r_iconst 113 hX dX7_turn_112 (v := -1) (by decide) ?_
      refine r_icmp_eq 116 127 hX dX7_turn_113 (fun c2 => ?_) (fun c2 => ?_)
      · refine r_iload 129 hX dX7_turn_127 rfl ?_
        refine r_istore_n 130 hX dX7_turn_129 rfl ?_
        refine r_iload 132 hX dX7_turn_130 rfl ?_
        refine r_istore 134 hX dX7_turn_132 rfl ?_
        refine (show mx_WW G X 134 [_, _, _, _, _, _, _] _ _ from ?_)
        refine r_iinc 137 hX dX7_turn_134 rfl (v := 1) (by decide) rfl ?_
        refine r_goto 44 hX dX7_turn_137 ?_
        rw [nI_1]
        have ih2 := ih M9 (.int (tuW M 1 0 tg cap i)) hF9
        first
        | (rw [g3, if_pos (Or.inl c2)] at ih2; exact ih2)
        | (rw [g3, if_pos (Or.inr c3)] at ih2; exact ih2)
        | (rw [g3, if_neg (fun k => k.elim c2 c3)] at ih2; exact ih2)
      · refine r_iload_n 117 hX dX7_turn_116 rfl ?_
        refine r_iload 119 hX dX7_turn_117 rfl ?_
        refine r_iload 121 hX dX7_turn_119 rfl ?_
        refine r_cS3F 124 hX hR tX7_isBetter dX7_turn_121 kX7_isBetter lX7_274 rfl rfl rfl ?_
        refine r_Beq 127 134 hX dX7_turn_124 (fun c3 => ?_) (fun c3 => ?_)
        · refine r_iinc 137 hX dX7_turn_134 rfl (v := 1) (by decide) rfl ?_
          refine r_goto 44 hX dX7_turn_137 ?_
          rw [nI_1]
          have ih2 := ih M9 (.int (tuW M 1 0 tg cap i)) hF9
          first
          | (rw [g3, if_pos (Or.inl c2)] at ih2; exact ih2)
          | (rw [g3, if_pos (Or.inr c3)] at ih2; exact ih2)
          | (rw [g3, if_neg (fun k => k.elim c2 c3)] at ih2; exact ih2)
        · refine r_iload 129 hX dX7_turn_127 rfl ?_
          refine r_istore_n 130 hX dX7_turn_129 rfl ?_
          refine r_iload 132 hX dX7_turn_130 rfl ?_
          refine r_istore 134 hX dX7_turn_132 rfl ?_
          refine (show mx_WW G X 134 [_, _, _, _, _, _, _] _ _ from ?_)
          refine r_iinc 137 hX dX7_turn_134 rfl (v := 1) (by decide) rfl ?_
          refine r_goto 44 hX dX7_turn_137 ?_
          rw [nI_1]
          have ih2 := ih M9 (.int (tuW M 1 0 tg cap i)) hF9
          first
          | (rw [g3, if_pos (Or.inl c2)] at ih2; exact ih2)
          | (rw [g3, if_pos (Or.inr c3)] at ih2; exact ih2)
          | (rw [g3, if_neg (fun k => k.elim c2 c3)] at ih2; exact ih2)
    · intro N w6 hF
      show mx_WW G X 44 [.ref 0, .int 1, .int 0, .int (A 6).1, .int (A 6).2, .int 6, w6] [] N
      refine r_iload 46 hX dX7_turn_44 rfl ?_
      refine r_bipush 48 hX dX7_turn_46 (v := 6) (by decide) ?_
      refine r_icmp_ge 51 140 hX dX7_turn_48 (fun _ => ?_) (fun c => absurd c (by decide))
      refine r_aload_n 141 hX dX7_turn_140 rfl ?_
      refine r_iload 143 hX dX7_turn_141 rfl ?_
      refine r_cV1U 146 hX hR tX7_tellRow dX7_turn_143 kX7_tellRow lX7_278 rfl rfl rfl rfl rfl rfl ?_
      refine r_iload_n 147 hX dX7_turn_146 rfl ?_
      refine r_iret hX hT dX7_turn_147 ?_
      refine ⟨by rw [hA], ?_⟩
      rw [hA]
      exact frC_mI (frC_mI hF 13 1) 14 _
  refine r_iload_n 1 hX dX7_turn_0 rfl ?_
  refine r_cS1F 4 hX hR tX7_isTeam_1 dX7_turn_1 kX7_isTeam lX7_83 rfl rfl rfl ?_
  refine r_if_eq 7 34 hX dX7_turn_4 (fun c => absurd c (by decide)) (fun _ => ?_)
  refine r_iload_n 8 hX dX7_turn_7 rfl ?_
  refine r_cS1F 11 hX hR tX7_isTeam_0 dX7_turn_8 kX7_isTeam lX7_83 rfl rfl rfl ?_
  refine r_if_eq 14 34 hX dX7_turn_11 (fun c => absurd c (by decide)) (fun _ => ?_)
  refine r_aload_n 15 hX dX7_turn_14 rfl ?_
  refine r_getR 18 hX dX7_turn_15 fX7_19 rfl rfl rfl ?_
  refine r_getI 21 hX dX7_turn_18 fX7_147 rfl rfl rfl ?_
  refine r_if_eq 24 34 hX dX7_turn_21 (fun c1 => absurd c1 ho0) (fun c1 => ?_)
  refine r_aload_n 25 hX dX7_turn_24 rfl ?_
  refine r_getR 28 hX dX7_turn_25 fX7_23 rfl rfl rfl ?_
  refine r_getI 31 hX dX7_turn_28 fX7_147 rfl rfl rfl ?_
  refine r_if_ne 34 36 hX dX7_turn_31 (fun c2 => ?_) (fun c2 => absurd c2 ho1)
  refine r_iconst 37 hX dX7_turn_36 (v := -1) (by decide) ?_
  refine r_istore_n 38 hX dX7_turn_37 rfl ?_
  refine r_iconst 39 hX dX7_turn_38 (v := 0) (by decide) ?_
  refine r_istore 41 hX dX7_turn_39 rfl ?_
  refine r_iconst 42 hX dX7_turn_41 (v := 0) (by decide) ?_
  refine r_istore 44 hX dX7_turn_42 rfl ?_
  skip
  have key := loop M .null ⟨fun _ _ => rfl, rfl⟩
  rw [hA0] at key
  exact key
set_option maxRecDepth 100000 in
set_option maxHeartbeats 4000000 in
theorem tX7_turn_0_1 {l : Launch} {G : mx_G} {tg cap : Nat} {M : mx_Mem} (ho0 : ¬ M.1 3 3 = 0) (ho1 : ¬ M.1 6 3 = 0) (h1 : tgt (M.1 2) (M.1 9 8) (M.1 14 8) = nI tg) (h2 : M.1 2 1 = nI cap) (ht : tg ≤ 100) (hcap : cap ≤ 30) : mx_Met l G yX7_turn cX7_turn 7 ((some FieldType.int)) 5 134 [.ref 0, .int 0, .int 1] M ((fun r N => r = some (.int (tuF 0 (tuW M 0 1 tg cap) 6).1) ∧ frC (mI (mI M 0 13 1) 0 14 (tuF 0 (tuW M 0 1 tg cap) 6).2) N)) := by
  refine mx_enter (own := RX7) (L := [.ref 0, .int 0, .int 1, .null, .null, .null, .null]) (by decide +kernel) rfl rfl rfl ?_
  intro X hlX hX hR hT
  generalize hA : tuF 0 (tuW M 0 1 tg cap) = A
  have hA0 : A 0 = (-1, 0) := by rw [← hA]; rfl
  have hAs : ∀ i, A (i + 1) = if (A i).1 = -1 ∨ bt 0 (tuW M 0 1 tg cap i) (A i).2 then (nI i, tuW M 0 1 tg cap i) else A i := fun i => by rw [← hA]; rfl
  have loop : ∀ N w6, frC M N → mx_WW G X 44 [.ref 0, .int 0, .int 1, .int (A 0).1, .int (A 0).2, .int (nI 0), w6] [] N := by
    refine mx_back (P := fun i => ∀ N w6, frC M N → mx_WW G X 44 [.ref 0, .int 0, .int 1, .int (A i).1, .int (A i).2, .int (nI i), w6] [] N) 6 (fun i hi ih => ?_) ?_
    · intro N w6 hF
      have g1 : ¬ 6 ≤ nI i := nI_ge (b := 6) hi (by decide)
      have g3 := hAs i
      have fT := frC_tkT N i 0
      have fT2 := frC_tr hF fT
      have e1 : tgt ((tkT N i 0).1 2) ((tkT N i 0).1 9 8) ((tkT N i 0).1 14 8) = nI tg := by rw [fT2.1 2 (by decide), fT2.1 9 (by decide), fT2.1 14 (by decide)]; exact h1
      have e2 : (tkT N i 0).1 2 1 = nI cap := by rw [fT2.1 2 (by decide)]; exact h2
      refine r_iload 46 hX dX7_turn_44 rfl ?_
      refine r_bipush 48 hX dX7_turn_46 (v := 6) (by decide) ?_
      refine r_icmp_ge 51 140 hX dX7_turn_48 (fun c1 => absurd c1 g1) (fun c1 => ?_)
      refine r_aload_n 52 hX dX7_turn_51 rfl ?_
      refine r_getR 55 hX dX7_turn_52 fX7_72 rfl rfl rfl ?_
      refine r_iconst 56 hX dX7_turn_55 (v := 0) (by decide) ?_
      refine r_aload_n 57 hX dX7_turn_56 rfl ?_
      refine r_getR 60 hX dX7_turn_57 fX7_19 rfl rfl rfl ?_
      refine r_getR 63 hX dX7_turn_60 fX7_264 rfl rfl rfl ?_
      refine r_iload_n 64 hX dX7_turn_63 rfl ?_
      refine r_if_ne 67 72 hX dX7_turn_64 (fun c => absurd c (by decide)) (fun _ => ?_)
      refine r_iload 69 hX dX7_turn_67 rfl ?_
      refine r_goto 73 hX dX7_turn_69 ?_
      refine r_cV3U 76 hX hR (tX0_take_5 (r := i) (by omega)) dX7_turn_73 kX0_take lX7_267 rfl rfl rfl rfl rfl rfl ?_
      refine r_aload_n 77 hX dX7_turn_76 rfl ?_
      refine r_getR 80 hX dX7_turn_77 fX7_72 rfl rfl rfl ?_
      refine r_iconst 81 hX dX7_turn_80 (v := 1) (by decide) ?_
      refine r_aload_n 82 hX dX7_turn_81 rfl ?_
      refine r_getR 85 hX dX7_turn_82 fX7_23 rfl rfl rfl ?_
      refine r_getR 88 hX dX7_turn_85 fX7_264 rfl rfl rfl ?_
      refine r_iload_n 89 hX dX7_turn_88 rfl ?_
      refine r_iconst 90 hX dX7_turn_89 (v := 1) (by decide) ?_
      refine r_icmp_ne 93 98 hX dX7_turn_90 (fun _ => ?_) (fun c => absurd c (by decide))
      refine r_iconst 99 hX dX7_turn_98 (v := 0) (by decide) ?_
      refine r_cV3U 102 hX hR (tX0_take_8 (r := 0) (by omega)) dX7_turn_99 kX0_take lX7_267 rfl rfl rfl rfl rfl rfl ?_
      show mx_WW G X 102 _ _ (tkT N i 0)
      refine r_aload_n 103 hX dX7_turn_102 rfl ?_
      refine r_iload_n 104 hX dX7_turn_103 rfl ?_
      refine r_iconst 105 hX dX7_turn_104 (v := 0) (by decide) ?_
      refine r_iconst 106 hX dX7_turn_105 (v := 0) (by decide) ?_
      refine r_cV3G 109 hX hR (tX7_chanceFrom_1 (p0 := 0) (p1 := 0) e1 e2 ht hcap (by omega) (by omega)) dX7_turn_106 kX7_chanceFrom lX7_271 rfl rfl rfl rfl rfl rfl (fun r9 M9 hp9 => ?_)
      obtain ⟨rfl, hI9⟩ := hp9
      show mx_WW G X 109 _ (.int _ :: []) M9
      have hF9 : frC M M9 := frC_tr fT2 (frC_tr (frC_fp _ _) (frC_sc hI9))
      have g5 : nI (VV tg cap (phN (tkT N i 0) 1) 1 0 0 0) = tuW M 0 1 tg cap i := congrArg nI (chV_tkT hF i 0 1 0 0 tg cap)
      rw [g5]
      refine r_istore 111 hX dX7_turn_109 rfl ?_
      refine r_iload_n 112 hX dX7_turn_111 rfl ?_
      refine r_iconst 113 hX dX7_turn_112 (v := -1) (by decide) ?_
      refine r_icmp_eq 116 127 hX dX7_turn_113 (fun c2 => ?_) (fun c2 => ?_)
      · refine r_iload 129 hX dX7_turn_127 rfl ?_
        refine r_istore_n 130 hX dX7_turn_129 rfl ?_
        refine r_iload 132 hX dX7_turn_130 rfl ?_
        refine r_istore 134 hX dX7_turn_132 rfl ?_
        refine (show mx_WW G X 134 [_, _, _, _, _, _, _] _ _ from ?_)
        refine r_iinc 137 hX dX7_turn_134 rfl (v := 1) (by decide) rfl ?_
        refine r_goto 44 hX dX7_turn_137 ?_
        rw [nI_1]
        have ih2 := ih M9 (.int (tuW M 0 1 tg cap i)) hF9
        first
        | (rw [g3, if_pos (Or.inl c2)] at ih2; exact ih2)
        | (rw [g3, if_pos (Or.inr c3)] at ih2; exact ih2)
        | (rw [g3, if_neg (fun k => k.elim c2 c3)] at ih2; exact ih2)
      · refine r_iload_n 117 hX dX7_turn_116 rfl ?_
        refine r_iload 119 hX dX7_turn_117 rfl ?_
        refine r_iload 121 hX dX7_turn_119 rfl ?_
        refine r_cS3F 124 hX hR tX7_isBetter dX7_turn_121 kX7_isBetter lX7_274 rfl rfl rfl ?_
        refine r_Beq 127 134 hX dX7_turn_124 (fun c3 => ?_) (fun c3 => ?_)
        · refine r_iinc 137 hX dX7_turn_134 rfl (v := 1) (by decide) rfl ?_
          refine r_goto 44 hX dX7_turn_137 ?_
          rw [nI_1]
          have ih2 := ih M9 (.int (tuW M 0 1 tg cap i)) hF9
          first
          | (rw [g3, if_pos (Or.inl c2)] at ih2; exact ih2)
          | (rw [g3, if_pos (Or.inr c3)] at ih2; exact ih2)
          | (rw [g3, if_neg (fun k => k.elim c2 c3)] at ih2; exact ih2)
        · refine r_iload 129 hX dX7_turn_127 rfl ?_
          refine r_istore_n 130 hX dX7_turn_129 rfl ?_
          refine r_iload 132 hX dX7_turn_130 rfl ?_
          refine r_istore 134 hX dX7_turn_132 rfl ?_
          refine (show mx_WW G X 134 [_, _, _, _, _, _, _] _ _ from ?_)
          refine r_iinc 137 hX dX7_turn_134 rfl (v := 1) (by decide) rfl ?_
          refine r_goto 44 hX dX7_turn_137 ?_
          rw [nI_1]
          have ih2 := ih M9 (.int (tuW M 0 1 tg cap i)) hF9
          first
          | (rw [g3, if_pos (Or.inl c2)] at ih2; exact ih2)
          | (rw [g3, if_pos (Or.inr c3)] at ih2; exact ih2)
          | (rw [g3, if_neg (fun k => k.elim c2 c3)] at ih2; exact ih2)
    · intro N w6 hF
      show mx_WW G X 44 [.ref 0, .int 0, .int 1, .int (A 6).1, .int (A 6).2, .int 6, w6] [] N
      refine r_iload 46 hX dX7_turn_44 rfl ?_
      refine r_bipush 48 hX dX7_turn_46 (v := 6) (by decide) ?_
      refine r_icmp_ge 51 140 hX dX7_turn_48 (fun _ => ?_) (fun c => absurd c (by decide))
      refine r_aload_n 141 hX dX7_turn_140 rfl ?_
      refine r_iload 143 hX dX7_turn_141 rfl ?_
      refine r_cV1U 146 hX hR tX7_tellRow dX7_turn_143 kX7_tellRow lX7_278 rfl rfl rfl rfl rfl rfl ?_
      refine r_iload_n 147 hX dX7_turn_146 rfl ?_
      refine r_iret hX hT dX7_turn_147 ?_
      refine ⟨by rw [hA], ?_⟩
      rw [hA]
      exact frC_mI (frC_mI hF 13 1) 14 _
  refine r_iload_n 1 hX dX7_turn_0 rfl ?_
  refine r_cS1F 4 hX hR tX7_isTeam_0 dX7_turn_1 kX7_isTeam lX7_83 rfl rfl rfl ?_
  refine r_if_eq 7 34 hX dX7_turn_4 (fun c => absurd c (by decide)) (fun _ => ?_)
  refine r_iload_n 8 hX dX7_turn_7 rfl ?_
  refine r_cS1F 11 hX hR tX7_isTeam_1 dX7_turn_8 kX7_isTeam lX7_83 rfl rfl rfl ?_
  refine r_if_eq 14 34 hX dX7_turn_11 (fun c => absurd c (by decide)) (fun _ => ?_)
  refine r_aload_n 15 hX dX7_turn_14 rfl ?_
  refine r_getR 18 hX dX7_turn_15 fX7_19 rfl rfl rfl ?_
  refine r_getI 21 hX dX7_turn_18 fX7_147 rfl rfl rfl ?_
  refine r_if_eq 24 34 hX dX7_turn_21 (fun c1 => absurd c1 ho0) (fun c1 => ?_)
  refine r_aload_n 25 hX dX7_turn_24 rfl ?_
  refine r_getR 28 hX dX7_turn_25 fX7_23 rfl rfl rfl ?_
  refine r_getI 31 hX dX7_turn_28 fX7_147 rfl rfl rfl ?_
  refine r_if_ne 34 36 hX dX7_turn_31 (fun c2 => ?_) (fun c2 => absurd c2 ho1)
  refine r_iconst 37 hX dX7_turn_36 (v := -1) (by decide) ?_
  refine r_istore_n 38 hX dX7_turn_37 rfl ?_
  refine r_iconst 39 hX dX7_turn_38 (v := 0) (by decide) ?_
  refine r_istore 41 hX dX7_turn_39 rfl ?_
  refine r_iconst 42 hX dX7_turn_41 (v := 0) (by decide) ?_
  refine r_istore 44 hX dX7_turn_42 rfl ?_
  skip
  have key := loop M .null ⟨fun _ _ => rfl, rfl⟩
  rw [hA0] at key
  exact key
set_option maxRecDepth 100000 in
set_option maxHeartbeats 4000000 in
theorem tX7_turn_1_1 {l : Launch} {G : mx_G} {tg cap : Nat} {M : mx_Mem} (ho0 : ¬ M.1 3 3 = 0) (ho1 : ¬ M.1 6 3 = 0) (h1 : tgt (M.1 2) (M.1 9 8) (M.1 14 8) = nI tg) (h2 : M.1 2 1 = nI cap) (ht : tg ≤ 100) (hcap : cap ≤ 30) : mx_Met l G yX7_turn cX7_turn 7 ((some FieldType.int)) 5 134 [.ref 0, .int 1, .int 1] M ((fun r N => r = some (.int (tuF 1 (tuW M 1 1 tg cap) 6).1) ∧ frC (mI (mI M 0 13 1) 0 14 (tuF 1 (tuW M 1 1 tg cap) 6).2) N)) := by
  refine mx_enter (own := RX7) (L := [.ref 0, .int 1, .int 1, .null, .null, .null, .null]) (by decide +kernel) rfl rfl rfl ?_
  intro X hlX hX hR hT
  generalize hA : tuF 1 (tuW M 1 1 tg cap) = A
  have hA0 : A 0 = (-1, 0) := by rw [← hA]; rfl
  have hAs : ∀ i, A (i + 1) = if (A i).1 = -1 ∨ bt 1 (tuW M 1 1 tg cap i) (A i).2 then (nI i, tuW M 1 1 tg cap i) else A i := fun i => by rw [← hA]; rfl
  have loop : ∀ N w6, frC M N → mx_WW G X 44 [.ref 0, .int 1, .int 1, .int (A 0).1, .int (A 0).2, .int (nI 0), w6] [] N := by
    refine mx_back (P := fun i => ∀ N w6, frC M N → mx_WW G X 44 [.ref 0, .int 1, .int 1, .int (A i).1, .int (A i).2, .int (nI i), w6] [] N) 6 (fun i hi ih => ?_) ?_
    · intro N w6 hF
      have g1 : ¬ 6 ≤ nI i := nI_ge (b := 6) hi (by decide)
      have g3 := hAs i
      have fT := frC_tkT N 0 i
      have fT2 := frC_tr hF fT
      have e1 : tgt ((tkT N 0 i).1 2) ((tkT N 0 i).1 9 8) ((tkT N 0 i).1 14 8) = nI tg := by rw [fT2.1 2 (by decide), fT2.1 9 (by decide), fT2.1 14 (by decide)]; exact h1
      have e2 : (tkT N 0 i).1 2 1 = nI cap := by rw [fT2.1 2 (by decide)]; exact h2
      refine r_iload 46 hX dX7_turn_44 rfl ?_
      refine r_bipush 48 hX dX7_turn_46 (v := 6) (by decide) ?_
      refine r_icmp_ge 51 140 hX dX7_turn_48 (fun c1 => absurd c1 g1) (fun c1 => ?_)
      refine r_aload_n 52 hX dX7_turn_51 rfl ?_
      refine r_getR 55 hX dX7_turn_52 fX7_72 rfl rfl rfl ?_
      refine r_iconst 56 hX dX7_turn_55 (v := 0) (by decide) ?_
      refine r_aload_n 57 hX dX7_turn_56 rfl ?_
      refine r_getR 60 hX dX7_turn_57 fX7_19 rfl rfl rfl ?_
      refine r_getR 63 hX dX7_turn_60 fX7_264 rfl rfl rfl ?_
      refine r_iload_n 64 hX dX7_turn_63 rfl ?_
      refine r_if_ne 67 72 hX dX7_turn_64 (fun _ => ?_) (fun c => absurd c (by decide))
      refine r_iconst 73 hX dX7_turn_72 (v := 0) (by decide) ?_
      refine r_cV3U 76 hX hR (tX0_take_5 (r := 0) (by omega)) dX7_turn_73 kX0_take lX7_267 rfl rfl rfl rfl rfl rfl ?_
      refine r_aload_n 77 hX dX7_turn_76 rfl ?_
      refine r_getR 80 hX dX7_turn_77 fX7_72 rfl rfl rfl ?_
      refine r_iconst 81 hX dX7_turn_80 (v := 1) (by decide) ?_
      refine r_aload_n 82 hX dX7_turn_81 rfl ?_
      refine r_getR 85 hX dX7_turn_82 fX7_23 rfl rfl rfl ?_
      refine r_getR 88 hX dX7_turn_85 fX7_264 rfl rfl rfl ?_
      refine r_iload_n 89 hX dX7_turn_88 rfl ?_
      refine r_iconst 90 hX dX7_turn_89 (v := 1) (by decide) ?_
      refine r_icmp_ne 93 98 hX dX7_turn_90 (fun c => absurd c (by decide)) (fun _ => ?_)
      refine r_iload 95 hX dX7_turn_93 rfl ?_
      refine r_goto 99 hX dX7_turn_95 ?_
      refine r_cV3U 102 hX hR (tX0_take_8 (r := i) (by omega)) dX7_turn_99 kX0_take lX7_267 rfl rfl rfl rfl rfl rfl ?_
      show mx_WW G X 102 _ _ (tkT N 0 i)
      refine r_aload_n 103 hX dX7_turn_102 rfl ?_
      refine r_iload_n 104 hX dX7_turn_103 rfl ?_
      refine r_iconst 105 hX dX7_turn_104 (v := 0) (by decide) ?_
      refine r_iconst 106 hX dX7_turn_105 (v := 0) (by decide) ?_
      refine r_cV3G 109 hX hR (tX7_chanceFrom_1 (p0 := 0) (p1 := 0) e1 e2 ht hcap (by omega) (by omega)) dX7_turn_106 kX7_chanceFrom lX7_271 rfl rfl rfl rfl rfl rfl (fun r9 M9 hp9 => ?_)
      obtain ⟨rfl, hI9⟩ := hp9
      show mx_WW G X 109 _ (.int _ :: []) M9
      have hF9 : frC M M9 := frC_tr fT2 (frC_tr (frC_fp _ _) (frC_sc hI9))
      have g5 : nI (VV tg cap (phN (tkT N 0 i) 1) 1 0 0 0) = tuW M 1 1 tg cap i := congrArg nI (chV_tkT hF 0 i 1 0 0 tg cap)
      rw [g5]
      refine r_istore 111 hX dX7_turn_109 rfl ?_
      refine r_iload_n 112 hX dX7_turn_111 rfl ?_
      refine r_iconst 113 hX dX7_turn_112 (v := -1) (by decide) ?_
      refine r_icmp_eq 116 127 hX dX7_turn_113 (fun c2 => ?_) (fun c2 => ?_)
      · refine r_iload 129 hX dX7_turn_127 rfl ?_
        refine r_istore_n 130 hX dX7_turn_129 rfl ?_
        refine r_iload 132 hX dX7_turn_130 rfl ?_
        refine r_istore 134 hX dX7_turn_132 rfl ?_
        refine (show mx_WW G X 134 [_, _, _, _, _, _, _] _ _ from ?_)
        refine r_iinc 137 hX dX7_turn_134 rfl (v := 1) (by decide) rfl ?_
        refine r_goto 44 hX dX7_turn_137 ?_
        rw [nI_1]
        have ih2 := ih M9 (.int (tuW M 1 1 tg cap i)) hF9
        first
        | (rw [g3, if_pos (Or.inl c2)] at ih2; exact ih2)
        | (rw [g3, if_pos (Or.inr c3)] at ih2; exact ih2)
        | (rw [g3, if_neg (fun k => k.elim c2 c3)] at ih2; exact ih2)
      · refine r_iload_n 117 hX dX7_turn_116 rfl ?_
        refine r_iload 119 hX dX7_turn_117 rfl ?_
        refine r_iload 121 hX dX7_turn_119 rfl ?_
        refine r_cS3F 124 hX hR tX7_isBetter dX7_turn_121 kX7_isBetter lX7_274 rfl rfl rfl ?_
        refine r_Beq 127 134 hX dX7_turn_124 (fun c3 => ?_) (fun c3 => ?_)
        · refine r_iinc 137 hX dX7_turn_134 rfl (v := 1) (by decide) rfl ?_
          refine r_goto 44 hX dX7_turn_137 ?_
          rw [nI_1]
          have ih2 := ih M9 (.int (tuW M 1 1 tg cap i)) hF9
          first
          | (rw [g3, if_pos (Or.inl c2)] at ih2; exact ih2)
          | (rw [g3, if_pos (Or.inr c3)] at ih2; exact ih2)
          | (rw [g3, if_neg (fun k => k.elim c2 c3)] at ih2; exact ih2)
        · refine r_iload 129 hX dX7_turn_127 rfl ?_
          refine r_istore_n 130 hX dX7_turn_129 rfl ?_
          refine r_iload 132 hX dX7_turn_130 rfl ?_
          refine r_istore 134 hX dX7_turn_132 rfl ?_
          refine (show mx_WW G X 134 [_, _, _, _, _, _, _] _ _ from ?_)
          refine r_iinc 137 hX dX7_turn_134 rfl (v := 1) (by decide) rfl ?_
          refine r_goto 44 hX dX7_turn_137 ?_
          rw [nI_1]
          have ih2 := ih M9 (.int (tuW M 1 1 tg cap i)) hF9
          first
          | (rw [g3, if_pos (Or.inl c2)] at ih2; exact ih2)
          | (rw [g3, if_pos (Or.inr c3)] at ih2; exact ih2)
          | (rw [g3, if_neg (fun k => k.elim c2 c3)] at ih2; exact ih2)
    · intro N w6 hF
      show mx_WW G X 44 [.ref 0, .int 1, .int 1, .int (A 6).1, .int (A 6).2, .int 6, w6] [] N
      refine r_iload 46 hX dX7_turn_44 rfl ?_
      refine r_bipush 48 hX dX7_turn_46 (v := 6) (by decide) ?_
      refine r_icmp_ge 51 140 hX dX7_turn_48 (fun _ => ?_) (fun c => absurd c (by decide))
      refine r_aload_n 141 hX dX7_turn_140 rfl ?_
      refine r_iload 143 hX dX7_turn_141 rfl ?_
      refine r_cV1U 146 hX hR tX7_tellRow dX7_turn_143 kX7_tellRow lX7_278 rfl rfl rfl rfl rfl rfl ?_
      refine r_iload_n 147 hX dX7_turn_146 rfl ?_
      refine r_iret hX hT dX7_turn_147 ?_
      refine ⟨by rw [hA], ?_⟩
      rw [hA]
      exact frC_mI (frC_mI hF 13 1) 14 _
  refine r_iload_n 1 hX dX7_turn_0 rfl ?_
  refine r_cS1F 4 hX hR tX7_isTeam_1 dX7_turn_1 kX7_isTeam lX7_83 rfl rfl rfl ?_
  refine r_if_eq 7 34 hX dX7_turn_4 (fun c => absurd c (by decide)) (fun _ => ?_)
  refine r_iload_n 8 hX dX7_turn_7 rfl ?_
  refine r_cS1F 11 hX hR tX7_isTeam_1 dX7_turn_8 kX7_isTeam lX7_83 rfl rfl rfl ?_
  refine r_if_eq 14 34 hX dX7_turn_11 (fun c => absurd c (by decide)) (fun _ => ?_)
  refine r_aload_n 15 hX dX7_turn_14 rfl ?_
  refine r_getR 18 hX dX7_turn_15 fX7_19 rfl rfl rfl ?_
  refine r_getI 21 hX dX7_turn_18 fX7_147 rfl rfl rfl ?_
  refine r_if_eq 24 34 hX dX7_turn_21 (fun c1 => absurd c1 ho0) (fun c1 => ?_)
  refine r_aload_n 25 hX dX7_turn_24 rfl ?_
  refine r_getR 28 hX dX7_turn_25 fX7_23 rfl rfl rfl ?_
  refine r_getI 31 hX dX7_turn_28 fX7_147 rfl rfl rfl ?_
  refine r_if_ne 34 36 hX dX7_turn_31 (fun c2 => ?_) (fun c2 => absurd c2 ho1)
  refine r_iconst 37 hX dX7_turn_36 (v := -1) (by decide) ?_
  refine r_istore_n 38 hX dX7_turn_37 rfl ?_
  refine r_iconst 39 hX dX7_turn_38 (v := 0) (by decide) ?_
  refine r_istore 41 hX dX7_turn_39 rfl ?_
  refine r_iconst 42 hX dX7_turn_41 (v := 0) (by decide) ?_
  refine r_istore 44 hX dX7_turn_42 rfl ?_
  skip
  have key := loop M .null ⟨fun _ _ => rfl, rfl⟩
  rw [hA0] at key
  exact key

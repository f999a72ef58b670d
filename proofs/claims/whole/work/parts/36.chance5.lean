/-! chances of the class: from the courts -/
theorem clp_n (x : Int32) : clp x = nI (clp x).toNatClampNeg ∧ (clp x).toNatClampNeg ≤ 950 := by
  have h : (50 : Int32) ≤ clp x ∧ clp x ≤ 950 := by
    unfold clp
    have e1 : (50 : Int32).toInt = 50 := rfl
    have e2 : (950 : Int32).toInt = 950 := rfl
    constructor <;> (repeat' split) <;> simp only [Int32.le_iff_toInt_le] at * <;> omega
  have e1 : (50 : Int32).toInt = 50 := rfl
  have e2 : (950 : Int32).toInt = 950 := rfl
  rw [Int32.le_iff_toInt_le, Int32.le_iff_toInt_le] at h
  have h3 : ((clp x).toNatClampNeg : Int) = (clp x).toInt := by
    show (((clp x).toInt.toNat : Nat) : Int) = _
    omega
  refine ⟨?_, by omega⟩
  apply Int32.toInt_inj.1
  rw [nI_toInt (by omega), h3]
def phN (M : mx_Mem) (t n : Nat) : Nat := (phV M t n).toNatClampNeg
theorem phN_e (M : mx_Mem) (t n : Nat) : phV M t n = nI (phN M t n) ∧ phN M t n ≤ 1000 := by
  unfold phN phV
  dsimp only
  split <;> exact ⟨(clp_n _).1, Nat.le_trans (clp_n _).2 (by decide)⟩
theorem fpM_ne (M : mx_Mem) (t : Nat) {k : Nat} (h1 : k ≠ 39) (h2 : k ≠ 42) : ∀ n, (fpM M t n).1 k = M.1 k
  | 0 => by funext j; rw [fpM, mI_ne _ _ _ _ h1]
  | n + 1 => by funext j; rw [fpM, mI_ne _ _ _ _ h2, fpM_ne M t h1 h2 n]
theorem fpM_39 (M : mx_Mem) (t : Nat) : ∀ n, (fpM M t n).1 39 4 = nI t
  | 0 => by simp [fpM, mI, mR, upd]
  | n + 1 => by rw [fpM, mI_ne _ _ _ _ (by decide), fpM_39 M t n]
theorem fpM_42 (M : mx_Mem) (t : Nat) {j : Nat} : ∀ n, j < n → (fpM M t n).1 42 j = phV M t j
  | 0, h => by omega
  | n + 1, h => by
    rw [fpM]
    by_cases e : j = n
    · subst e
      simp [mI, mR, upd]
    · have h3 := fpM_42 M t (j := j) n (by omega)
      simp [mI, mR, upd, e, h3]
theorem fpM_2 (M : mx_Mem) (t : Nat) : ∀ n, (fpM M t n).2 = M.2
  | 0 => by simp [fpM, mI, mR]
  | n + 1 => by
    have := fpM_2 M t n
    rw [fpM]
    simpa [mI, mR] using this
def SO (M : mx_Mem) (s p0 p1 tg cap : Nat) : Prop := (M.1 19 2 = nI s ∧ M.1 9 7 = nI p0 ∧ M.1 14 7 = nI p1) ∧ (tgt (M.1 2) (M.1 9 8) (M.1 14 8) = nI tg ∧ M.1 2 1 = nI cap) ∧ tg ≤ 100 ∧ cap ≤ 30 ∧ p0 ≤ cap ∧ p1 ≤ cap
theorem SO_fr {M N : mx_Mem} {s p0 p1 tg cap : Nat} (h : ∀ k, k < 39 → N.1 k = M.1 k) (hS : SO M s p0 p1 tg cap) : SO N s p0 p1 tg cap := by
  unfold SO
  rw [h 19 (by decide), h 9 (by decide), h 14 (by decide), h 2 (by decide)]
  exact hS
set_option maxRecDepth 100000 in
set_option maxHeartbeats 4000000 in
theorem tX7_chanceFrom_0 {l : Launch} {G : mx_G} {p0 p1 tg cap : Nat} {M : mx_Mem} (h1 : tgt (M.1 2) (M.1 9 8) (M.1 14 8) = nI tg) (h2 : M.1 2 1 = nI cap) (ht : tg ≤ 100) (hcap : cap ≤ 30) (hp0 : p0 ≤ cap) (hp1 : p1 ≤ cap) : mx_Met l G yX7_chanceFrom cX7_chanceFrom 5 ((some FieldType.int)) 4 110 [.ref 0, .int 0, .int (nI p0), .int (nI p1)] M ((scP (fpM M 0 12) tg cap (phN M 0) 0 p0 p1)) := by
  refine mx_enter (own := RX7) (L := [.ref 0, .int 0, .int (nI p0), .int (nI p1), .null]) (by decide +kernel) rfl rfl rfl ?_
  intro X hlX hX hR hT
  have g1 : tgt ((fpM M 0 12).1 2) ((fpM M 0 12).1 9 8) ((fpM M 0 12).1 14 8) = nI tg := by rw [fpM_ne M 0 (by decide) (by decide), fpM_ne M 0 (by decide) (by decide), fpM_ne M 0 (by decide) (by decide)]; exact h1
  have g2 : (fpM M 0 12).1 2 1 = nI cap := by rw [fpM_ne M 0 (by decide) (by decide)]; exact h2
  refine r_aload_n 1 hX dX7_chanceFrom_0 rfl ?_
  refine r_getR 4 hX dX7_chanceFrom_1 fX7_72 rfl rfl rfl ?_
  refine r_aload_n 5 hX dX7_chanceFrom_4 rfl ?_
  refine r_getR 8 hX dX7_chanceFrom_5 fX7_19 rfl rfl rfl ?_
  refine r_aload_n 9 hX dX7_chanceFrom_8 rfl ?_
  refine r_getR 12 hX dX7_chanceFrom_9 fX7_23 rfl rfl rfl ?_
  refine r_iload_n 13 hX dX7_chanceFrom_12 rfl ?_
  refine r_cV3U 16 hX hR tX0_fillPhases_0 dX7_chanceFrom_13 kX0_fillPhases lX7_350 rfl rfl rfl rfl rfl rfl ?_
  refine r_aload_n 17 hX dX7_chanceFrom_16 rfl ?_
  refine r_getR 20 hX dX7_chanceFrom_17 fX7_10 rfl rfl rfl ?_
  refine r_aload_n 21 hX dX7_chanceFrom_20 rfl ?_
  refine r_getR 24 hX dX7_chanceFrom_21 fX7_29 rfl rfl rfl ?_
  refine r_getI 27 hX dX7_chanceFrom_24 fX7_208 rfl rfl rfl ?_
  refine r_aload_n 28 hX dX7_chanceFrom_27 rfl ?_
  refine r_getR 31 hX dX7_chanceFrom_28 fX7_33 rfl rfl rfl ?_
  refine r_getI 34 hX dX7_chanceFrom_31 fX7_208 rfl rfl rfl ?_
  refine r_cV2F 37 hX hR tX3_target dX7_chanceFrom_34 kX3_target lX7_296 rfl rfl rfl rfl rfl rfl ?_
  rw [g1]
  refine r_istore 39 hX dX7_chanceFrom_37 rfl ?_
  refine r_aload_n 40 hX dX7_chanceFrom_39 rfl ?_
  refine r_getR 43 hX dX7_chanceFrom_40 fX7_72 rfl rfl rfl ?_
  refine r_iload_n 44 hX dX7_chanceFrom_43 rfl ?_
  refine r_iload_n 45 hX dX7_chanceFrom_44 rfl ?_
  refine r_iload 47 hX dX7_chanceFrom_45 rfl ?_
  refine r_aload_n 48 hX dX7_chanceFrom_47 rfl ?_
  refine r_getR 51 hX dX7_chanceFrom_48 fX7_10 rfl rfl rfl ?_
  refine r_iconst 52 hX dX7_chanceFrom_51 (v := 1) (by decide) ?_
  refine r_cV1F 55 hX hR tX3_valueOf_1 dX7_chanceFrom_52 kX3_valueOf lX7_116 rfl rfl rfl rfl rfl rfl ?_
  rw [g2]
  refine r_cV4G 58 hX hR (tX0_setChance_0 (M := fpM M 0 12) (c := phN M 0) hp0 hp1 ht hcap (fpM_39 M 0 12) (fun n => (phN_e M 0 n).2) (fun n hn => by rw [fpM_42 M 0 12 hn]; exact (phN_e M 0 n).1)) dX7_chanceFrom_55 kX0_setChance lX7_354 rfl rfl rfl rfl rfl rfl (fun r9 M9 hp9 => ?_)
  obtain ⟨rfl, hI9⟩ := hp9
  show mx_WW G X 58 _ (.int _ :: []) M9
  refine r_iret hX hT dX7_chanceFrom_58 ?_
  exact ⟨rfl, hI9⟩
set_option maxRecDepth 100000 in
set_option maxHeartbeats 4000000 in
theorem tX7_chanceFrom_1 {l : Launch} {G : mx_G} {p0 p1 tg cap : Nat} {M : mx_Mem} (h1 : tgt (M.1 2) (M.1 9 8) (M.1 14 8) = nI tg) (h2 : M.1 2 1 = nI cap) (ht : tg ≤ 100) (hcap : cap ≤ 30) (hp0 : p0 ≤ cap) (hp1 : p1 ≤ cap) : mx_Met l G yX7_chanceFrom cX7_chanceFrom 5 ((some FieldType.int)) 4 110 [.ref 0, .int 1, .int (nI p0), .int (nI p1)] M ((scP (fpM M 1 12) tg cap (phN M 1) 1 p0 p1)) := by
  refine mx_enter (own := RX7) (L := [.ref 0, .int 1, .int (nI p0), .int (nI p1), .null]) (by decide +kernel) rfl rfl rfl ?_
  intro X hlX hX hR hT
  have g1 : tgt ((fpM M 1 12).1 2) ((fpM M 1 12).1 9 8) ((fpM M 1 12).1 14 8) = nI tg := by rw [fpM_ne M 1 (by decide) (by decide), fpM_ne M 1 (by decide) (by decide), fpM_ne M 1 (by decide) (by decide)]; exact h1
  have g2 : (fpM M 1 12).1 2 1 = nI cap := by rw [fpM_ne M 1 (by decide) (by decide)]; exact h2
  refine r_aload_n 1 hX dX7_chanceFrom_0 rfl ?_
  refine r_getR 4 hX dX7_chanceFrom_1 fX7_72 rfl rfl rfl ?_
  refine r_aload_n 5 hX dX7_chanceFrom_4 rfl ?_
  refine r_getR 8 hX dX7_chanceFrom_5 fX7_19 rfl rfl rfl ?_
  refine r_aload_n 9 hX dX7_chanceFrom_8 rfl ?_
  refine r_getR 12 hX dX7_chanceFrom_9 fX7_23 rfl rfl rfl ?_
  refine r_iload_n 13 hX dX7_chanceFrom_12 rfl ?_
  refine r_cV3U 16 hX hR tX0_fillPhases_1 dX7_chanceFrom_13 kX0_fillPhases lX7_350 rfl rfl rfl rfl rfl rfl ?_
  refine r_aload_n 17 hX dX7_chanceFrom_16 rfl ?_
  refine r_getR 20 hX dX7_chanceFrom_17 fX7_10 rfl rfl rfl ?_
  refine r_aload_n 21 hX dX7_chanceFrom_20 rfl ?_
  refine r_getR 24 hX dX7_chanceFrom_21 fX7_29 rfl rfl rfl ?_
  refine r_getI 27 hX dX7_chanceFrom_24 fX7_208 rfl rfl rfl ?_
  refine r_aload_n 28 hX dX7_chanceFrom_27 rfl ?_
  refine r_getR 31 hX dX7_chanceFrom_28 fX7_33 rfl rfl rfl ?_
  refine r_getI 34 hX dX7_chanceFrom_31 fX7_208 rfl rfl rfl ?_
  refine r_cV2F 37 hX hR tX3_target dX7_chanceFrom_34 kX3_target lX7_296 rfl rfl rfl rfl rfl rfl ?_
  rw [g1]
  refine r_istore 39 hX dX7_chanceFrom_37 rfl ?_
  refine r_aload_n 40 hX dX7_chanceFrom_39 rfl ?_
  refine r_getR 43 hX dX7_chanceFrom_40 fX7_72 rfl rfl rfl ?_
  refine r_iload_n 44 hX dX7_chanceFrom_43 rfl ?_
  refine r_iload_n 45 hX dX7_chanceFrom_44 rfl ?_
  refine r_iload 47 hX dX7_chanceFrom_45 rfl ?_
  refine r_aload_n 48 hX dX7_chanceFrom_47 rfl ?_
  refine r_getR 51 hX dX7_chanceFrom_48 fX7_10 rfl rfl rfl ?_
  refine r_iconst 52 hX dX7_chanceFrom_51 (v := 1) (by decide) ?_
  refine r_cV1F 55 hX hR tX3_valueOf_1 dX7_chanceFrom_52 kX3_valueOf lX7_116 rfl rfl rfl rfl rfl rfl ?_
  rw [g2]
  refine r_cV4G 58 hX hR (tX0_setChance_1 (M := fpM M 1 12) (c := phN M 1) hp0 hp1 ht hcap (fpM_39 M 1 12) (fun n => (phN_e M 1 n).2) (fun n hn => by rw [fpM_42 M 1 12 hn]; exact (phN_e M 1 n).1)) dX7_chanceFrom_55 kX0_setChance lX7_354 rfl rfl rfl rfl rfl rfl (fun r9 M9 hp9 => ?_)
  obtain ⟨rfl, hI9⟩ := hp9
  show mx_WW G X 58 _ (.int _ :: []) M9
  refine r_iret hX hT dX7_chanceFrom_58 ?_
  exact ⟨rfl, hI9⟩
theorem tkM_ne (M : mx_Mem) (k : Nat) (f : Nat → Int32) (r : Nat) {k' : Nat} (h : k' ≠ k) : (tkM M k f r).1 k' = M.1 k' := by
  funext j
  unfold tkM
  simp only [mI_ne _ _ _ _ h]
theorem tkC_ne (M : mx_Mem) {k : Nat} (h : k ≠ 40) (h' : k ≠ 41) : (tkC M).1 k = M.1 k := by
  rw [tkC, tkM_ne _ _ _ _ h', tkM_ne _ _ _ _ h]
set_option maxRecDepth 100000 in
set_option maxHeartbeats 4000000 in
theorem tX7_chanceNow_0 {l : Launch} {G : mx_G} {p0 p1 tg cap : Nat} {M : mx_Mem} (hS : SO M 0 p0 p1 tg cap) : mx_Met l G yX7_chanceNow cX7_chanceNow 1 ((some FieldType.int)) 5 134 [.ref 0] M ((scP (fpM (tkC M) 0 12) tg cap (phN (tkC M) 0) 0 p0 p1)) := by
  refine mx_enter (own := RX7) (L := [.ref 0]) (by decide +kernel) rfl rfl rfl ?_
  intro X hlX hX hR hT
  obtain ⟨⟨e1, e2, e3⟩, ⟨e4, e5⟩, e6, e7, e8, e9⟩ := SO_fr (fun k hk => tkC_ne M (k := k) (by omega) (by omega)) hS
  refine r_aload_n 1 hX dX7_chanceNow_0 rfl ?_
  refine r_cV0U 4 hX hR tX7_takeCourts dX7_chanceNow_1 kX7_takeCourts lX7_251 rfl rfl rfl rfl rfl rfl ?_
  refine r_aload_n 5 hX dX7_chanceNow_4 rfl ?_
  refine r_aload_n 6 hX dX7_chanceNow_5 rfl ?_
  refine r_getR 9 hX dX7_chanceNow_6 fX7_39 rfl rfl rfl ?_
  refine r_getI 12 hX dX7_chanceNow_9 fX7_199 rfl rfl rfl ?_
  rw [e1]
  refine r_aload_n 13 hX dX7_chanceNow_12 rfl ?_
  refine r_getR 16 hX dX7_chanceNow_13 fX7_29 rfl rfl rfl ?_
  refine r_getI 19 hX dX7_chanceNow_16 fX7_202 rfl rfl rfl ?_
  rw [e2]
  refine r_aload_n 20 hX dX7_chanceNow_19 rfl ?_
  refine r_getR 23 hX dX7_chanceNow_20 fX7_33 rfl rfl rfl ?_
  refine r_getI 26 hX dX7_chanceNow_23 fX7_202 rfl rfl rfl ?_
  rw [e3]
  refine r_cV3G 29 hX hR (tX7_chanceFrom_0 (M := tkC M) e4 e5 e6 e7 e8 e9) dX7_chanceNow_26 kX7_chanceFrom lX7_271 rfl rfl rfl rfl rfl rfl (fun r9 M9 hp9 => ?_)
  obtain ⟨rfl, hI9⟩ := hp9
  show mx_WW G X 29 _ (.int _ :: []) M9
  refine r_iret hX hT dX7_chanceNow_29 ?_
  exact ⟨rfl, hI9⟩
set_option maxRecDepth 100000 in
set_option maxHeartbeats 4000000 in
theorem tX7_chanceNow_1 {l : Launch} {G : mx_G} {p0 p1 tg cap : Nat} {M : mx_Mem} (hS : SO M 1 p0 p1 tg cap) : mx_Met l G yX7_chanceNow cX7_chanceNow 1 ((some FieldType.int)) 5 134 [.ref 0] M ((scP (fpM (tkC M) 1 12) tg cap (phN (tkC M) 1) 1 p0 p1)) := by
  refine mx_enter (own := RX7) (L := [.ref 0]) (by decide +kernel) rfl rfl rfl ?_
  intro X hlX hX hR hT
  obtain ⟨⟨e1, e2, e3⟩, ⟨e4, e5⟩, e6, e7, e8, e9⟩ := SO_fr (fun k hk => tkC_ne M (k := k) (by omega) (by omega)) hS
  refine r_aload_n 1 hX dX7_chanceNow_0 rfl ?_
  refine r_cV0U 4 hX hR tX7_takeCourts dX7_chanceNow_1 kX7_takeCourts lX7_251 rfl rfl rfl rfl rfl rfl ?_
  refine r_aload_n 5 hX dX7_chanceNow_4 rfl ?_
  refine r_aload_n 6 hX dX7_chanceNow_5 rfl ?_
  refine r_getR 9 hX dX7_chanceNow_6 fX7_39 rfl rfl rfl ?_
  refine r_getI 12 hX dX7_chanceNow_9 fX7_199 rfl rfl rfl ?_
  rw [e1]
  refine r_aload_n 13 hX dX7_chanceNow_12 rfl ?_
  refine r_getR 16 hX dX7_chanceNow_13 fX7_29 rfl rfl rfl ?_
  refine r_getI 19 hX dX7_chanceNow_16 fX7_202 rfl rfl rfl ?_
  rw [e2]
  refine r_aload_n 20 hX dX7_chanceNow_19 rfl ?_
  refine r_getR 23 hX dX7_chanceNow_20 fX7_33 rfl rfl rfl ?_
  refine r_getI 26 hX dX7_chanceNow_23 fX7_202 rfl rfl rfl ?_
  rw [e3]
  refine r_cV3G 29 hX hR (tX7_chanceFrom_1 (M := tkC M) e4 e5 e6 e7 e8 e9) dX7_chanceNow_26 kX7_chanceFrom lX7_271 rfl rfl rfl rfl rfl rfl (fun r9 M9 hp9 => ?_)
  obtain ⟨rfl, hI9⟩ := hp9
  show mx_WW G X 29 _ (.int _ :: []) M9
  refine r_iret hX hT dX7_chanceNow_29 ?_
  exact ⟨rfl, hI9⟩

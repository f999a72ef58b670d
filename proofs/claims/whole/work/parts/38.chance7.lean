/-! chances of the class: after a change -/
def rpM (M : mx_Mem) (k : Nat) (a b : Int32) : Nat → mx_Mem
  | 0 => M
  | n + 1 => if (rpM M k a b n).1 k n = a then mI (rpM M k a b n) k n b else rpM M k a b n
theorem rpM_ne (M : mx_Mem) {k : Nat} (a b : Int32) {k' : Nat} (h : k' ≠ k) : ∀ n, (rpM M k a b n).1 k' = M.1 k'
  | 0 => rfl
  | n + 1 => by
    rw [rpM]
    split
    · funext j
      rw [mI_ne _ _ _ _ h, rpM_ne M a b h n]
    · exact rpM_ne M a b h n
theorem rpM_2 (M : mx_Mem) {k : Nat} (a b : Int32) : ∀ n, (rpM M k a b n).2 = M.2
  | 0 => rfl
  | n + 1 => by
    have := rpM_2 M (k := k) a b n
    rw [rpM]
    split
    · simpa [mI, mR] using this
    · exact this
theorem rpM_k (M : mx_Mem) {k : Nat} (a b : Int32) (j : Nat) : ∀ n, (rpM M k a b n).1 k j = if j < n ∧ M.1 k j = a then b else M.1 k j
  | 0 => by simp [rpM]
  | n + 1 => by
    have h := rpM_k M (k := k) a b j n
    have h2 : (rpM M k a b n).1 k n = M.1 k n := by rw [rpM_k M a b n n]; simp
    rw [rpM, h2]
    by_cases e : j = n
    · subst e
      by_cases e2 : M.1 k j = a
      · simp [e2, mI, mR, upd]
      · rw [if_neg e2, h]; simp [e2]
    · have e3 : (j < n + 1) = (j < n) := by apply propext; omega
      by_cases e2 : M.1 k n = a
      · rw [if_pos e2]
        simp only [e3]
        rw [← h]
        simp [mI, mR, upd, e]
      · rw [if_neg e2]
        simp only [e3]
        exact h
set_option maxRecDepth 100000 in
set_option maxHeartbeats 4000000 in
theorem tX0_replace_0 {l : Launch} {G : mx_G} {a b : Int32} {M : mx_Mem} : mx_Met l G yX0_replace cX0_replace 6 (none) 0 0 [.ref 39, .int 0, .int a, .int b] M (mx_F none (rpM M 40 a b 6)) := by
  refine mx_enter (own := RX0) (L := [.ref 39, .int 0, .int a, .int b, .null, .null]) (by decide +kernel) rfl rfl rfl ?_
  intro X hlX hX hR hT
  refine r_iload_n 1 hX dX0_replace_0 rfl ?_
  refine r_if_ne 4 11 hX dX0_replace_1 (fun c => absurd c (by decide)) (fun _ => ?_)
  refine r_aload_n 5 hX dX0_replace_4 rfl ?_
  refine r_getR 8 hX dX0_replace_5 fX0_9 rfl rfl rfl ?_
  refine r_goto 15 hX dX0_replace_8 ?_
  refine r_astore 17 hX dX0_replace_15 rfl ?_
  refine r_iconst 18 hX dX0_replace_17 (v := 0) (by decide) ?_
  refine r_istore 20 hX dX0_replace_18 rfl ?_
  skip
  refine mx_back (P := fun i => mx_WW G X 20 [.ref 39, .int 0, .int a, .int b, .ref 40, .int (nI i)] [] (rpM M 40 a b i)) 6 (fun i hi ih => ?_) ?_
  · show mx_WW G X 20 [.ref 39, .int 0, .int a, .int b, .ref 40, .int (nI i)] [] (rpM M 40 a b i)
    have g1 : ¬ 6 ≤ nI i := nI_ge (b := 6) hi (by decide)
    refine r_iload 22 hX dX0_replace_20 rfl ?_
    refine r_bipush 24 hX dX0_replace_22 (v := 6) (by decide) ?_
    refine r_icmp_ge 27 48 hX dX0_replace_24 (fun c1 => absurd c1 g1) (fun c1 => ?_)
    refine r_aload 29 hX dX0_replace_27 rfl ?_
    refine r_iload 31 hX dX0_replace_29 rfl ?_
    refine r_ialdK 32 hX dX0_replace_31 rfl rfl (vp_in_nI hi (by decide)) (j := i) (nI_clamp (by omega)) ?_
    refine r_iload_n 33 hX dX0_replace_32 rfl ?_
    refine r_icmp_ne 36 42 hX dX0_replace_33 (fun c2 => ?_) (fun c2 => ?_)
    · refine r_iinc 45 hX dX0_replace_42 rfl (v := 1) (by decide) rfl ?_
      refine r_goto 20 hX dX0_replace_45 ?_
      rw [nI_1]
      have ih2 := ih
      simp only [rpM, c2, if_true, if_false, ite_true, ite_false] at ih2
      exact ih2
    · refine r_aload 38 hX dX0_replace_36 rfl ?_
      refine r_iload 40 hX dX0_replace_38 rfl ?_
      refine r_iload_n 41 hX dX0_replace_40 rfl ?_
      refine r_iastK 42 hX dX0_replace_41 rfl rfl (vp_in_nI hi (by decide)) (j := i) (nI_clamp (by omega)) ?_
      refine r_iinc 45 hX dX0_replace_42 rfl (v := 1) (by decide) rfl ?_
      refine r_goto 20 hX dX0_replace_45 ?_
      rw [nI_1]
      have ih2 := ih
      simp only [rpM, c2, if_true, if_false, ite_true, ite_false] at ih2
      exact ih2
  · show mx_WW G X 20 [.ref 39, .int 0, .int a, .int b, .ref 40, .int 6] [] (rpM M 40 a b 6)
    refine r_iload 22 hX dX0_replace_20 rfl ?_
    refine r_bipush 24 hX dX0_replace_22 (v := 6) (by decide) ?_
    refine r_icmp_ge 27 48 hX dX0_replace_24 (fun _ => ?_) (fun c => absurd c (by decide))
    refine r_vret hX hT dX0_replace_48 ?_
    exact ⟨rfl, rfl⟩
set_option maxRecDepth 100000 in
set_option maxHeartbeats 4000000 in
theorem tX0_replace_1 {l : Launch} {G : mx_G} {a b : Int32} {M : mx_Mem} : mx_Met l G yX0_replace cX0_replace 6 (none) 0 0 [.ref 39, .int 1, .int a, .int b] M (mx_F none (rpM M 41 a b 6)) := by
  refine mx_enter (own := RX0) (L := [.ref 39, .int 1, .int a, .int b, .null, .null]) (by decide +kernel) rfl rfl rfl ?_
  intro X hlX hX hR hT
  refine r_iload_n 1 hX dX0_replace_0 rfl ?_
  refine r_if_ne 4 11 hX dX0_replace_1 (fun _ => ?_) (fun c => absurd c (by decide))
  refine r_aload_n 12 hX dX0_replace_11 rfl ?_
  refine r_getR 15 hX dX0_replace_12 fX0_15 rfl rfl rfl ?_
  refine r_astore 17 hX dX0_replace_15 rfl ?_
  refine r_iconst 18 hX dX0_replace_17 (v := 0) (by decide) ?_
  refine r_istore 20 hX dX0_replace_18 rfl ?_
  skip
  refine mx_back (P := fun i => mx_WW G X 20 [.ref 39, .int 1, .int a, .int b, .ref 41, .int (nI i)] [] (rpM M 41 a b i)) 6 (fun i hi ih => ?_) ?_
  · show mx_WW G X 20 [.ref 39, .int 1, .int a, .int b, .ref 41, .int (nI i)] [] (rpM M 41 a b i)
    have g1 : ¬ 6 ≤ nI i := nI_ge (b := 6) hi (by decide)
    refine r_iload 22 hX dX0_replace_20 rfl ?_
    refine r_bipush 24 hX dX0_replace_22 (v := 6) (by decide) ?_
    refine r_icmp_ge 27 48 hX dX0_replace_24 (fun c1 => absurd c1 g1) (fun c1 => ?_)
    refine r_aload 29 hX dX0_replace_27 rfl ?_
    refine r_iload 31 hX dX0_replace_29 rfl ?_
    refine r_ialdK 32 hX dX0_replace_31 rfl rfl (vp_in_nI hi (by decide)) (j := i) (nI_clamp (by omega)) ?_
    refine r_iload_n 33 hX dX0_replace_32 rfl ?_
    refine r_icmp_ne 36 42 hX dX0_replace_33 (fun c2 => ?_) (fun c2 => ?_)
    · refine r_iinc 45 hX dX0_replace_42 rfl (v := 1) (by decide) rfl ?_
      refine r_goto 20 hX dX0_replace_45 ?_
      rw [nI_1]
      have ih2 := ih
      simp only [rpM, c2, if_true, if_false, ite_true, ite_false] at ih2
      exact ih2
    · refine r_aload 38 hX dX0_replace_36 rfl ?_
      refine r_iload 40 hX dX0_replace_38 rfl ?_
      refine r_iload_n 41 hX dX0_replace_40 rfl ?_
      refine r_iastK 42 hX dX0_replace_41 rfl rfl (vp_in_nI hi (by decide)) (j := i) (nI_clamp (by omega)) ?_
      refine r_iinc 45 hX dX0_replace_42 rfl (v := 1) (by decide) rfl ?_
      refine r_goto 20 hX dX0_replace_45 ?_
      rw [nI_1]
      have ih2 := ih
      simp only [rpM, c2, if_true, if_false, ite_true, ite_false] at ih2
      exact ih2
  · show mx_WW G X 20 [.ref 39, .int 1, .int a, .int b, .ref 41, .int 6] [] (rpM M 41 a b 6)
    refine r_iload 22 hX dX0_replace_20 rfl ?_
    refine r_bipush 24 hX dX0_replace_22 (v := 6) (by decide) ?_
    refine r_icmp_ge 27 48 hX dX0_replace_24 (fun _ => ?_) (fun c => absurd c (by decide))
    refine r_vret hX hT dX0_replace_48 ?_
    exact ⟨rfl, rfl⟩
theorem frC_rp (M : mx_Mem) {k : Nat} (hk : k = 40 ∨ k = 41) (a b : Int32) : frC M (rpM M k a b 6) := ⟨fun k' h => rpM_ne M a b (by omega) 6, rpM_2 M a b 6⟩
/-- the orders that the chances see -/
def eqO (M N : mx_Mem) : Prop := ∀ i, i < 6 → N.1 40 i = M.1 40 i ∧ N.1 41 i = M.1 41 i
set_option maxRecDepth 100000 in
set_option maxHeartbeats 4000000 in
theorem tX7_chanceAfter_0_0 {l : Launch} {G : mx_G} {a b : Int32} {p0 p1 tg cap : Nat} {M : mx_Mem} (hS : SO M 0 p0 p1 tg cap) (hb : ∀ i, i < 6 → ¬ M.1 40 i = b) : mx_Met l G yX7_chanceAfter cX7_chanceAfter 5 ((some FieldType.int)) 5 134 [.ref 0, .int 0, .int a, .int b] M ((fun r N => r = some (.int (nI (chV (rpM M 40 a b 6) 0 p0 p1 tg cap))) ∧ frC M N ∧ eqO M N)) := by
  refine mx_enter (own := RX7) (L := [.ref 0, .int 0, .int a, .int b, .null]) (by decide +kernel) rfl rfl rfl ?_
  intro X hlX hX hR hT
  have f1 := frC_rp M (k := 40) (by decide) a b
  obtain ⟨⟨e1, e2, e3⟩, ⟨e4, e5⟩, e6, e7, e8, e9⟩ := SO_fr (fun k hk => f1.1 k (Or.inl hk)) hS
  refine r_aload_n 1 hX dX7_chanceAfter_0 rfl ?_
  refine r_getR 4 hX dX7_chanceAfter_1 fX7_72 rfl rfl rfl ?_
  refine r_iload_n 5 hX dX7_chanceAfter_4 rfl ?_
  refine r_iload_n 6 hX dX7_chanceAfter_5 rfl ?_
  refine r_iload_n 7 hX dX7_chanceAfter_6 rfl ?_
  refine r_cV3U 10 hX hR tX0_replace_0 dX7_chanceAfter_7 kX0_replace lX7_358 rfl rfl rfl rfl rfl rfl ?_
  refine r_aload_n 11 hX dX7_chanceAfter_10 rfl ?_
  refine r_aload_n 12 hX dX7_chanceAfter_11 rfl ?_
  refine r_getR 15 hX dX7_chanceAfter_12 fX7_39 rfl rfl rfl ?_
  refine r_getI 18 hX dX7_chanceAfter_15 fX7_199 rfl rfl rfl ?_
  rw [e1]
  refine r_aload_n 19 hX dX7_chanceAfter_18 rfl ?_
  refine r_getR 22 hX dX7_chanceAfter_19 fX7_29 rfl rfl rfl ?_
  refine r_getI 25 hX dX7_chanceAfter_22 fX7_202 rfl rfl rfl ?_
  rw [e2]
  refine r_aload_n 26 hX dX7_chanceAfter_25 rfl ?_
  refine r_getR 29 hX dX7_chanceAfter_26 fX7_33 rfl rfl rfl ?_
  refine r_getI 32 hX dX7_chanceAfter_29 fX7_202 rfl rfl rfl ?_
  rw [e3]
  refine r_cV3G 35 hX hR (tX7_chanceFrom_0 (M := rpM M 40 a b 6) e4 e5 e6 e7 e8 e9) dX7_chanceAfter_32 kX7_chanceFrom lX7_271 rfl rfl rfl rfl rfl rfl (fun r9 M9 hp9 => ?_)
  obtain ⟨rfl, hI9⟩ := hp9
  show mx_WW G X 35 _ (.int _ :: []) M9
  refine r_istore 37 hX dX7_chanceAfter_35 rfl ?_
  refine r_aload_n 38 hX dX7_chanceAfter_37 rfl ?_
  refine r_getR 41 hX dX7_chanceAfter_38 fX7_72 rfl rfl rfl ?_
  refine r_iload_n 42 hX dX7_chanceAfter_41 rfl ?_
  refine r_iload_n 43 hX dX7_chanceAfter_42 rfl ?_
  refine r_iload_n 44 hX dX7_chanceAfter_43 rfl ?_
  refine r_cV3U 47 hX hR tX0_replace_0 dX7_chanceAfter_44 kX0_replace lX7_358 rfl rfl rfl rfl rfl rfl ?_
  refine r_iload 49 hX dX7_chanceAfter_47 rfl ?_
  refine r_iret hX hT dX7_chanceAfter_49 ?_
  refine ⟨rfl, frC_tr (frC_tr f1 (frC_tr (frC_fp _ _) (frC_sc hI9))) (frC_rp M9 (by decide) b a), fun i hi => ?_⟩
  have k0 : ∀ k, k = 40 ∨ k = 41 → M9.1 k = (rpM M 40 a b 6).1 k := fun k h => by rw [hI9.1.1 k (by omega) (by omega), fpM_ne _ _ (by omega) (by omega)]
  have k1 : (rpM M9 40 b a 6).1 40 i = M.1 40 i := by
    rw [rpM_k, k0 40 (by decide), rpM_k]
    have := hb i hi
    by_cases e : M.1 40 i = a <;> simp [e, hi]
    exact fun k => absurd k this
  have k2 : (rpM M9 40 b a 6).1 41 i = M.1 41 i := by rw [rpM_ne _ _ _ (by decide), k0 41 (by decide), rpM_ne _ _ _ (by decide)]
  exact ⟨k1, k2⟩
set_option maxRecDepth 100000 in
set_option maxHeartbeats 4000000 in
theorem tX7_chanceAfter_1_0 {l : Launch} {G : mx_G} {a b : Int32} {p0 p1 tg cap : Nat} {M : mx_Mem} (hS : SO M 0 p0 p1 tg cap) (hb : ∀ i, i < 6 → ¬ M.1 41 i = b) : mx_Met l G yX7_chanceAfter cX7_chanceAfter 5 ((some FieldType.int)) 5 134 [.ref 0, .int 1, .int a, .int b] M ((fun r N => r = some (.int (nI (chV (rpM M 41 a b 6) 0 p0 p1 tg cap))) ∧ frC M N ∧ eqO M N)) := by
  refine mx_enter (own := RX7) (L := [.ref 0, .int 1, .int a, .int b, .null]) (by decide +kernel) rfl rfl rfl ?_
  intro X hlX hX hR hT
  have f1 := frC_rp M (k := 41) (by decide) a b
  obtain ⟨⟨e1, e2, e3⟩, ⟨e4, e5⟩, e6, e7, e8, e9⟩ := SO_fr (fun k hk => f1.1 k (Or.inl hk)) hS
  refine r_aload_n 1 hX dX7_chanceAfter_0 rfl ?_
  refine r_getR 4 hX dX7_chanceAfter_1 fX7_72 rfl rfl rfl ?_
  refine r_iload_n 5 hX dX7_chanceAfter_4 rfl ?_
  refine r_iload_n 6 hX dX7_chanceAfter_5 rfl ?_
  refine r_iload_n 7 hX dX7_chanceAfter_6 rfl ?_
  refine r_cV3U 10 hX hR tX0_replace_1 dX7_chanceAfter_7 kX0_replace lX7_358 rfl rfl rfl rfl rfl rfl ?_
  refine r_aload_n 11 hX dX7_chanceAfter_10 rfl ?_
  refine r_aload_n 12 hX dX7_chanceAfter_11 rfl ?_
  refine r_getR 15 hX dX7_chanceAfter_12 fX7_39 rfl rfl rfl ?_
  refine r_getI 18 hX dX7_chanceAfter_15 fX7_199 rfl rfl rfl ?_
  rw [e1]
  refine r_aload_n 19 hX dX7_chanceAfter_18 rfl ?_
  refine r_getR 22 hX dX7_chanceAfter_19 fX7_29 rfl rfl rfl ?_
  refine r_getI 25 hX dX7_chanceAfter_22 fX7_202 rfl rfl rfl ?_
  rw [e2]
  refine r_aload_n 26 hX dX7_chanceAfter_25 rfl ?_
  refine r_getR 29 hX dX7_chanceAfter_26 fX7_33 rfl rfl rfl ?_
  refine r_getI 32 hX dX7_chanceAfter_29 fX7_202 rfl rfl rfl ?_
  rw [e3]
  refine r_cV3G 35 hX hR (tX7_chanceFrom_0 (M := rpM M 41 a b 6) e4 e5 e6 e7 e8 e9) dX7_chanceAfter_32 kX7_chanceFrom lX7_271 rfl rfl rfl rfl rfl rfl (fun r9 M9 hp9 => ?_)
  obtain ⟨rfl, hI9⟩ := hp9
  show mx_WW G X 35 _ (.int _ :: []) M9
  refine r_istore 37 hX dX7_chanceAfter_35 rfl ?_
  refine r_aload_n 38 hX dX7_chanceAfter_37 rfl ?_
  refine r_getR 41 hX dX7_chanceAfter_38 fX7_72 rfl rfl rfl ?_
  refine r_iload_n 42 hX dX7_chanceAfter_41 rfl ?_
  refine r_iload_n 43 hX dX7_chanceAfter_42 rfl ?_
  refine r_iload_n 44 hX dX7_chanceAfter_43 rfl ?_
  refine r_cV3U 47 hX hR tX0_replace_1 dX7_chanceAfter_44 kX0_replace lX7_358 rfl rfl rfl rfl rfl rfl ?_
  refine r_iload 49 hX dX7_chanceAfter_47 rfl ?_
  refine r_iret hX hT dX7_chanceAfter_49 ?_
  refine ⟨rfl, frC_tr (frC_tr f1 (frC_tr (frC_fp _ _) (frC_sc hI9))) (frC_rp M9 (by decide) b a), fun i hi => ?_⟩
  have k0 : ∀ k, k = 40 ∨ k = 41 → M9.1 k = (rpM M 41 a b 6).1 k := fun k h => by rw [hI9.1.1 k (by omega) (by omega), fpM_ne _ _ (by omega) (by omega)]
  have k1 : (rpM M9 41 b a 6).1 41 i = M.1 41 i := by
    rw [rpM_k, k0 41 (by decide), rpM_k]
    have := hb i hi
    by_cases e : M.1 41 i = a <;> simp [e, hi]
    exact fun k => absurd k this
  have k2 : (rpM M9 41 b a 6).1 40 i = M.1 40 i := by rw [rpM_ne _ _ _ (by decide), k0 40 (by decide), rpM_ne _ _ _ (by decide)]
  exact ⟨k2, k1⟩
set_option maxRecDepth 100000 in
set_option maxHeartbeats 4000000 in
theorem tX7_chanceAfter_0_1 {l : Launch} {G : mx_G} {a b : Int32} {p0 p1 tg cap : Nat} {M : mx_Mem} (hS : SO M 1 p0 p1 tg cap) (hb : ∀ i, i < 6 → ¬ M.1 40 i = b) : mx_Met l G yX7_chanceAfter cX7_chanceAfter 5 ((some FieldType.int)) 5 134 [.ref 0, .int 0, .int a, .int b] M ((fun r N => r = some (.int (nI (chV (rpM M 40 a b 6) 1 p0 p1 tg cap))) ∧ frC M N ∧ eqO M N)) := by
  refine mx_enter (own := RX7) (L := [.ref 0, .int 0, .int a, .int b, .null]) (by decide +kernel) rfl rfl rfl ?_
  intro X hlX hX hR hT
  have f1 := frC_rp M (k := 40) (by decide) a b
  obtain ⟨⟨e1, e2, e3⟩, ⟨e4, e5⟩, e6, e7, e8, e9⟩ := SO_fr (fun k hk => f1.1 k (Or.inl hk)) hS
  refine r_aload_n 1 hX dX7_chanceAfter_0 rfl ?_
  refine r_getR 4 hX dX7_chanceAfter_1 fX7_72 rfl rfl rfl ?_
  refine r_iload_n 5 hX dX7_chanceAfter_4 rfl ?_
  refine r_iload_n 6 hX dX7_chanceAfter_5 rfl ?_
  refine r_iload_n 7 hX dX7_chanceAfter_6 rfl ?_
  refine r_cV3U 10 hX hR tX0_replace_0 dX7_chanceAfter_7 kX0_replace lX7_358 rfl rfl rfl rfl rfl rfl ?_
  refine r_aload_n 11 hX dX7_chanceAfter_10 rfl ?_
  refine r_aload_n 12 hX dX7_chanceAfter_11 rfl ?_
  refine r_getR 15 hX dX7_chanceAfter_12 fX7_39 rfl rfl rfl ?_
  refine r_getI 18 hX dX7_chanceAfter_15 fX7_199 rfl rfl rfl ?_
  rw [e1]
  refine r_aload_n 19 hX dX7_chanceAfter_18 rfl ?_
  refine r_getR 22 hX dX7_chanceAfter_19 fX7_29 rfl rfl rfl ?_
  refine r_getI 25 hX dX7_chanceAfter_22 fX7_202 rfl rfl rfl ?_
  rw [e2]
  refine r_aload_n 26 hX dX7_chanceAfter_25 rfl ?_
  refine r_getR 29 hX dX7_chanceAfter_26 fX7_33 rfl rfl rfl ?_
  refine r_getI 32 hX dX7_chanceAfter_29 fX7_202 rfl rfl rfl ?_
  rw [e3]
  refine r_cV3G 35 hX hR (tX7_chanceFrom_1 (M := rpM M 40 a b 6) e4 e5 e6 e7 e8 e9) dX7_chanceAfter_32 kX7_chanceFrom lX7_271 rfl rfl rfl rfl rfl rfl (fun r9 M9 hp9 => ?_)
  obtain ⟨rfl, hI9⟩ := hp9
  show mx_WW G X 35 _ (.int _ :: []) M9
  refine r_istore 37 hX dX7_chanceAfter_35 rfl ?_
  refine r_aload_n 38 hX dX7_chanceAfter_37 rfl ?_
  refine r_getR 41 hX dX7_chanceAfter_38 fX7_72 rfl rfl rfl ?_
  refine r_iload_n 42 hX dX7_chanceAfter_41 rfl ?_
  refine r_iload_n 43 hX dX7_chanceAfter_42 rfl ?_
  refine r_iload_n 44 hX dX7_chanceAfter_43 rfl ?_
  refine r_cV3U 47 hX hR tX0_replace_0 dX7_chanceAfter_44 kX0_replace lX7_358 rfl rfl rfl rfl rfl rfl ?_
  refine r_iload 49 hX dX7_chanceAfter_47 rfl ?_
  refine r_iret hX hT dX7_chanceAfter_49 ?_
  refine ⟨rfl, frC_tr (frC_tr f1 (frC_tr (frC_fp _ _) (frC_sc hI9))) (frC_rp M9 (by decide) b a), fun i hi => ?_⟩
  have k0 : ∀ k, k = 40 ∨ k = 41 → M9.1 k = (rpM M 40 a b 6).1 k := fun k h => by rw [hI9.1.1 k (by omega) (by omega), fpM_ne _ _ (by omega) (by omega)]
  have k1 : (rpM M9 40 b a 6).1 40 i = M.1 40 i := by
    rw [rpM_k, k0 40 (by decide), rpM_k]
    have := hb i hi
    by_cases e : M.1 40 i = a <;> simp [e, hi]
    exact fun k => absurd k this
  have k2 : (rpM M9 40 b a 6).1 41 i = M.1 41 i := by rw [rpM_ne _ _ _ (by decide), k0 41 (by decide), rpM_ne _ _ _ (by decide)]
  exact ⟨k1, k2⟩
set_option maxRecDepth 100000 in
set_option maxHeartbeats 4000000 in
theorem tX7_chanceAfter_1_1 {l : Launch} {G : mx_G} {a b : Int32} {p0 p1 tg cap : Nat} {M : mx_Mem} (hS : SO M 1 p0 p1 tg cap) (hb : ∀ i, i < 6 → ¬ M.1 41 i = b) : mx_Met l G yX7_chanceAfter cX7_chanceAfter 5 ((some FieldType.int)) 5 134 [.ref 0, .int 1, .int a, .int b] M ((fun r N => r = some (.int (nI (chV (rpM M 41 a b 6) 1 p0 p1 tg cap))) ∧ frC M N ∧ eqO M N)) := by
  refine mx_enter (own := RX7) (L := [.ref 0, .int 1, .int a, .int b, .null]) (by decide +kernel) rfl rfl rfl ?_
  intro X hlX hX hR hT
  have f1 := frC_rp M (k := 41) (by decide) a b
  obtain ⟨⟨e1, e2, e3⟩, ⟨e4, e5⟩, e6, e7, e8, e9⟩ := SO_fr (fun k hk => f1.1 k (Or.inl hk)) hS
  refine r_aload_n 1 hX dX7_chanceAfter_0 rfl ?_
  refine r_getR 4 hX dX7_chanceAfter_1 fX7_72 rfl rfl rfl ?_
  refine r_iload_n 5 hX dX7_chanceAfter_4 rfl ?_
  refine r_iload_n 6 hX dX7_chanceAfter_5 rfl ?_
  refine r_iload_n 7 hX dX7_chanceAfter_6 rfl ?_
  refine r_cV3U 10 hX hR tX0_replace_1 dX7_chanceAfter_7 kX0_replace lX7_358 rfl rfl rfl rfl rfl rfl ?_
  refine r_aload_n 11 hX dX7_chanceAfter_10 rfl ?_
  refine r_aload_n 12 hX dX7_chanceAfter_11 rfl ?_
  refine r_getR 15 hX dX7_chanceAfter_12 fX7_39 rfl rfl rfl ?_
  refine r_getI 18 hX dX7_chanceAfter_15 fX7_199 rfl rfl rfl ?_
  rw [e1]
  refine r_aload_n 19 hX dX7_chanceAfter_18 rfl ?_
  refine r_getR 22 hX dX7_chanceAfter_19 fX7_29 rfl rfl rfl ?_
  refine r_getI 25 hX dX7_chanceAfter_22 fX7_202 rfl rfl rfl ?_
  rw [e2]
  refine r_aload_n 26 hX dX7_chanceAfter_25 rfl ?_
  refine r_getR 29 hX dX7_chanceAfter_26 fX7_33 rfl rfl rfl ?_
  refine r_getI 32 hX dX7_chanceAfter_29 fX7_202 rfl rfl rfl ?_
  rw [e3]
  refine r_cV3G 35 hX hR (tX7_chanceFrom_1 (M := rpM M 41 a b 6) e4 e5 e6 e7 e8 e9) dX7_chanceAfter_32 kX7_chanceFrom lX7_271 rfl rfl rfl rfl rfl rfl (fun r9 M9 hp9 => ?_)
  obtain ⟨rfl, hI9⟩ := hp9
  show mx_WW G X 35 _ (.int _ :: []) M9
  refine r_istore 37 hX dX7_chanceAfter_35 rfl ?_
  refine r_aload_n 38 hX dX7_chanceAfter_37 rfl ?_
  refine r_getR 41 hX dX7_chanceAfter_38 fX7_72 rfl rfl rfl ?_
  refine r_iload_n 42 hX dX7_chanceAfter_41 rfl ?_
  refine r_iload_n 43 hX dX7_chanceAfter_42 rfl ?_
  refine r_iload_n 44 hX dX7_chanceAfter_43 rfl ?_
  refine r_cV3U 47 hX hR tX0_replace_1 dX7_chanceAfter_44 kX0_replace lX7_358 rfl rfl rfl rfl rfl rfl ?_
  refine r_iload 49 hX dX7_chanceAfter_47 rfl ?_
  refine r_iret hX hT dX7_chanceAfter_49 ?_
  refine ⟨rfl, frC_tr (frC_tr f1 (frC_tr (frC_fp _ _) (frC_sc hI9))) (frC_rp M9 (by decide) b a), fun i hi => ?_⟩
  have k0 : ∀ k, k = 40 ∨ k = 41 → M9.1 k = (rpM M 41 a b 6).1 k := fun k h => by rw [hI9.1.1 k (by omega) (by omega), fpM_ne _ _ (by omega) (by omega)]
  have k1 : (rpM M9 41 b a 6).1 41 i = M.1 41 i := by
    rw [rpM_k, k0 41 (by decide), rpM_k]
    have := hb i hi
    by_cases e : M.1 41 i = a <;> simp [e, hi]
    exact fun k => absurd k this
  have k2 : (rpM M9 41 b a 6).1 40 i = M.1 40 i := by rw [rpM_ne _ _ _ (by decide), k0 40 (by decide), rpM_ne _ _ _ (by decide)]
  exact ⟨k2, k1⟩

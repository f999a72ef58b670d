/-! chances of the model: turn -/
theorem l64_le (x y : Int32) : x.toInt64 ≤ y.toInt64 ↔ x ≤ y := by
  rw [Int64.le_iff_toInt_le, Int32.le_iff_toInt_le, Int32.toInt_toInt64, Int32.toInt_toInt64]
def nxM (N : mx_Mem) (a b : Nat) : mx_Mem := fwM (fwM N 58 0 (fun y => N.1 50 ((y + a) % 6)) 6) 58 6 (fun y => N.1 50 (6 + (y + b) % 6)) 6
theorem frM_nx (N : mx_Mem) (a b : Nat) : frM N (nxM N a b) := ⟨fun k h1 _ => by funext j; rw [nxM, fwM_ne _ _ h1, fwM_ne _ _ h1], fun k _ => by rw [nxM, fwM_2, fwM_2]⟩
theorem nx_58 (N : mx_Mem) (a b : Nat) : ∀ i, i < 6 → (nxM N a b).1 58 i = N.1 50 ((i + a) % 6) ∧ (nxM N a b).1 58 (6 + i) = N.1 50 (6 + (i + b) % 6) := by
  intro i hi
  rw [nxM, fwM_in _ _ 6 hi, fwM_out _ _ 6 (by omega)]
  have := fwM_in N (k := 58) (s := 0) (fun y => N.1 50 ((y + a) % 6)) 6 hi
  rw [Nat.zero_add] at this
  exact ⟨this, rfl⟩
set_option maxRecDepth 100000 in
set_option maxHeartbeats 4000000 in
theorem tX8_turn__no {l : Launch} {G : mx_G} {t f : Int32} {M : mx_Mem} (hn : ¬ (isT t ∧ isT f ∧ ¬ M.1 52 1 = 1 ∧ ¬ M.1 51 0 = 0 ∧ ¬ M.1 51 1 = 0)) : mx_Met l G yX8_turn_ cX8_turn_ 9 ((some FieldType.int)) 4 104 [.ref 46, .int t, .int f] M (mx_F (some (.int (-1))) (mI M 46 13 0)) := by
  refine mx_enter (own := RX8) (L := [.ref 46, .int t, .int f, .null, .null, .null, .null, .null, .null]) (by decide +kernel) rfl rfl rfl ?_
  intro X hlX hX hR hT
  refine r_aload_n 1 hX dX8_turn__0 rfl ?_
  refine r_iconst 2 hX dX8_turn__1 (v := 0) (by decide) ?_
  refine r_putI 5 hX dX8_turn__2 fX8_63 fp8_13 rfl rfl rfl ?_
  refine r_iload_n 6 hX dX8_turn__5 rfl ?_
  refine r_cS1F 9 hX hR tX8_isTeam dX8_turn__6 kX8_isTeam lX8_71 rfl rfl rfl ?_
  refine r_Beq 12 44 hX dX8_turn__9 (fun c1 => ?_) (fun c1 => ?_)
  · refine r_iconst 45 hX dX8_turn__44 (v := -1) (by decide) ?_
    refine r_iret hX hT dX8_turn__45 ?_
    exact ⟨rfl, rfl⟩
  · refine r_iload_n 13 hX dX8_turn__12 rfl ?_
    refine r_cS1F 16 hX hR tX8_isTeam dX8_turn__13 kX8_isTeam lX8_71 rfl rfl rfl ?_
    refine r_Beq 19 44 hX dX8_turn__16 (fun c2 => ?_) (fun c2 => ?_)
    · refine r_iconst 45 hX dX8_turn__44 (v := -1) (by decide) ?_
      refine r_iret hX hT dX8_turn__45 ?_
      exact ⟨rfl, rfl⟩
    · refine r_aload_n 20 hX dX8_turn__19 rfl ?_
      refine r_cV0F 23 hX hR tX8_isOn dX8_turn__20 kX8_isOn lX8_82 rfl rfl rfl rfl rfl rfl ?_
      refine r_Bne 26 44 hX dX8_turn__23 (fun c3 => ?_) (fun c3 => ?_)
      · refine r_iconst 45 hX dX8_turn__44 (v := -1) (by decide) ?_
        refine r_iret hX hT dX8_turn__45 ?_
        exact ⟨rfl, rfl⟩
      · refine r_aload_n 27 hX dX8_turn__26 rfl ?_
        refine r_getR 30 hX dX8_turn__27 fX8_22 rfl rfl rfl ?_
        refine r_iconst 31 hX dX8_turn__30 (v := 0) (by decide) ?_
        refine r_zaldK 32 hX dX8_turn__31 rfl rfl (vpK rfl) (j := 0) (by decide) ?_
        refine r_if_eq 35 44 hX dX8_turn__32 (fun c4 => ?_) (fun c4 => ?_)
        · refine r_iconst 45 hX dX8_turn__44 (v := -1) (by decide) ?_
          refine r_iret hX hT dX8_turn__45 ?_
          exact ⟨rfl, rfl⟩
        · refine r_aload_n 36 hX dX8_turn__35 rfl ?_
          refine r_getR 39 hX dX8_turn__36 fX8_22 rfl rfl rfl ?_
          refine r_iconst 40 hX dX8_turn__39 (v := 1) (by decide) ?_
          refine r_zaldK 41 hX dX8_turn__40 rfl rfl (vpK rfl) (j := 1) (by decide) ?_
          refine r_if_ne 44 46 hX dX8_turn__41 (fun c5 => ?_) (fun c5 => ?_)
          · exact absurd ⟨by simpa using c1, by simpa using c2, by simpa [mI, mR, upd] using c3, by simpa [mI, mR, upd] using c4, by simpa [mI, mR, upd] using c5⟩ hn
          · refine r_iconst 45 hX dX8_turn__44 (v := -1) (by decide) ?_
            refine r_iret hX hT dX8_turn__45 ?_
            exact ⟨rfl, rfl⟩
def mtW (M : mx_Mem) (t f tg cap : Nat) (r : Nat) : Int32 := nI (UU tg cap (moN (nxM M (if t = 0 then r else 0) (if t = 1 then r else 0))) 0 0 f 0 0)
theorem moN_congr {M N : mx_Mem} (h1 : N.1 47 = M.1 47) (h2 : ∀ k, k < 12 → N.1 58 k = M.1 58 k) : ∀ s, s < 2 → ∀ i j, moN N s i j = moN M s i j := by
  intro s hs i j
  have e : ∀ t k, t < 2 → N.1 58 (6 * t + k % 6) = M.1 58 (6 * t + k % 6) := fun t k ht => h2 _ (by omega)
  unfold moN mrc msm ms msk
  simp only [h1, e s _ hs, e (1 - s) _ (by omega)]

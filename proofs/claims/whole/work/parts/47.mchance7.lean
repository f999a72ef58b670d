/-! chances of the model: fill, now, chance, weight -/
def moN (M : mx_Mem) (s i j : Nat) : Nat := (mrc M s i j).toNatClampNeg
theorem moN_e (M : mx_Mem) (s i j : Nat) : mrc M s i j = nI (moN M s i j) ∧ moN M s i j ≤ 1000 := by
  unfold moN mrc
  exact ⟨(clp_n _).1, Nat.le_trans (clp_n _).2 (by decide)⟩
def flI (M : mx_Mem) (tg cap : Nat) (N : mx_Mem) : Prop := ((∀ k, k ≠ 59 → N.1 k = M.1 k) ∧ ∀ k, k ≠ 60 → N.2 k = M.2 k) ∧ ∀ a b, a ≤ cap → b ≤ cap → tbO tg cap (moN M) a b N
set_option maxRecDepth 100000 in
set_option maxHeartbeats 4000000 in
theorem tX8_fill {l : Launch} {G : mx_G} {tg cap : Nat} {M : mx_Mem} (htg : tg ≤ 100) (hcap : cap ≤ 30) (hN1 : M.1 49 1 = nI cap) (hP : ∀ k : Nat, k < 12 → isP (M.1 58 k)) : mx_Met l G yX8_fill cX8_fill 10 (none) 3 75 [.ref 46, .int (nI tg)] M ((fun r N => r = none ∧ flI M tg cap N)) := by
  refine mx_enter (own := RX8) (L := [.ref 46, .int (nI tg), .null, .null, .null, .null, .null, .null, .null, .null]) (by decide +kernel) rfl rfl rfl ?_
  intro X hlX hX hR hT
  refine r_iconst 1 hX dX8_fill_0 (v := 0) (by decide) ?_
  refine r_istore_n 2 hX dX8_fill_1 rfl ?_
  skip
  refine odl hX hR hP ?_ M _ _ ⟨⟨fun _ _ => rfl, rfl⟩, fun i' j' s h => by omega⟩
  intro M1 w3 w4 hO
  have hN : M1.1 49 1 = nI cap := by rw [hO.1.1 49 (by decide)]; exact hN1
  have hod : ∀ s i j, s < 2 → i < 6 → j < 6 → M1.1 59 ((s * 6 + i) * 6 + j) = nI (moN M s i j) := fun s i j h1 h2 h3 => by rw [hO.2 i j s (by omega) h3 h1]; exact (moN_e M s i j).1
  have hc : ∀ s i j, moN M s i j ≤ 1000 := fun s i j => (moN_e M s i j).2
  have g2 : (2 : Int32) * nI cap = nI (2 * cap) := by rw [show (2 : Int32) = nI 2 from rfl, pk_mul]
  have outer : ∀ n N (w4 w5 w6 w7 w8 w9 : Value), n ≤ 2 * cap → tbI M1 tg cap (moN M) n (n - cap) N → mx_WW G X 79 [.ref 46, .int (nI tg), .int (nI cap), .int (nI n), w4, w5, w6, w7, w8, w9] [] N := by
    intro n
    induction n with
    | zero =>
      intro N w4 w5 w6 w7 w8 w9 hn hI
      have q1 : 0 ≤ nI 0 := by decide
      have q2 := max_n (n := 0) (cap := cap) (by omega) (by omega)
      refine r_iload_n 80 hX dX8_fill_79 rfl ?_
      refine r_If_lt 83 374 hX dX8_fill_80 (fun c1 => absurd q1 c1) (fun c1 => ?_)
      refine r_iconst 84 hX dX8_fill_83 (v := 0) (by decide) ?_
      refine r_iload_n 85 hX dX8_fill_84 rfl ?_
      refine r_iload_n 86 hX dX8_fill_85 rfl ?_
      refine r_isub 87 hX dX8_fill_86 ?_
      refine r_mmax 90 hX hR dX8_fill_87 lX8_171 rfl rfl rfl ?_
      rw [q2]
      refine r_istore 92 hX dX8_fill_90 rfl ?_
      skip
      refine fsum hX hR htg hcap hN hod hc hn ?_ (min cap 0 + 1 - (0 - cap)) (0 - cap) N _ _ _ _ _ (by omega) (Nat.le_refl _) hI
      intro N2 w4 w5 w6 w7 w8 w9 hI2
      refine r_iinc 371 hX dX8_fill_368 rfl (v := -1) (by decide) rfl ?_
      refine r_goto 79 hX dX8_fill_371 ?_
      refine r_iload_n 80 hX dX8_fill_79 rfl ?_
      refine r_If_lt 83 374 hX dX8_fill_80 (fun c1 => ?_) (fun c1 => absurd c1 (by decide))
      refine r_vret hX hT dX8_fill_374 ?_
      refine ⟨rfl, ⟨fun k hk => ?_, fun k hk => ?_⟩, fun a b ha hb => hI2.2 a b ha hb (by omega)⟩
      · rw [hI2.1.1]; exact hO.1.1 k hk
      · rw [hI2.1.2 k hk, hO.1.2]
    | succ n ih =>
      intro N w4 w5 w6 w7 w8 w9 hn hI
      have q1 : 0 ≤ nI (n + 1) := nI_pos' (by omega)
      have q2 := max_n (n := n + 1) (cap := cap) (by omega) (by omega)
      refine r_iload_n 80 hX dX8_fill_79 rfl ?_
      refine r_If_lt 83 374 hX dX8_fill_80 (fun c1 => absurd q1 c1) (fun c1 => ?_)
      refine r_iconst 84 hX dX8_fill_83 (v := 0) (by decide) ?_
      refine r_iload_n 85 hX dX8_fill_84 rfl ?_
      refine r_iload_n 86 hX dX8_fill_85 rfl ?_
      refine r_isub 87 hX dX8_fill_86 ?_
      refine r_mmax 90 hX hR dX8_fill_87 lX8_171 rfl rfl rfl ?_
      rw [q2]
      refine r_istore 92 hX dX8_fill_90 rfl ?_
      skip
      refine fsum hX hR htg hcap hN hod hc hn ?_ (min cap (n + 1) + 1 - (n + 1 - cap)) (n + 1 - cap) N _ _ _ _ _ (by omega) (Nat.le_refl _) hI
      intro N2 w4 w5 w6 w7 w8 w9 hI2
      refine r_iinc 371 hX dX8_fill_368 rfl (v := -1) (by decide) rfl ?_
      refine r_goto 79 hX dX8_fill_371 ?_
      rw [show nI (n + 1) + (-1) = nI n from nI_dec n]
      exact ih _ _ _ _ _ _ _ (by omega) ⟨hI2.1, fun a b ha hb hd => hI2.2 a b ha hb (by omega)⟩
  refine r_aload_n 69 hX dX8_fill_68 rfl ?_
  refine r_getR 72 hX dX8_fill_69 fX8_16 rfl rfl rfl ?_
  refine r_iconst 73 hX dX8_fill_72 (v := 1) (by decide) ?_
  refine r_ialdV 74 hX dX8_fill_73 rfl rfl (vpK rfl) (j := 1) (by decide) (v := nI cap) hN ?_
  refine r_istore_n 75 hX dX8_fill_74 rfl ?_
  refine r_iconst 76 hX dX8_fill_75 (v := 2) (by decide) ?_
  refine r_iload_n 77 hX dX8_fill_76 rfl ?_
  refine r_imul 78 hX dX8_fill_77 ?_
  rw [g2]
  refine r_istore_n 79 hX dX8_fill_78 rfl ?_
  exact outer (2 * cap) M1 _ _ _ _ _ _ (Nat.le_refl _) ⟨⟨rfl, fun _ _ => rfl⟩, fun a b ha hb hd => by omega⟩

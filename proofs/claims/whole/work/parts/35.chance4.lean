/-! chances of the class: the set -/
theorem nI_dec (d : Nat) : nI (d + 1) + (-1) = nI d := by
  rw [← nI_1]
  generalize nI d = x
  show x + 1 + (-1) = x
  rw [Int32.add_assoc, show (1 : Int32) + (-1) = 0 from rfl, Int32.add_zero]
theorem nI_below {p : Nat} (h : p ≤ 1000) : ¬ nI p ≤ nI p + (-1) := by
  cases p with
  | zero => decide
  | succ d =>
    rw [nI_dec, nI_leI (by omega) (by omega)]
    omega
theorem fs_fw (M : mx_Mem) (k s : Nat) (v : Int32) : ∀ n, fsM M k s v n = fwM M k s (fun _ => v) n
  | 0 => rfl
  | n + 1 => by rw [fsM, fwM, fs_fw M k s v n]
def rwO (N : mx_Mem) (tg cap : Nat) (c : Nat → Nat) (f a lo : Nat) : Prop := ∀ b, lo ≤ b → b ≤ cap → ∀ ph, ph < 12 → N.1 (44 + a % 2) (b * 12 + ph) = nI (VV tg cap c f a b ph)
def scI (M : mx_Mem) (tg cap : Nat) (c : Nat → Nat) (f p1 a lo : Nat) (N : mx_Mem) : Prop := ((∀ k, k ≠ 44 → k ≠ 45 → N.1 k = M.1 k) ∧ N.2 = M.2) ∧ (a + 1 ≤ cap → rwO N tg cap c f (a + 1) p1) ∧ rwO N tg cap c f a lo
theorem scI_step {M N : mx_Mem} {tg cap f p1 a b : Nat} {c : Nat → Nat} (h : scI M tg cap c f p1 a (b + 1) N) : scI M tg cap c f p1 a b (fwM N (44 + a % 2) (b * 12) (fun n => nI (VV tg cap c f a b n)) 12) := by
  obtain ⟨⟨h1, h2⟩, h3, h4⟩ := h
  refine ⟨⟨fun k e1 e2 => ?_, ?_⟩, fun e => ?_, ?_⟩
  · rw [← h1 k e1 e2]
    funext j
    exact fwM_ne N _ (by omega) j 12
  · rw [fwM_2, h2]
  · intro b' hb hc ph hp
    rw [fwM_ne N _ (rw_ne a)]
    exact h3 e b' hb hc ph hp
  · intro b' hb hc ph hp
    by_cases e : b' = b
    · subst e
      rw [fwM_in N _ 12 hp]
    · rw [fwM_out N _ 12 (by omega)]
      exact h4 b' (by omega) hc ph hp
theorem scI_down {M N : mx_Mem} {tg cap f p1 a : Nat} {c : Nat → Nat} (h : scI M tg cap c f p1 (a + 1) p1 N) : scI M tg cap c f p1 a (cap + 1) N :=
  ⟨h.1, fun _ => h.2.2, fun b h1 h2 => by omega⟩
def scP (M : mx_Mem) (tg cap : Nat) (c : Nat → Nat) (f p0 p1 : Nat) (r : Option Value) (N : mx_Mem) : Prop := r = some (.int (nI (VV tg cap c f p0 p1 0))) ∧ scI M tg cap c f p1 p0 p1 N
set_option maxRecDepth 100000 in
set_option maxHeartbeats 4000000 in
theorem tX0_setChance_0 {l : Launch} {G : mx_G} {p0 p1 tg cap : Nat} (c : Nat → Nat) {M : mx_Mem} (h0 : p0 ≤ cap) (h1 : p1 ≤ cap) (ht : tg ≤ 100) (hcap : cap ≤ 30) (hf : M.1 39 4 = 0) (hc : ∀ n, c n ≤ 1000) (hp : ∀ n, n < 12 → M.1 42 n = nI (c n)) : mx_Met l G yX0_setChance cX0_setChance 8 ((some FieldType.int)) 1 35 [.ref 39, .int (nI p0), .int (nI p1), .int (nI tg), .int (nI cap)] M ((scP M tg cap c 0 p0 p1)) := by
  refine mx_enter (own := RX0) (L := [.ref 39, .int (nI p0), .int (nI p1), .int (nI tg), .int (nI cap), .null, .null, .null]) (by decide +kernel) rfl rfl rfl ?_
  intro X hlX hX hR hT
  have hle : ∀ a b ph, VV tg cap c 0 a b ph ≤ 1000000000 := fun a b ph => vF_le tg cap c 0 hc _ _ _ _
  have gm : (if nI cap ≤ 30 then nI cap else 30) = nI cap := if_pos (nI_le (b := 30) hcap (by decide))
  have body : ∀ a b N, a ≤ cap → b ≤ cap → p1 ≤ b → scI M tg cap c 0 p1 a (b + 1) N → mx_WW G X 28 [.ref 39, .int (nI p0), .int (nI p1), .int (nI tg), .int (nI cap), .int (nI cap), .int (nI a), .int (nI b + (-1))] [] (fwM N (44 + a % 2) (b * 12) (fun n => nI (VV tg cap c 0 a b n)) 12) → mx_WW G X 28 [.ref 39, .int (nI p0), .int (nI p1), .int (nI tg), .int (nI cap), .int (nI cap), .int (nI a), .int (nI b)] [] N := by
    intro a b N ha hb hpb hI hE
    have q1 : nI p1 ≤ nI b := (nI_leI (by omega) (by omega)).2 hpb
    have q2 : 0 ≤ nI b := nI_pos' (by omega)
    have w1 := wn_iff (tg := tg) (cap := cap) (a := a) (b := b) ht (by omega) (by omega) (by omega)
    have w2 := wn_iff (tg := tg) (cap := cap) (a := b) (b := a) ht (by omega) (by omega) (by omega)
    have vs := fun n => VV_step tg cap c 0 a b n (by omega)
    have hN : ∀ k, k ≠ 44 → k ≠ 45 → N.1 k = M.1 k := hI.1.1
    refine r_iload 30 hX dX0_setChance_28 rfl ?_
    refine r_iload_n 31 hX dX0_setChance_30 rfl ?_
    refine r_Icmp_lt 34 104 hX dX0_setChance_31 (fun c1 => absurd q1 c1) (fun c1 => ?_)
    refine r_iload 36 hX dX0_setChance_34 rfl ?_
    refine r_If_lt 39 104 hX dX0_setChance_36 (fun c2 => absurd q2 c2) (fun c2 => ?_)
    refine r_iload 41 hX dX0_setChance_39 rfl ?_
    refine r_iload 43 hX dX0_setChance_41 rfl ?_
    refine r_iload_n 44 hX dX0_setChance_43 rfl ?_
    refine r_iload 46 hX dX0_setChance_44 rfl ?_
    refine r_cS4F 49 hX hR tX3_wins dX0_setChance_46 kX3_wins lX0_61 rfl rfl rfl ?_
    refine r_Beq 52 65 hX dX0_setChance_49 (fun c3 => ?_) (fun c3 => ?_)
    · refine r_iload 67 hX dX0_setChance_65 rfl ?_
      refine r_iload 69 hX dX0_setChance_67 rfl ?_
      refine r_iload_n 70 hX dX0_setChance_69 rfl ?_
      refine r_iload 72 hX dX0_setChance_70 rfl ?_
      refine r_cS4F 75 hX hR tX3_wins dX0_setChance_72 kX3_wins lX0_61 rfl rfl rfl ?_
      refine r_Beq 78 90 hX dX0_setChance_75 (fun c4 => ?_) (fun c4 => ?_)
      · have k1 : ¬ wnN tg cap a b := fun k => c3 (w1.2 k)
        have k2 : ¬ wnN tg cap b a := fun k => c4 (w2.2 k)
        have k3 : a < cap ∧ b < cap := by unfold wnN at k1 k2; omega
        refine r_aload_n 91 hX dX0_setChance_90 rfl ?_
        refine r_iload 93 hX dX0_setChance_91 rfl ?_
        refine r_iload 95 hX dX0_setChance_93 rfl ?_
        refine r_cV2U 98 hX hR (tX0_reckonScore_0 (a := a) (b := b) (c := c) (x := fun n => VV tg cap c 0 (a + 1) b n) (y := fun n => VV tg cap c 0 a (b + 1) n) (v := fun n => VV tg cap c 0 a b n) (by omega) (by omega) (by rw [hN 39 (by decide) (by decide)]; exact hf) hc (fun n _ => hle _ _ _) (fun n _ => hle _ _ _) (fun n hn => by rw [hN 42 (by decide) (by decide)]; exact hp n hn) (fun n hn => hI.2.1 (by omega) b hpb hb n hn) (fun n hn => by have := hI.2.2 (b + 1) (by omega) (by omega) n hn; rw [show (b + 1) * 12 + n = b * 12 + (12 + n) by omega] at this; exact this) (fun n hn => by rw [vs n, if_neg k1, if_neg k2])) dX0_setChance_95 kX0_reckonScore lX0_72 rfl rfl rfl rfl rfl rfl ?_
        refine r_iinc 101 hX dX0_setChance_98 rfl (v := -1) (by decide) rfl ?_
        refine r_goto 28 hX dX0_setChance_101 ?_
        exact hE
      · refine r_aload_n 79 hX dX0_setChance_78 rfl ?_
        refine r_iload 81 hX dX0_setChance_79 rfl ?_
        refine r_iload 83 hX dX0_setChance_81 rfl ?_
        refine r_iconst 84 hX dX0_setChance_83 (v := 0) (by decide) ?_
        refine r_cV3U 87 hX hR (tX0_fillScore (a := a) (b := b) (by omega) (by omega)) dX0_setChance_84 kX0_fillScore lX0_68 rfl rfl rfl rfl rfl rfl ?_
        rw [fs_fw, show (fun _ : Nat => (0 : Int32)) = (fun n => nI (VV tg cap c 0 a b n)) from funext fun n => by rw [vs n, if_neg (fun k => c3 (w1.2 k)), if_pos (w2.1 c4)]; rfl]
        refine r_goto 98 hX dX0_setChance_87 ?_
        refine r_iinc 101 hX dX0_setChance_98 rfl (v := -1) (by decide) rfl ?_
        refine r_goto 28 hX dX0_setChance_101 ?_
        exact hE
    · refine r_aload_n 53 hX dX0_setChance_52 rfl ?_
      refine r_iload 55 hX dX0_setChance_53 rfl ?_
      refine r_iload 57 hX dX0_setChance_55 rfl ?_
      refine r_ldc 59 hX dX0_setChance_57 qX0_67 ?_
      refine r_cV3U 62 hX hR (tX0_fillScore (a := a) (b := b) (by omega) (by omega)) dX0_setChance_59 kX0_fillScore lX0_68 rfl rfl rfl rfl rfl rfl ?_
      rw [fs_fw, show (fun _ : Nat => (1000000000 : Int32)) = (fun n => nI (VV tg cap c 0 a b n)) from funext fun n => by rw [vs n, if_pos (w1.1 c3)]; rfl]
      refine r_goto 98 hX dX0_setChance_62 ?_
      refine r_iinc 101 hX dX0_setChance_98 rfl (v := -1) (by decide) rfl ?_
      refine r_goto 28 hX dX0_setChance_101 ?_
      exact hE
  have inner : ∀ a, a ≤ cap → (∀ N, scI M tg cap c 0 p1 a p1 N → mx_WW G X 104 [.ref 39, .int (nI p0), .int (nI p1), .int (nI tg), .int (nI cap), .int (nI cap), .int (nI a), .int (nI p1 + (-1))] [] N) → ∀ d N, p1 + d ≤ cap → scI M tg cap c 0 p1 a (p1 + d + 1) N → mx_WW G X 28 [.ref 39, .int (nI p0), .int (nI p1), .int (nI tg), .int (nI cap), .int (nI cap), .int (nI a), .int (nI (p1 + d))] [] N := by
    intro a ha hE d
    induction d with
    | zero =>
      intro N hd hI
      refine body a p1 N ha hd (Nat.le_refl _) hI ?_
      refine r_iload 30 hX dX0_setChance_28 rfl ?_
      refine r_iload_n 31 hX dX0_setChance_30 rfl ?_
      refine r_Icmp_lt 34 104 hX dX0_setChance_31 (fun c1 => ?_) (fun c1 => absurd c1 (nI_below (by omega)))
      exact hE _ (scI_step hI)
    | succ d ih =>
      intro N hd hI
      refine body a (p1 + (d + 1)) N ha hd (by omega) hI ?_
      rw [show nI (p1 + (d + 1)) + (-1) = nI (p1 + d) from nI_dec (p1 + d)]
      exact ih _ (by omega) (scI_step hI)
  have outer : ∀ d N, p0 + d ≤ cap → scI M tg cap c 0 p1 (p0 + d) (cap + 1) N → ∀ v7 : Value, mx_WW G X 13 [.ref 39, .int (nI p0), .int (nI p1), .int (nI tg), .int (nI cap), .int (nI cap), .int (nI (p0 + d)), v7] [] N := by
    intro d
    induction d with
    | zero =>
      intro N hd hI v7
      have q1 : nI p0 ≤ nI (p0 + 0) := (nI_leI (by omega) (by omega)).2 (by omega)
      have q2 : 0 ≤ nI (p0 + 0) := nI_pos' (by omega)
      refine r_iload 15 hX dX0_setChance_13 rfl ?_
      refine r_iload_n 16 hX dX0_setChance_15 rfl ?_
      refine r_Icmp_lt 19 110 hX dX0_setChance_16 (fun c1 => absurd q1 c1) (fun c1 => ?_)
      refine r_iload 21 hX dX0_setChance_19 rfl ?_
      refine r_If_lt 24 110 hX dX0_setChance_21 (fun c2 => absurd q2 c2) (fun c2 => ?_)
      refine r_iload 26 hX dX0_setChance_24 rfl ?_
      refine r_istore 28 hX dX0_setChance_26 rfl ?_
      skip
      have key := inner (p0 + 0) hd ?_ (cap - p1) N (by omega) (by rw [show p1 + (cap - p1) + 1 = cap + 1 by omega]; exact hI)
      · rw [show p1 + (cap - p1) = cap by omega] at key
        exact key
      · intro N2 hI2
        refine r_iinc 107 hX dX0_setChance_104 rfl (v := -1) (by decide) rfl ?_
        refine r_goto 13 hX dX0_setChance_107 ?_
        refine r_iload 15 hX dX0_setChance_13 rfl ?_
        refine r_iload_n 16 hX dX0_setChance_15 rfl ?_
        refine r_Icmp_lt 19 110 hX dX0_setChance_16 (fun c1 => ?_) (fun c1 => absurd c1 (nI_below (by omega)))
        refine r_aload_n 111 hX dX0_setChance_110 rfl ?_
        refine r_iload_n 112 hX dX0_setChance_111 rfl ?_
        refine r_iload_n 113 hX dX0_setChance_112 rfl ?_
        refine r_iconst 114 hX dX0_setChance_113 (v := 0) (by decide) ?_
        refine r_cV3F 117 hX hR (tX0_valueAt (a := p0) (b := p1) (ph := 0) (by omega) (by omega) (by decide)) dX0_setChance_114 kX0_valueAt lX0_76 rfl rfl rfl rfl rfl rfl ?_
        refine r_iret hX hT dX0_setChance_117 ?_
        exact ⟨congrArg (fun v => some (Value.int v)) (hI2.2.2 p1 (Nat.le_refl _) h1 0 (by decide)), hI2⟩
    | succ d ih =>
      intro N hd hI v7
      have q1 : nI p0 ≤ nI (p0 + (d + 1)) := (nI_leI (by omega) (by omega)).2 (by omega)
      have q2 : 0 ≤ nI (p0 + (d + 1)) := nI_pos' (by omega)
      refine r_iload 15 hX dX0_setChance_13 rfl ?_
      refine r_iload_n 16 hX dX0_setChance_15 rfl ?_
      refine r_Icmp_lt 19 110 hX dX0_setChance_16 (fun c1 => absurd q1 c1) (fun c1 => ?_)
      refine r_iload 21 hX dX0_setChance_19 rfl ?_
      refine r_If_lt 24 110 hX dX0_setChance_21 (fun c2 => absurd q2 c2) (fun c2 => ?_)
      refine r_iload 26 hX dX0_setChance_24 rfl ?_
      refine r_istore 28 hX dX0_setChance_26 rfl ?_
      skip
      have key := inner (p0 + (d + 1)) hd ?_ (cap - p1) N (by omega) (by rw [show p1 + (cap - p1) + 1 = cap + 1 by omega]; exact hI)
      · rw [show p1 + (cap - p1) = cap by omega] at key
        exact key
      · intro N2 hI2
        refine r_iinc 107 hX dX0_setChance_104 rfl (v := -1) (by decide) rfl ?_
        refine r_goto 13 hX dX0_setChance_107 ?_
        skip
        rw [show nI (p0 + (d + 1)) + (-1) = nI (p0 + d) from nI_dec (p0 + d)]
        exact ih N2 (by omega) (scI_down hI2) _
  refine r_iload 2 hX dX0_setChance_0 rfl ?_
  refine r_bipush 4 hX dX0_setChance_2 (v := 30) (by decide) ?_
  refine r_mmin 7 hX hR dX0_setChance_4 lX0_51 rfl rfl rfl ?_
  rw [gm]
  refine r_istore 9 hX dX0_setChance_7 rfl ?_
  refine r_iload 11 hX dX0_setChance_9 rfl ?_
  refine r_istore 13 hX dX0_setChance_11 rfl ?_
  skip
  have key := outer (cap - p0) M (by omega) ⟨⟨fun _ _ _ => rfl, rfl⟩, fun e => by omega, fun b h1 h2 => by omega⟩ .null
  rw [show p0 + (cap - p0) = cap by omega] at key
  exact key
set_option maxRecDepth 100000 in
set_option maxHeartbeats 4000000 in
theorem tX0_setChance_1 {l : Launch} {G : mx_G} {p0 p1 tg cap : Nat} (c : Nat → Nat) {M : mx_Mem} (h0 : p0 ≤ cap) (h1 : p1 ≤ cap) (ht : tg ≤ 100) (hcap : cap ≤ 30) (hf : M.1 39 4 = 1) (hc : ∀ n, c n ≤ 1000) (hp : ∀ n, n < 12 → M.1 42 n = nI (c n)) : mx_Met l G yX0_setChance cX0_setChance 8 ((some FieldType.int)) 1 35 [.ref 39, .int (nI p0), .int (nI p1), .int (nI tg), .int (nI cap)] M ((scP M tg cap c 1 p0 p1)) := by
  refine mx_enter (own := RX0) (L := [.ref 39, .int (nI p0), .int (nI p1), .int (nI tg), .int (nI cap), .null, .null, .null]) (by decide +kernel) rfl rfl rfl ?_
  intro X hlX hX hR hT
  have hle : ∀ a b ph, VV tg cap c 1 a b ph ≤ 1000000000 := fun a b ph => vF_le tg cap c 1 hc _ _ _ _
  have gm : (if nI cap ≤ 30 then nI cap else 30) = nI cap := if_pos (nI_le (b := 30) hcap (by decide))
  have body : ∀ a b N, a ≤ cap → b ≤ cap → p1 ≤ b → scI M tg cap c 1 p1 a (b + 1) N → mx_WW G X 28 [.ref 39, .int (nI p0), .int (nI p1), .int (nI tg), .int (nI cap), .int (nI cap), .int (nI a), .int (nI b + (-1))] [] (fwM N (44 + a % 2) (b * 12) (fun n => nI (VV tg cap c 1 a b n)) 12) → mx_WW G X 28 [.ref 39, .int (nI p0), .int (nI p1), .int (nI tg), .int (nI cap), .int (nI cap), .int (nI a), .int (nI b)] [] N := by
    intro a b N ha hb hpb hI hE
    have q1 : nI p1 ≤ nI b := (nI_leI (by omega) (by omega)).2 hpb
    have q2 : 0 ≤ nI b := nI_pos' (by omega)
    have w1 := wn_iff (tg := tg) (cap := cap) (a := a) (b := b) ht (by omega) (by omega) (by omega)
    have w2 := wn_iff (tg := tg) (cap := cap) (a := b) (b := a) ht (by omega) (by omega) (by omega)
    have vs := fun n => VV_step tg cap c 1 a b n (by omega)
    have hN : ∀ k, k ≠ 44 → k ≠ 45 → N.1 k = M.1 k := hI.1.1
    refine r_iload 30 hX dX0_setChance_28 rfl ?_
    refine r_iload_n 31 hX dX0_setChance_30 rfl ?_
    refine r_Icmp_lt 34 104 hX dX0_setChance_31 (fun c1 => absurd q1 c1) (fun c1 => ?_)
    refine r_iload 36 hX dX0_setChance_34 rfl ?_
    refine r_If_lt 39 104 hX dX0_setChance_36 (fun c2 => absurd q2 c2) (fun c2 => ?_)
    refine r_iload 41 hX dX0_setChance_39 rfl ?_
    refine r_iload 43 hX dX0_setChance_41 rfl ?_
    refine r_iload_n 44 hX dX0_setChance_43 rfl ?_
    refine r_iload 46 hX dX0_setChance_44 rfl ?_
    refine r_cS4F 49 hX hR tX3_wins dX0_setChance_46 kX3_wins lX0_61 rfl rfl rfl ?_
    refine r_Beq 52 65 hX dX0_setChance_49 (fun c3 => ?_) (fun c3 => ?_)
    · refine r_iload 67 hX dX0_setChance_65 rfl ?_
      refine r_iload 69 hX dX0_setChance_67 rfl ?_
      refine r_iload_n 70 hX dX0_setChance_69 rfl ?_
      refine r_iload 72 hX dX0_setChance_70 rfl ?_
      refine r_cS4F 75 hX hR tX3_wins dX0_setChance_72 kX3_wins lX0_61 rfl rfl rfl ?_
      refine r_Beq 78 90 hX dX0_setChance_75 (fun c4 => ?_) (fun c4 => ?_)
      · have k1 : ¬ wnN tg cap a b := fun k => c3 (w1.2 k)
        have k2 : ¬ wnN tg cap b a := fun k => c4 (w2.2 k)
        have k3 : a < cap ∧ b < cap := by unfold wnN at k1 k2; omega
        refine r_aload_n 91 hX dX0_setChance_90 rfl ?_
        refine r_iload 93 hX dX0_setChance_91 rfl ?_
        refine r_iload 95 hX dX0_setChance_93 rfl ?_
        refine r_cV2U 98 hX hR (tX0_reckonScore_1 (a := a) (b := b) (c := c) (x := fun n => VV tg cap c 1 (a + 1) b n) (y := fun n => VV tg cap c 1 a (b + 1) n) (v := fun n => VV tg cap c 1 a b n) (by omega) (by omega) (by rw [hN 39 (by decide) (by decide)]; exact hf) hc (fun n _ => hle _ _ _) (fun n _ => hle _ _ _) (fun n hn => by rw [hN 42 (by decide) (by decide)]; exact hp n hn) (fun n hn => hI.2.1 (by omega) b hpb hb n hn) (fun n hn => by have := hI.2.2 (b + 1) (by omega) (by omega) n hn; rw [show (b + 1) * 12 + n = b * 12 + (12 + n) by omega] at this; exact this) (fun n hn => by rw [vs n, if_neg k1, if_neg k2])) dX0_setChance_95 kX0_reckonScore lX0_72 rfl rfl rfl rfl rfl rfl ?_
        refine r_iinc 101 hX dX0_setChance_98 rfl (v := -1) (by decide) rfl ?_
        refine r_goto 28 hX dX0_setChance_101 ?_
        exact hE
      · refine r_aload_n 79 hX dX0_setChance_78 rfl ?_
        refine r_iload 81 hX dX0_setChance_79 rfl ?_
        refine r_iload 83 hX dX0_setChance_81 rfl ?_
        refine r_iconst 84 hX dX0_setChance_83 (v := 0) (by decide) ?_
        refine r_cV3U 87 hX hR (tX0_fillScore (a := a) (b := b) (by omega) (by omega)) dX0_setChance_84 kX0_fillScore lX0_68 rfl rfl rfl rfl rfl rfl ?_
        rw [fs_fw, show (fun _ : Nat => (0 : Int32)) = (fun n => nI (VV tg cap c 1 a b n)) from funext fun n => by rw [vs n, if_neg (fun k => c3 (w1.2 k)), if_pos (w2.1 c4)]; rfl]
        refine r_goto 98 hX dX0_setChance_87 ?_
        refine r_iinc 101 hX dX0_setChance_98 rfl (v := -1) (by decide) rfl ?_
        refine r_goto 28 hX dX0_setChance_101 ?_
        exact hE
    · refine r_aload_n 53 hX dX0_setChance_52 rfl ?_
      refine r_iload 55 hX dX0_setChance_53 rfl ?_
      refine r_iload 57 hX dX0_setChance_55 rfl ?_
      refine r_ldc 59 hX dX0_setChance_57 qX0_67 ?_
      refine r_cV3U 62 hX hR (tX0_fillScore (a := a) (b := b) (by omega) (by omega)) dX0_setChance_59 kX0_fillScore lX0_68 rfl rfl rfl rfl rfl rfl ?_
      rw [fs_fw, show (fun _ : Nat => (1000000000 : Int32)) = (fun n => nI (VV tg cap c 1 a b n)) from funext fun n => by rw [vs n, if_pos (w1.1 c3)]; rfl]
      refine r_goto 98 hX dX0_setChance_62 ?_
      refine r_iinc 101 hX dX0_setChance_98 rfl (v := -1) (by decide) rfl ?_
      refine r_goto 28 hX dX0_setChance_101 ?_
      exact hE
  have inner : ∀ a, a ≤ cap → (∀ N, scI M tg cap c 1 p1 a p1 N → mx_WW G X 104 [.ref 39, .int (nI p0), .int (nI p1), .int (nI tg), .int (nI cap), .int (nI cap), .int (nI a), .int (nI p1 + (-1))] [] N) → ∀ d N, p1 + d ≤ cap → scI M tg cap c 1 p1 a (p1 + d + 1) N → mx_WW G X 28 [.ref 39, .int (nI p0), .int (nI p1), .int (nI tg), .int (nI cap), .int (nI cap), .int (nI a), .int (nI (p1 + d))] [] N := by
    intro a ha hE d
    induction d with
    | zero =>
      intro N hd hI
      refine body a p1 N ha hd (Nat.le_refl _) hI ?_
      refine r_iload 30 hX dX0_setChance_28 rfl ?_
      refine r_iload_n 31 hX dX0_setChance_30 rfl ?_
      refine r_Icmp_lt 34 104 hX dX0_setChance_31 (fun c1 => ?_) (fun c1 => absurd c1 (nI_below (by omega)))
      exact hE _ (scI_step hI)
    | succ d ih =>
      intro N hd hI
      refine body a (p1 + (d + 1)) N ha hd (by omega) hI ?_
      rw [show nI (p1 + (d + 1)) + (-1) = nI (p1 + d) from nI_dec (p1 + d)]
      exact ih _ (by omega) (scI_step hI)
  have outer : ∀ d N, p0 + d ≤ cap → scI M tg cap c 1 p1 (p0 + d) (cap + 1) N → ∀ v7 : Value, mx_WW G X 13 [.ref 39, .int (nI p0), .int (nI p1), .int (nI tg), .int (nI cap), .int (nI cap), .int (nI (p0 + d)), v7] [] N := by
    intro d
    induction d with
    | zero =>
      intro N hd hI v7
      have q1 : nI p0 ≤ nI (p0 + 0) := (nI_leI (by omega) (by omega)).2 (by omega)
      have q2 : 0 ≤ nI (p0 + 0) := nI_pos' (by omega)
      refine r_iload 15 hX dX0_setChance_13 rfl ?_
      refine r_iload_n 16 hX dX0_setChance_15 rfl ?_
      refine r_Icmp_lt 19 110 hX dX0_setChance_16 (fun c1 => absurd q1 c1) (fun c1 => ?_)
      refine r_iload 21 hX dX0_setChance_19 rfl ?_
      refine r_If_lt 24 110 hX dX0_setChance_21 (fun c2 => absurd q2 c2) (fun c2 => ?_)
      refine r_iload 26 hX dX0_setChance_24 rfl ?_
      refine r_istore 28 hX dX0_setChance_26 rfl ?_
      skip
      have key := inner (p0 + 0) hd ?_ (cap - p1) N (by omega) (by rw [show p1 + (cap - p1) + 1 = cap + 1 by omega]; exact hI)
      · rw [show p1 + (cap - p1) = cap by omega] at key
        exact key
      · intro N2 hI2
        refine r_iinc 107 hX dX0_setChance_104 rfl (v := -1) (by decide) rfl ?_
        refine r_goto 13 hX dX0_setChance_107 ?_
        refine r_iload 15 hX dX0_setChance_13 rfl ?_
        refine r_iload_n 16 hX dX0_setChance_15 rfl ?_
        refine r_Icmp_lt 19 110 hX dX0_setChance_16 (fun c1 => ?_) (fun c1 => absurd c1 (nI_below (by omega)))
        refine r_aload_n 111 hX dX0_setChance_110 rfl ?_
        refine r_iload_n 112 hX dX0_setChance_111 rfl ?_
        refine r_iload_n 113 hX dX0_setChance_112 rfl ?_
        refine r_iconst 114 hX dX0_setChance_113 (v := 0) (by decide) ?_
        refine r_cV3F 117 hX hR (tX0_valueAt (a := p0) (b := p1) (ph := 0) (by omega) (by omega) (by decide)) dX0_setChance_114 kX0_valueAt lX0_76 rfl rfl rfl rfl rfl rfl ?_
        refine r_iret hX hT dX0_setChance_117 ?_
        exact ⟨congrArg (fun v => some (Value.int v)) (hI2.2.2 p1 (Nat.le_refl _) h1 0 (by decide)), hI2⟩
    | succ d ih =>
      intro N hd hI v7
      have q1 : nI p0 ≤ nI (p0 + (d + 1)) := (nI_leI (by omega) (by omega)).2 (by omega)
      have q2 : 0 ≤ nI (p0 + (d + 1)) := nI_pos' (by omega)
      refine r_iload 15 hX dX0_setChance_13 rfl ?_
      refine r_iload_n 16 hX dX0_setChance_15 rfl ?_
      refine r_Icmp_lt 19 110 hX dX0_setChance_16 (fun c1 => absurd q1 c1) (fun c1 => ?_)
      refine r_iload 21 hX dX0_setChance_19 rfl ?_
      refine r_If_lt 24 110 hX dX0_setChance_21 (fun c2 => absurd q2 c2) (fun c2 => ?_)
      refine r_iload 26 hX dX0_setChance_24 rfl ?_
      refine r_istore 28 hX dX0_setChance_26 rfl ?_
      skip
      have key := inner (p0 + (d + 1)) hd ?_ (cap - p1) N (by omega) (by rw [show p1 + (cap - p1) + 1 = cap + 1 by omega]; exact hI)
      · rw [show p1 + (cap - p1) = cap by omega] at key
        exact key
      · intro N2 hI2
        refine r_iinc 107 hX dX0_setChance_104 rfl (v := -1) (by decide) rfl ?_
        refine r_goto 13 hX dX0_setChance_107 ?_
        skip
        rw [show nI (p0 + (d + 1)) + (-1) = nI (p0 + d) from nI_dec (p0 + d)]
        exact ih N2 (by omega) (scI_down hI2) _
  refine r_iload 2 hX dX0_setChance_0 rfl ?_
  refine r_bipush 4 hX dX0_setChance_2 (v := 30) (by decide) ?_
  refine r_mmin 7 hX hR dX0_setChance_4 lX0_51 rfl rfl rfl ?_
  rw [gm]
  refine r_istore 9 hX dX0_setChance_7 rfl ?_
  refine r_iload 11 hX dX0_setChance_9 rfl ?_
  refine r_istore 13 hX dX0_setChance_11 rfl ?_
  skip
  have key := outer (cap - p0) M (by omega) ⟨⟨fun _ _ _ => rfl, rfl⟩, fun e => by omega, fun b h1 h2 => by omega⟩ .null
  rw [show p0 + (cap - p0) = cap by omega] at key
  exact key

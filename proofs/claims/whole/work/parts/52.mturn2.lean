/-! chances of the model: turn_ -/
theorem frM_mI {M N : mx_Mem} (h : frM M N) (j : Nat) (v : Int32) : frM (mI M 46 j v) (mI N 46 j v) := by
  refine ⟨fun k h1 h2 => ?_, fun k hk => ?_⟩
  · funext j'
    have := congrFun (h.1 k h1 h2) j'
    rw [mI_ap, mI_ap, this]
  · have := h.2 k hk
    simpa [mI, mR] using this
theorem uF_congr {tg cap : Nat} {od od' : Nat → Nat → Nat → Nat} (h0 : ∀ i j, od 0 i j = od' 0 i j) (h1 : ∀ i j, od 1 i j = od' 1 i j) : ∀ k a b s i j, uF tg cap od k a b s i j = uF tg cap od' k a b s i j
  | 0, _, _, _, _, _ => rfl
  | k + 1, a, b, s, i, j => by
    rw [uF, uF, h0, h1, uF_congr h0 h1 k, uF_congr h0 h1 k, uF_congr h0 h1 k, uF_congr h0 h1 k]
theorem UU_congr {tg cap : Nat} {M N : mx_Mem} (h1 : N.1 47 = M.1 47) (h2 : ∀ k, k < 12 → N.1 58 k = M.1 58 k) (a b s i j : Nat) : UU tg cap (moN N) a b s i j = UU tg cap (moN M) a b s i j :=
  uF_congr (fun i j => moN_congr h1 h2 0 (by decide) i j) (fun i j => moN_congr h1 h2 1 (by decide) i j) _ a b s i j
theorem UU_le (tg cap : Nat) (M : mx_Mem) (a b s i j : Nat) : UU tg cap (moN M) a b s i j ≤ 1000000000 := uF_le tg cap (moN M) (fun s i j => (moN_e M s i j).2) _ a b s i j
theorem nx_all (N : mx_Mem) (a b : Nat) : ∀ k, k < 12 → (nxM N a b).1 58 k = if k < 6 then N.1 50 ((k + a) % 6) else N.1 50 (6 + (k - 6 + b) % 6) := by
  intro k hk
  by_cases e : k < 6
  · rw [if_pos e, (nx_58 N a b k e).1]
  · have := (nx_58 N a b (k - 6) (by omega)).2
    rw [show 6 + (k - 6) = k by omega] at this
    rw [if_neg e, this]
theorem nx_congr {M N : mx_Mem} (h : frM M N) (a b : Nat) : ∀ k, k < 12 → (nxM N a b).1 58 k = (nxM M a b).1 58 k := by
  intro k hk
  rw [nx_all N a b k hk, nx_all M a b k hk, h.1 50 (by decide) (by decide)]
theorem tul_0_0 {G : mx_G} {X : mx_X} {N : mx_Mem} {f : Int32} {a3 l4 : Value} {r : Nat} (g : Nat → Int32) (hg : ∀ j, N.1 50 j = g j) (hr : r < 6) (hX : mx_OK G X RX8 cX8_turn_ 9) (hE : mx_WW G X 129 [.ref 46, .int 0, .int f, a3, l4, .null, .int (nI r), .int 0, .int 6] [] (fwM N 58 0 (fun y => g ((y + r) % 6)) 6)) : mx_WW G X 73 [.ref 46, .int 0, .int f, a3, l4, .null, .int (nI r), .int 0, .int (nI 0)] [] N := by
  refine mx_back (P := fun i => mx_WW G X 73 [.ref 46, .int 0, .int f, a3, l4, .null, .int (nI r), .int 0, .int (nI i)] [] (fwM N 58 0 (fun y => g ((y + r) % 6)) i)) 6 (fun i hi ih => ?_) ?_
  · show mx_WW G X 73 [.ref 46, .int 0, .int f, a3, l4, .null, .int (nI r), .int 0, .int (nI i)] [] (fwM N 58 0 (fun y => g ((y + r) % 6)) i)
    have g1 : ¬ 6 ≤ nI i := nI_ge (b := 6) hi (by decide)
    have ev : ∀ j, (fwM N 58 0 (fun y => g ((y + r) % 6)) i).1 50 j = g j := fun j => by rw [fwM_ne _ _ (by decide)]; exact hg j
    have ez : (i + 0) % 6 = i := by omega
    have i2 : mx_WW G X 73 [.ref 46, .int 0, .int f, a3, l4, .null, .int (nI r), .int 0, .int (nI i + 1)] [] (mI (fwM N 58 0 (fun y => g ((y + r) % 6)) i) 58 (0 + i) (g ((i + r) % 6))) := by rw [nI_1]; exact ih
    generalize fwM N 58 0 (fun y => g ((y + r) % 6)) i = N1 at ev i2 ⊢
    refine r_iload 75 hX dX8_turn__73 rfl ?_
    refine r_bipush 77 hX dX8_turn__75 (v := 6) (by decide) ?_
    refine r_icmp_ge 80 129 hX dX8_turn__77 (fun c1 => absurd c1 g1) (fun c1 => ?_)
    refine r_aload_n 81 hX dX8_turn__80 rfl ?_
    refine r_getR 84 hX dX8_turn__81 fX8_45 rfl rfl rfl ?_
    refine r_bipush 86 hX dX8_turn__84 (v := 6) (by decide) ?_
    refine r_iload 88 hX dX8_turn__86 rfl ?_
    refine r_imulK 89 hX dX8_turn__88 (w := 0) (by decide) ?_
    refine r_iload 91 hX dX8_turn__89 rfl ?_
    refine r_iadd 92 hX dX8_turn__91 ?_
    refine mx_top (show (0 : Int32) + nI i = nI (0 + i) from nI_add 0 i) ?_
    refine r_aload_n 93 hX dX8_turn__92 rfl ?_
    refine r_getR 96 hX dX8_turn__93 fX8_19 rfl rfl rfl ?_
    refine r_bipush 98 hX dX8_turn__96 (v := 6) (by decide) ?_
    refine r_iload 100 hX dX8_turn__98 rfl ?_
    refine r_imulK 101 hX dX8_turn__100 (w := 0) (by decide) ?_
    refine r_iload 103 hX dX8_turn__101 rfl ?_
    refine r_iload_n 104 hX dX8_turn__103 rfl ?_
    refine r_icmp_ne 107 118 hX dX8_turn__104 (fun c => absurd c (by decide)) (fun _ => ?_)
    refine r_iload 109 hX dX8_turn__107 rfl ?_
    refine r_iload 111 hX dX8_turn__109 rfl ?_
    refine r_iadd 112 hX dX8_turn__111 ?_
    rw [nI_add]
    refine r_bipush 114 hX dX8_turn__112 (v := 6) (by decide) ?_
    refine r_irem 115 hX dX8_turn__114 (by decide) ?_
    rw [mx_r6 (i + r) (by omega)]
    refine r_goto 120 hX dX8_turn__115 ?_
    refine r_iadd 121 hX dX8_turn__120 ?_
    refine mx_top (show (0 : Int32) + nI ((i + r) % 6) = nI (0 + (i + r) % 6) from nI_add 0 _) ?_
    refine r_ialdV 122 hX dX8_turn__121 rfl rfl (vp_in_nI (show 0 + (i + r) % 6 < 12 by omega) (by decide)) (nI_clamp (by omega)) (v := g ((i + r) % 6)) (by rw [ev]; rw [Nat.zero_add]) ?_
    refine r_iastK 123 hX dX8_turn__122 rfl rfl (vp_in_nI (show 0 + i < 12 by omega) (by decide)) (j := 0 + i) (nI_clamp (by omega)) ?_
    refine r_iinc 126 hX dX8_turn__123 rfl (v := 1) (by decide) rfl ?_
    refine r_goto 73 hX dX8_turn__126 ?_
    exact i2
  · show mx_WW G X 73 [.ref 46, .int 0, .int f, a3, l4, .null, .int (nI r), .int 0, .int 6] [] (fwM N 58 0 (fun y => g ((y + r) % 6)) 6)
    refine r_iload 75 hX dX8_turn__73 rfl ?_
    refine r_bipush 77 hX dX8_turn__75 (v := 6) (by decide) ?_
    refine r_icmp_ge 80 129 hX dX8_turn__77 (fun _ => ?_) (fun c => absurd c (by decide))
    exact hE
theorem tul_1_0 {G : mx_G} {X : mx_X} {N : mx_Mem} {f : Int32} {a3 l4 : Value} {r : Nat} (g : Nat → Int32) (hg : ∀ j, N.1 50 j = g j) (hr : r < 6) (hX : mx_OK G X RX8 cX8_turn_ 9) (hE : mx_WW G X 129 [.ref 46, .int 1, .int f, a3, l4, .null, .int (nI r), .int 0, .int 6] [] (fwM N 58 0 (fun y => g ((y + 0) % 6)) 6)) : mx_WW G X 73 [.ref 46, .int 1, .int f, a3, l4, .null, .int (nI r), .int 0, .int (nI 0)] [] N := by
  refine mx_back (P := fun i => mx_WW G X 73 [.ref 46, .int 1, .int f, a3, l4, .null, .int (nI r), .int 0, .int (nI i)] [] (fwM N 58 0 (fun y => g ((y + 0) % 6)) i)) 6 (fun i hi ih => ?_) ?_
  · show mx_WW G X 73 [.ref 46, .int 1, .int f, a3, l4, .null, .int (nI r), .int 0, .int (nI i)] [] (fwM N 58 0 (fun y => g ((y + 0) % 6)) i)
    have g1 : ¬ 6 ≤ nI i := nI_ge (b := 6) hi (by decide)
    have ev : ∀ j, (fwM N 58 0 (fun y => g ((y + 0) % 6)) i).1 50 j = g j := fun j => by rw [fwM_ne _ _ (by decide)]; exact hg j
    have ez : (i + 0) % 6 = i := by omega
    have i2 : mx_WW G X 73 [.ref 46, .int 1, .int f, a3, l4, .null, .int (nI r), .int 0, .int (nI i + 1)] [] (mI (fwM N 58 0 (fun y => g ((y + 0) % 6)) i) 58 (0 + i) (g ((i + 0) % 6))) := by rw [nI_1]; exact ih
    generalize fwM N 58 0 (fun y => g ((y + 0) % 6)) i = N1 at ev i2 ⊢
    refine r_iload 75 hX dX8_turn__73 rfl ?_
    refine r_bipush 77 hX dX8_turn__75 (v := 6) (by decide) ?_
    refine r_icmp_ge 80 129 hX dX8_turn__77 (fun c1 => absurd c1 g1) (fun c1 => ?_)
    refine r_aload_n 81 hX dX8_turn__80 rfl ?_
    refine r_getR 84 hX dX8_turn__81 fX8_45 rfl rfl rfl ?_
    refine r_bipush 86 hX dX8_turn__84 (v := 6) (by decide) ?_
    refine r_iload 88 hX dX8_turn__86 rfl ?_
    refine r_imulK 89 hX dX8_turn__88 (w := 0) (by decide) ?_
    refine r_iload 91 hX dX8_turn__89 rfl ?_
    refine r_iadd 92 hX dX8_turn__91 ?_
    refine mx_top (show (0 : Int32) + nI i = nI (0 + i) from nI_add 0 i) ?_
    refine r_aload_n 93 hX dX8_turn__92 rfl ?_
    refine r_getR 96 hX dX8_turn__93 fX8_19 rfl rfl rfl ?_
    refine r_bipush 98 hX dX8_turn__96 (v := 6) (by decide) ?_
    refine r_iload 100 hX dX8_turn__98 rfl ?_
    refine r_imulK 101 hX dX8_turn__100 (w := 0) (by decide) ?_
    refine r_iload 103 hX dX8_turn__101 rfl ?_
    refine r_iload_n 104 hX dX8_turn__103 rfl ?_
    refine r_icmp_ne 107 118 hX dX8_turn__104 (fun _ => ?_) (fun c => absurd c (by decide))
    refine r_iload 120 hX dX8_turn__118 rfl ?_
    refine r_iadd 121 hX dX8_turn__120 ?_
    refine mx_top (show (0 : Int32) + nI (i) = nI (0 + i) from nI_add 0 _) ?_
    refine r_ialdV 122 hX dX8_turn__121 rfl rfl (vp_in_nI (show 0 + i < 12 by omega) (by decide)) (nI_clamp (by omega)) (v := g ((i + 0) % 6)) (by rw [ev]; rw [ez, Nat.zero_add]) ?_
    refine r_iastK 123 hX dX8_turn__122 rfl rfl (vp_in_nI (show 0 + i < 12 by omega) (by decide)) (j := 0 + i) (nI_clamp (by omega)) ?_
    refine r_iinc 126 hX dX8_turn__123 rfl (v := 1) (by decide) rfl ?_
    refine r_goto 73 hX dX8_turn__126 ?_
    exact i2
  · show mx_WW G X 73 [.ref 46, .int 1, .int f, a3, l4, .null, .int (nI r), .int 0, .int 6] [] (fwM N 58 0 (fun y => g ((y + 0) % 6)) 6)
    refine r_iload 75 hX dX8_turn__73 rfl ?_
    refine r_bipush 77 hX dX8_turn__75 (v := 6) (by decide) ?_
    refine r_icmp_ge 80 129 hX dX8_turn__77 (fun _ => ?_) (fun c => absurd c (by decide))
    exact hE
theorem tul_0_1 {G : mx_G} {X : mx_X} {N : mx_Mem} {f : Int32} {a3 l4 : Value} {r : Nat} (g : Nat → Int32) (hg : ∀ j, N.1 50 j = g j) (hr : r < 6) (hX : mx_OK G X RX8 cX8_turn_ 9) (hE : mx_WW G X 129 [.ref 46, .int 0, .int f, a3, l4, .null, .int (nI r), .int 1, .int 6] [] (fwM N 58 6 (fun y => g (6 + (y + 0) % 6)) 6)) : mx_WW G X 73 [.ref 46, .int 0, .int f, a3, l4, .null, .int (nI r), .int 1, .int (nI 0)] [] N := by
  refine mx_back (P := fun i => mx_WW G X 73 [.ref 46, .int 0, .int f, a3, l4, .null, .int (nI r), .int 1, .int (nI i)] [] (fwM N 58 6 (fun y => g (6 + (y + 0) % 6)) i)) 6 (fun i hi ih => ?_) ?_
  · show mx_WW G X 73 [.ref 46, .int 0, .int f, a3, l4, .null, .int (nI r), .int 1, .int (nI i)] [] (fwM N 58 6 (fun y => g (6 + (y + 0) % 6)) i)
    have g1 : ¬ 6 ≤ nI i := nI_ge (b := 6) hi (by decide)
    have ev : ∀ j, (fwM N 58 6 (fun y => g (6 + (y + 0) % 6)) i).1 50 j = g j := fun j => by rw [fwM_ne _ _ (by decide)]; exact hg j
    have ez : (i + 0) % 6 = i := by omega
    have i2 : mx_WW G X 73 [.ref 46, .int 0, .int f, a3, l4, .null, .int (nI r), .int 1, .int (nI i + 1)] [] (mI (fwM N 58 6 (fun y => g (6 + (y + 0) % 6)) i) 58 (6 + i) (g (6 + (i + 0) % 6))) := by rw [nI_1]; exact ih
    generalize fwM N 58 6 (fun y => g (6 + (y + 0) % 6)) i = N1 at ev i2 ⊢
    refine r_iload 75 hX dX8_turn__73 rfl ?_
    refine r_bipush 77 hX dX8_turn__75 (v := 6) (by decide) ?_
    refine r_icmp_ge 80 129 hX dX8_turn__77 (fun c1 => absurd c1 g1) (fun c1 => ?_)
    refine r_aload_n 81 hX dX8_turn__80 rfl ?_
    refine r_getR 84 hX dX8_turn__81 fX8_45 rfl rfl rfl ?_
    refine r_bipush 86 hX dX8_turn__84 (v := 6) (by decide) ?_
    refine r_iload 88 hX dX8_turn__86 rfl ?_
    refine r_imulK 89 hX dX8_turn__88 (w := 6) (by decide) ?_
    refine r_iload 91 hX dX8_turn__89 rfl ?_
    refine r_iadd 92 hX dX8_turn__91 ?_
    refine mx_top (show (6 : Int32) + nI i = nI (6 + i) from nI_add 6 i) ?_
    refine r_aload_n 93 hX dX8_turn__92 rfl ?_
    refine r_getR 96 hX dX8_turn__93 fX8_19 rfl rfl rfl ?_
    refine r_bipush 98 hX dX8_turn__96 (v := 6) (by decide) ?_
    refine r_iload 100 hX dX8_turn__98 rfl ?_
    refine r_imulK 101 hX dX8_turn__100 (w := 6) (by decide) ?_
    refine r_iload 103 hX dX8_turn__101 rfl ?_
    refine r_iload_n 104 hX dX8_turn__103 rfl ?_
    refine r_icmp_ne 107 118 hX dX8_turn__104 (fun _ => ?_) (fun c => absurd c (by decide))
    refine r_iload 120 hX dX8_turn__118 rfl ?_
    refine r_iadd 121 hX dX8_turn__120 ?_
    refine mx_top (show (6 : Int32) + nI (i) = nI (6 + i) from nI_add 6 _) ?_
    refine r_ialdV 122 hX dX8_turn__121 rfl rfl (vp_in_nI (show 6 + i < 12 by omega) (by decide)) (nI_clamp (by omega)) (v := g (6 + (i + 0) % 6)) (by rw [ev]; rw [ez]) ?_
    refine r_iastK 123 hX dX8_turn__122 rfl rfl (vp_in_nI (show 6 + i < 12 by omega) (by decide)) (j := 6 + i) (nI_clamp (by omega)) ?_
    refine r_iinc 126 hX dX8_turn__123 rfl (v := 1) (by decide) rfl ?_
    refine r_goto 73 hX dX8_turn__126 ?_
    exact i2
  · show mx_WW G X 73 [.ref 46, .int 0, .int f, a3, l4, .null, .int (nI r), .int 1, .int 6] [] (fwM N 58 6 (fun y => g (6 + (y + 0) % 6)) 6)
    refine r_iload 75 hX dX8_turn__73 rfl ?_
    refine r_bipush 77 hX dX8_turn__75 (v := 6) (by decide) ?_
    refine r_icmp_ge 80 129 hX dX8_turn__77 (fun _ => ?_) (fun c => absurd c (by decide))
    exact hE
theorem tul_1_1 {G : mx_G} {X : mx_X} {N : mx_Mem} {f : Int32} {a3 l4 : Value} {r : Nat} (g : Nat → Int32) (hg : ∀ j, N.1 50 j = g j) (hr : r < 6) (hX : mx_OK G X RX8 cX8_turn_ 9) (hE : mx_WW G X 129 [.ref 46, .int 1, .int f, a3, l4, .null, .int (nI r), .int 1, .int 6] [] (fwM N 58 6 (fun y => g (6 + (y + r) % 6)) 6)) : mx_WW G X 73 [.ref 46, .int 1, .int f, a3, l4, .null, .int (nI r), .int 1, .int (nI 0)] [] N := by
  refine mx_back (P := fun i => mx_WW G X 73 [.ref 46, .int 1, .int f, a3, l4, .null, .int (nI r), .int 1, .int (nI i)] [] (fwM N 58 6 (fun y => g (6 + (y + r) % 6)) i)) 6 (fun i hi ih => ?_) ?_
  · show mx_WW G X 73 [.ref 46, .int 1, .int f, a3, l4, .null, .int (nI r), .int 1, .int (nI i)] [] (fwM N 58 6 (fun y => g (6 + (y + r) % 6)) i)
    have g1 : ¬ 6 ≤ nI i := nI_ge (b := 6) hi (by decide)
    have ev : ∀ j, (fwM N 58 6 (fun y => g (6 + (y + r) % 6)) i).1 50 j = g j := fun j => by rw [fwM_ne _ _ (by decide)]; exact hg j
    have ez : (i + 0) % 6 = i := by omega
    have i2 : mx_WW G X 73 [.ref 46, .int 1, .int f, a3, l4, .null, .int (nI r), .int 1, .int (nI i + 1)] [] (mI (fwM N 58 6 (fun y => g (6 + (y + r) % 6)) i) 58 (6 + i) (g (6 + (i + r) % 6))) := by rw [nI_1]; exact ih
    generalize fwM N 58 6 (fun y => g (6 + (y + r) % 6)) i = N1 at ev i2 ⊢
    refine r_iload 75 hX dX8_turn__73 rfl ?_
    refine r_bipush 77 hX dX8_turn__75 (v := 6) (by decide) ?_
    refine r_icmp_ge 80 129 hX dX8_turn__77 (fun c1 => absurd c1 g1) (fun c1 => ?_)
    refine r_aload_n 81 hX dX8_turn__80 rfl ?_
    refine r_getR 84 hX dX8_turn__81 fX8_45 rfl rfl rfl ?_
    refine r_bipush 86 hX dX8_turn__84 (v := 6) (by decide) ?_
    refine r_iload 88 hX dX8_turn__86 rfl ?_
    refine r_imulK 89 hX dX8_turn__88 (w := 6) (by decide) ?_
    refine r_iload 91 hX dX8_turn__89 rfl ?_
    refine r_iadd 92 hX dX8_turn__91 ?_
    refine mx_top (show (6 : Int32) + nI i = nI (6 + i) from nI_add 6 i) ?_
    refine r_aload_n 93 hX dX8_turn__92 rfl ?_
    refine r_getR 96 hX dX8_turn__93 fX8_19 rfl rfl rfl ?_
    refine r_bipush 98 hX dX8_turn__96 (v := 6) (by decide) ?_
    refine r_iload 100 hX dX8_turn__98 rfl ?_
    refine r_imulK 101 hX dX8_turn__100 (w := 6) (by decide) ?_
    refine r_iload 103 hX dX8_turn__101 rfl ?_
    refine r_iload_n 104 hX dX8_turn__103 rfl ?_
    refine r_icmp_ne 107 118 hX dX8_turn__104 (fun c => absurd c (by decide)) (fun _ => ?_)
    refine r_iload 109 hX dX8_turn__107 rfl ?_
    refine r_iload 111 hX dX8_turn__109 rfl ?_
    refine r_iadd 112 hX dX8_turn__111 ?_
    rw [nI_add]
    refine r_bipush 114 hX dX8_turn__112 (v := 6) (by decide) ?_
    refine r_irem 115 hX dX8_turn__114 (by decide) ?_
    rw [mx_r6 (i + r) (by omega)]
    refine r_goto 120 hX dX8_turn__115 ?_
    refine r_iadd 121 hX dX8_turn__120 ?_
    refine mx_top (show (6 : Int32) + nI ((i + r) % 6) = nI (6 + (i + r) % 6) from nI_add 6 _) ?_
    refine r_ialdV 122 hX dX8_turn__121 rfl rfl (vp_in_nI (show 6 + (i + r) % 6 < 12 by omega) (by decide)) (nI_clamp (by omega)) (v := g (6 + (i + r) % 6)) (by rw [ev]) ?_
    refine r_iastK 123 hX dX8_turn__122 rfl rfl (vp_in_nI (show 6 + i < 12 by omega) (by decide)) (j := 6 + i) (nI_clamp (by omega)) ?_
    refine r_iinc 126 hX dX8_turn__123 rfl (v := 1) (by decide) rfl ?_
    refine r_goto 73 hX dX8_turn__126 ?_
    exact i2
  · show mx_WW G X 73 [.ref 46, .int 1, .int f, a3, l4, .null, .int (nI r), .int 1, .int 6] [] (fwM N 58 6 (fun y => g (6 + (y + r) % 6)) 6)
    refine r_iload 75 hX dX8_turn__73 rfl ?_
    refine r_bipush 77 hX dX8_turn__75 (v := 6) (by decide) ?_
    refine r_icmp_ge 80 129 hX dX8_turn__77 (fun _ => ?_) (fun c => absurd c (by decide))
    exact hE
set_option maxRecDepth 100000 in
set_option maxHeartbeats 4000000 in
theorem tX8_turn__0_0 {l : Launch} {G : mx_G} {tg cap : Nat} {M : mx_Mem} (ho : ¬ M.1 52 1 = 1) (ho0 : ¬ M.1 51 0 = 0) (ho1 : ¬ M.1 51 1 = 0) (h1 : tgM M = nI tg) (h2 : M.1 49 1 = nI cap) (ht : tg ≤ 100) (hcap : cap ≤ 30) (hP : ∀ k : Nat, k < 12 → isP (M.1 50 k)) : mx_Met l G yX8_turn_ cX8_turn_ 9 ((some FieldType.int)) 4 104 [.ref 46, .int 0, .int 0] M ((fun r N => r = some (.int (tuF 0 (mtW M 0 0 tg cap) 6).1) ∧ frM (mI (mI (mI M 46 13 0) 46 11 (tuF 0 (mtW M 0 0 tg cap) 6).2) 46 12 1) N)) := by
  refine mx_enter (own := RX8) (L := [.ref 46, .int 0, .int 0, .null, .null, .null, .null, .null, .null]) (by decide +kernel) rfl rfl rfl ?_
  intro X hlX hX hR hT
  generalize hA : tuF 0 (mtW M 0 0 tg cap) = A
  have hA0 : A 0 = (-1, 0) := by rw [← hA]; rfl
  have hAs : ∀ i, A (i + 1) = if (A i).1 = -1 ∨ bt 0 (mtW M 0 0 tg cap i) (A i).2 then (nI i, mtW M 0 0 tg cap i) else A i := fun i => by rw [← hA]; rfl
  have l0 := ce_lt (a := 0) (b := 0) (s := 0) (i := 0) (j := 0) (by decide) (by decide) (by decide) (by decide) (by decide)
  have loop : ∀ N w7 w8, frM (mI M 46 13 0) N → mx_WW G X 54 [.ref 46, .int 0, .int 0, .int (A 0).1, .long (A 0).2.toInt64, .null, .int (nI 0), w7, w8] [] N := by
    refine mx_back (P := fun i => ∀ N w7 w8, frM (mI M 46 13 0) N → mx_WW G X 54 [.ref 46, .int 0, .int 0, .int (A i).1, .long (A i).2.toInt64, .null, .int (nI i), w7, w8] [] N) 6 (fun i hi ih => ?_) ?_
    · intro N w7 w8 hF
      have g1 : ¬ 6 ≤ nI i := nI_ge (b := 6) hi (by decide)
      have g3 := hAs i
      have fN : frM (mI M 46 13 0) (nxM N i 0) := frM_tr hF (frM_nx N _ _)
      have e50 : ∀ k, N.1 50 k = M.1 50 k := fun k => by rw [hF.1 50 (by decide) (by decide), mI_ne _ _ _ _ (by decide)]
      have e1 : tgM (nxM N i 0) = nI tg := (tgM_fr fN).trans h1
      have e2 : (nxM N i 0).1 49 1 = nI cap := by rw [fN.1 49 (by decide) (by decide), mI_ne _ _ _ _ (by decide)]; exact h2
      have e3 : ∀ k : Nat, k < 12 → isP ((nxM N i 0).1 58 k) := fun k hk => by
        rw [nx_all _ _ _ k hk]
        split
        · rw [e50]; exact hP _ (by omega)
        · rw [e50]; exact hP _ (by omega)
      have g5 : lN (UU tg cap (moN (nxM N i 0)) 0 0 0 0 0) = (mtW M 0 0 tg cap i).toInt64 := by
        have u1 : UU tg cap (moN (nxM N i 0)) 0 0 0 0 0 = UU tg cap (moN (nxM M i 0)) 0 0 0 0 0 := by
          refine UU_congr ?_ (fun k hk => ?_) 0 0 0 0 0
          · rw [fN.1 47 (by decide) (by decide), (frM_nx M _ _).1 47 (by decide) (by decide)]; rfl
          · rw [nx_all _ _ _ k hk, nx_all _ _ _ k hk, e50, e50]
        have u2 := UU_le tg cap (nxM M i 0) 0 0 0 0 0
        rw [u1, ← nI_l (by omega)]
        rfl
      have hb : bt 0 (mtW M 0 0 tg cap i) (A i).2 ↔ ¬ lg_cmp (mtW M 0 0 tg cap i).toInt64 (A i).2.toInt64 ≤ 0 := by
        rw [lg_cmp_le, l64_le]
        exact Iff.rfl
      refine r_iload 56 hX dX8_turn__54 rfl ?_
      refine r_bipush 58 hX dX8_turn__56 (v := 6) (by decide) ?_
      refine r_icmp_ge 61 202 hX dX8_turn__58 (fun c1 => absurd c1 g1) (fun c1 => ?_)
      refine r_iconst 62 hX dX8_turn__61 (v := 0) (by decide) ?_
      refine r_istore 64 hX dX8_turn__62 rfl ?_
      refine r_iload 66 hX dX8_turn__64 rfl ?_
      refine r_iconst 67 hX dX8_turn__66 (v := 2) (by decide) ?_
      refine r_icmp_ge 70 135 hX dX8_turn__67 (fun c => absurd c (by decide)) (fun _ => ?_)
      refine r_iconst 71 hX dX8_turn__70 (v := 0) (by decide) ?_
      refine r_istore 73 hX dX8_turn__71 rfl ?_
      skip
      refine tul_0_0 (N.1 50) (fun _ => rfl) hi hX ?_
      refine r_iincK 132 hX dX8_turn__129 rfl (w := 1) (by decide) rfl ?_
      refine r_goto 64 hX dX8_turn__132 ?_
      refine r_iload 66 hX dX8_turn__64 rfl ?_
      refine r_iconst 67 hX dX8_turn__66 (v := 2) (by decide) ?_
      refine r_icmp_ge 70 135 hX dX8_turn__67 (fun c => absurd c (by decide)) (fun _ => ?_)
      refine r_iconst 71 hX dX8_turn__70 (v := 0) (by decide) ?_
      refine r_istore 73 hX dX8_turn__71 rfl ?_
      skip
      refine tul_0_1 (N.1 50) (fun j => by rw [fwM_ne _ _ (by decide)]) hi hX ?_
      refine (show mx_WW G X 129 [.ref 46, .int 0, .int 0, .int (A i).1, .long (A i).2.toInt64, .null, .int (nI i), .int 1, .int 6] [] (nxM N i 0) from ?_)
      generalize hN2 : nxM N i 0 = N2 at fN e1 e2 e3 g5 ⊢
      refine r_iincK 132 hX dX8_turn__129 rfl (w := 2) (by decide) rfl ?_
      refine r_goto 64 hX dX8_turn__132 ?_
      refine r_iload 66 hX dX8_turn__64 rfl ?_
      refine r_iconst 67 hX dX8_turn__66 (v := 2) (by decide) ?_
      refine r_icmp_ge 70 135 hX dX8_turn__67 (fun _ => ?_) (fun c => absurd c (by decide))
      refine r_aload_n 136 hX dX8_turn__135 rfl ?_
      refine r_aload_n 137 hX dX8_turn__136 rfl ?_
      refine r_cV0F 140 hX hR tX8_goal dX8_turn__137 kX8_goal lX8_102 rfl rfl rfl rfl rfl rfl ?_
      rw [e1]
      refine r_cV1G 143 hX hR (tX8_fill ht hcap e2 e3) dX8_turn__140 kX8_fill lX8_194 rfl rfl rfl rfl rfl rfl (fun r9 M9 hp9 => ?_)
      obtain ⟨rfl, hI9⟩ := hp9
      show mx_WW G X 143 _ [] M9
      have hF9 : frM (mI M 46 13 0) M9 := frM_tr fN (frM_fl hI9)
      refine r_aload_n 144 hX dX8_turn__143 rfl ?_
      refine r_getR 147 hX dX8_turn__144 fX8_52 rfl rfl rfl ?_
      refine r_iconst 148 hX dX8_turn__147 (v := 0) (by decide) ?_
      refine r_iconst 149 hX dX8_turn__148 (v := 0) (by decide) ?_
      refine r_iload_n 150 hX dX8_turn__149 rfl ?_
      refine r_iconst 151 hX dX8_turn__150 (v := 0) (by decide) ?_
      refine r_iconst 152 hX dX8_turn__151 (v := 0) (by decide) ?_
      refine r_cS5F 155 hX hR (tX8_cell (a := 0) (b := 0) (s := 0) (i := 0) (j := 0)) dX8_turn__152 kX8_cell lX8_184 rfl rfl rfl ?_
      refine r_laldV 156 hX dX8_turn__155 rfl rfl (vp_in_nI l0 (by decide)) (nI_clamp (by omega)) (hI9.2 0 0 (by omega) (by omega) 0 0 0 (by decide) (by decide) (by decide)) ?_
      rw [g5]
      refine r_lstore 158 hX dX8_turn__156 rfl ?_
      refine r_iload_n 159 hX dX8_turn__158 rfl ?_
      refine r_iconst 160 hX dX8_turn__159 (v := -1) (by decide) ?_
      refine r_icmp_eq 163 189 hX dX8_turn__160 (fun c1 => ?_) (fun c1 => ?_)
      · refine r_iload 191 hX dX8_turn__189 rfl ?_
        refine r_istore_n 192 hX dX8_turn__191 rfl ?_
        refine (show mx_WW G X 192 [_, _, _, _, _, _, _, _, _] _ _ from ?_)
        refine r_lload 194 hX dX8_turn__192 rfl ?_
        refine r_lstore 196 hX dX8_turn__194 rfl ?_
        refine r_iinc 199 hX dX8_turn__196 rfl (v := 1) (by decide) rfl ?_
        refine r_goto 54 hX dX8_turn__199 ?_
        rw [nI_1]
        have ih2 := ih M9 (.long (mtW M 0 0 tg cap i).toInt64) .null hF9
        first
        | (rw [g3, if_pos (Or.inl c1)] at ih2; exact ih2)
        | (rw [g3, if_pos (Or.inr (hb.mpr c2))] at ih2; exact ih2)
        | (rw [g3, if_neg (fun k => k.elim c1 (fun q => hb.mp q c2))] at ih2; exact ih2)
      · refine r_iload_n 164 hX dX8_turn__163 rfl ?_
        refine r_if_ne 167 178 hX dX8_turn__164 (fun c => absurd c (by decide)) (fun _ => ?_)
        refine r_lload 169 hX dX8_turn__167 rfl ?_
        refine r_lload 171 hX dX8_turn__169 rfl ?_
        refine r_lcmp 172 hX dX8_turn__171 ?_
        refine r_If_gt 175 189 hX dX8_turn__172 (fun c2 => ?_) (fun c2 => ?_)
        · refine r_iload 191 hX dX8_turn__189 rfl ?_
          refine r_istore_n 192 hX dX8_turn__191 rfl ?_
          refine (show mx_WW G X 192 [_, _, _, _, _, _, _, _, _] _ _ from ?_)
          refine r_lload 194 hX dX8_turn__192 rfl ?_
          refine r_lstore 196 hX dX8_turn__194 rfl ?_
          refine r_iinc 199 hX dX8_turn__196 rfl (v := 1) (by decide) rfl ?_
          refine r_goto 54 hX dX8_turn__199 ?_
          rw [nI_1]
          have ih2 := ih M9 (.long (mtW M 0 0 tg cap i).toInt64) .null hF9
          first
          | (rw [g3, if_pos (Or.inl c1)] at ih2; exact ih2)
          | (rw [g3, if_pos (Or.inr (hb.mpr c2))] at ih2; exact ih2)
          | (rw [g3, if_neg (fun k => k.elim c1 (fun q => hb.mp q c2))] at ih2; exact ih2)
        · refine r_goto 196 hX dX8_turn__175 ?_
          refine r_iinc 199 hX dX8_turn__196 rfl (v := 1) (by decide) rfl ?_
          refine (show mx_WW G X 199 [_, _, _, _, _, _, _, _, _] _ _ from ?_)
          refine r_goto 54 hX dX8_turn__199 ?_
          rw [nI_1]
          have ih2 := ih M9 (.long (mtW M 0 0 tg cap i).toInt64) .null hF9
          first
          | (rw [g3, if_pos (Or.inl c1)] at ih2; exact ih2)
          | (rw [g3, if_pos (Or.inr (hb.mpr c2))] at ih2; exact ih2)
          | (rw [g3, if_neg (fun k => k.elim c1 (fun q => hb.mp q c2))] at ih2; exact ih2)
    · intro N w7 w8 hF
      show mx_WW G X 54 [.ref 46, .int 0, .int 0, .int (A 6).1, .long (A 6).2.toInt64, .null, .int 6, w7, w8] [] N
      have e9 : (A 6).2.toInt64.toInt32 = (A 6).2 := by simp
      refine r_iload 56 hX dX8_turn__54 rfl ?_
      refine r_bipush 58 hX dX8_turn__56 (v := 6) (by decide) ?_
      refine r_icmp_ge 61 202 hX dX8_turn__58 (fun _ => ?_) (fun c => absurd c (by decide))
      refine r_aload_n 203 hX dX8_turn__202 rfl ?_
      refine r_lload 205 hX dX8_turn__203 rfl ?_
      refine r_l2i 206 hX dX8_turn__205 ?_
      rw [e9]
      refine r_putI 209 hX dX8_turn__206 fX8_200 fp8_11 rfl rfl rfl ?_
      refine r_aload_n 210 hX dX8_turn__209 rfl ?_
      refine r_iconst 211 hX dX8_turn__210 (v := 1) (by decide) ?_
      refine r_putI 214 hX dX8_turn__211 fX8_132 fp8_12 rfl rfl rfl ?_
      refine r_iload_n 215 hX dX8_turn__214 rfl ?_
      refine r_iret hX hT dX8_turn__215 ?_
      refine ⟨by rw [hA], ?_⟩
      rw [hA]
      exact frM_mI (frM_mI hF 11 _) 12 1
  refine r_aload_n 1 hX dX8_turn__0 rfl ?_
  refine r_iconst 2 hX dX8_turn__1 (v := 0) (by decide) ?_
  refine r_putI 5 hX dX8_turn__2 fX8_63 fp8_13 rfl rfl rfl ?_
  refine r_iload_n 6 hX dX8_turn__5 rfl ?_
  refine r_cS1F 9 hX hR tX8_isTeam_0 dX8_turn__6 kX8_isTeam lX8_71 rfl rfl rfl ?_
  refine r_if_eq 12 44 hX dX8_turn__9 (fun c => absurd c (by decide)) (fun _ => ?_)
  refine r_iload_n 13 hX dX8_turn__12 rfl ?_
  refine r_cS1F 16 hX hR tX8_isTeam_0 dX8_turn__13 kX8_isTeam lX8_71 rfl rfl rfl ?_
  refine r_if_eq 19 44 hX dX8_turn__16 (fun c => absurd c (by decide)) (fun _ => ?_)
  refine r_aload_n 20 hX dX8_turn__19 rfl ?_
  refine r_cV0F 23 hX hR tX8_isOn dX8_turn__20 kX8_isOn lX8_82 rfl rfl rfl rfl rfl rfl ?_
  refine r_Bne 26 44 hX dX8_turn__23 (fun c1 => absurd c1 ho) (fun c1 => ?_)
  refine r_aload_n 27 hX dX8_turn__26 rfl ?_
  refine r_getR 30 hX dX8_turn__27 fX8_22 rfl rfl rfl ?_
  refine r_iconst 31 hX dX8_turn__30 (v := 0) (by decide) ?_
  refine r_zaldK 32 hX dX8_turn__31 rfl rfl (vpK rfl) (j := 0) (by decide) ?_
  refine r_if_eq 35 44 hX dX8_turn__32 (fun c2 => absurd c2 ho0) (fun c2 => ?_)
  refine r_aload_n 36 hX dX8_turn__35 rfl ?_
  refine r_getR 39 hX dX8_turn__36 fX8_22 rfl rfl rfl ?_
  refine r_iconst 40 hX dX8_turn__39 (v := 1) (by decide) ?_
  refine r_zaldK 41 hX dX8_turn__40 rfl rfl (vpK rfl) (j := 1) (by decide) ?_
  refine r_if_ne 44 46 hX dX8_turn__41 (fun c3 => ?_) (fun c3 => absurd c3 ho1)
  refine r_iconst 47 hX dX8_turn__46 (v := -1) (by decide) ?_
  refine r_istore_n 48 hX dX8_turn__47 rfl ?_
  refine r_lconst 49 hX dX8_turn__48 (v := 0) (by decide) ?_
  refine r_lstore 51 hX dX8_turn__49 rfl ?_
  refine r_iconst 52 hX dX8_turn__51 (v := 0) (by decide) ?_
  refine r_istore 54 hX dX8_turn__52 rfl ?_
  skip
  have key := loop (mI M 46 13 0) .null .null ⟨fun _ _ _ => rfl, fun _ _ => rfl⟩
  rw [hA0] at key
  exact key
set_option maxRecDepth 100000 in
set_option maxHeartbeats 4000000 in
theorem tX8_turn__1_0 {l : Launch} {G : mx_G} {tg cap : Nat} {M : mx_Mem} (ho : ¬ M.1 52 1 = 1) (ho0 : ¬ M.1 51 0 = 0) (ho1 : ¬ M.1 51 1 = 0) (h1 : tgM M = nI tg) (h2 : M.1 49 1 = nI cap) (ht : tg ≤ 100) (hcap : cap ≤ 30) (hP : ∀ k : Nat, k < 12 → isP (M.1 50 k)) : mx_Met l G yX8_turn_ cX8_turn_ 9 ((some FieldType.int)) 4 104 [.ref 46, .int 1, .int 0] M ((fun r N => r = some (.int (tuF 1 (mtW M 1 0 tg cap) 6).1) ∧ frM (mI (mI (mI M 46 13 0) 46 11 (tuF 1 (mtW M 1 0 tg cap) 6).2) 46 12 1) N)) := by
  refine mx_enter (own := RX8) (L := [.ref 46, .int 1, .int 0, .null, .null, .null, .null, .null, .null]) (by decide +kernel) rfl rfl rfl ?_
  intro X hlX hX hR hT
  generalize hA : tuF 1 (mtW M 1 0 tg cap) = A
  have hA0 : A 0 = (-1, 0) := by rw [← hA]; rfl
  have hAs : ∀ i, A (i + 1) = if (A i).1 = -1 ∨ bt 1 (mtW M 1 0 tg cap i) (A i).2 then (nI i, mtW M 1 0 tg cap i) else A i := fun i => by rw [← hA]; rfl
  have l0 := ce_lt (a := 0) (b := 0) (s := 0) (i := 0) (j := 0) (by decide) (by decide) (by decide) (by decide) (by decide)
  have loop : ∀ N w7 w8, frM (mI M 46 13 0) N → mx_WW G X 54 [.ref 46, .int 1, .int 0, .int (A 0).1, .long (A 0).2.toInt64, .null, .int (nI 0), w7, w8] [] N := by
    refine mx_back (P := fun i => ∀ N w7 w8, frM (mI M 46 13 0) N → mx_WW G X 54 [.ref 46, .int 1, .int 0, .int (A i).1, .long (A i).2.toInt64, .null, .int (nI i), w7, w8] [] N) 6 (fun i hi ih => ?_) ?_
    · intro N w7 w8 hF
      have g1 : ¬ 6 ≤ nI i := nI_ge (b := 6) hi (by decide)
      have g3 := hAs i
      have fN : frM (mI M 46 13 0) (nxM N 0 i) := frM_tr hF (frM_nx N _ _)
      have e50 : ∀ k, N.1 50 k = M.1 50 k := fun k => by rw [hF.1 50 (by decide) (by decide), mI_ne _ _ _ _ (by decide)]
      have e1 : tgM (nxM N 0 i) = nI tg := (tgM_fr fN).trans h1
      have e2 : (nxM N 0 i).1 49 1 = nI cap := by rw [fN.1 49 (by decide) (by decide), mI_ne _ _ _ _ (by decide)]; exact h2
      have e3 : ∀ k : Nat, k < 12 → isP ((nxM N 0 i).1 58 k) := fun k hk => by
        rw [nx_all _ _ _ k hk]
        split
        · rw [e50]; exact hP _ (by omega)
        · rw [e50]; exact hP _ (by omega)
      have g5 : lN (UU tg cap (moN (nxM N 0 i)) 0 0 0 0 0) = (mtW M 1 0 tg cap i).toInt64 := by
        have u1 : UU tg cap (moN (nxM N 0 i)) 0 0 0 0 0 = UU tg cap (moN (nxM M 0 i)) 0 0 0 0 0 := by
          refine UU_congr ?_ (fun k hk => ?_) 0 0 0 0 0
          · rw [fN.1 47 (by decide) (by decide), (frM_nx M _ _).1 47 (by decide) (by decide)]; rfl
          · rw [nx_all _ _ _ k hk, nx_all _ _ _ k hk, e50, e50]
        have u2 := UU_le tg cap (nxM M 0 i) 0 0 0 0 0
        rw [u1, ← nI_l (by omega)]
        rfl
      have hb : bt 1 (mtW M 1 0 tg cap i) (A i).2 ↔ ¬ 0 ≤ lg_cmp (mtW M 1 0 tg cap i).toInt64 (A i).2.toInt64 := by
        rw [lg_cmp_ge, l64_le]
        exact Iff.rfl
      refine r_iload 56 hX dX8_turn__54 rfl ?_
      refine r_bipush 58 hX dX8_turn__56 (v := 6) (by decide) ?_
      refine r_icmp_ge 61 202 hX dX8_turn__58 (fun c1 => absurd c1 g1) (fun c1 => ?_)
      refine r_iconst 62 hX dX8_turn__61 (v := 0) (by decide) ?_
      refine r_istore 64 hX dX8_turn__62 rfl ?_
      refine r_iload 66 hX dX8_turn__64 rfl ?_
      refine r_iconst 67 hX dX8_turn__66 (v := 2) (by decide) ?_
      refine r_icmp_ge 70 135 hX dX8_turn__67 (fun c => absurd c (by decide)) (fun _ => ?_)
      refine r_iconst 71 hX dX8_turn__70 (v := 0) (by decide) ?_
      refine r_istore 73 hX dX8_turn__71 rfl ?_
      skip
      refine tul_1_0 (N.1 50) (fun _ => rfl) hi hX ?_
      refine r_iincK 132 hX dX8_turn__129 rfl (w := 1) (by decide) rfl ?_
      refine r_goto 64 hX dX8_turn__132 ?_
      refine r_iload 66 hX dX8_turn__64 rfl ?_
      refine r_iconst 67 hX dX8_turn__66 (v := 2) (by decide) ?_
      refine r_icmp_ge 70 135 hX dX8_turn__67 (fun c => absurd c (by decide)) (fun _ => ?_)
      refine r_iconst 71 hX dX8_turn__70 (v := 0) (by decide) ?_
      refine r_istore 73 hX dX8_turn__71 rfl ?_
      skip
      refine tul_1_1 (N.1 50) (fun j => by rw [fwM_ne _ _ (by decide)]) hi hX ?_
      refine (show mx_WW G X 129 [.ref 46, .int 1, .int 0, .int (A i).1, .long (A i).2.toInt64, .null, .int (nI i), .int 1, .int 6] [] (nxM N 0 i) from ?_)
      generalize hN2 : nxM N 0 i = N2 at fN e1 e2 e3 g5 ⊢
      refine r_iincK 132 hX dX8_turn__129 rfl (w := 2) (by decide) rfl ?_
      refine r_goto 64 hX dX8_turn__132 ?_
      refine r_iload 66 hX dX8_turn__64 rfl ?_
      refine r_iconst 67 hX dX8_turn__66 (v := 2) (by decide) ?_
      refine r_icmp_ge 70 135 hX dX8_turn__67 (fun _ => ?_) (fun c => absurd c (by decide))
      refine r_aload_n 136 hX dX8_turn__135 rfl ?_
      refine r_aload_n 137 hX dX8_turn__136 rfl ?_
      refine r_cV0F 140 hX hR tX8_goal dX8_turn__137 kX8_goal lX8_102 rfl rfl rfl rfl rfl rfl ?_
      rw [e1]
      refine r_cV1G 143 hX hR (tX8_fill ht hcap e2 e3) dX8_turn__140 kX8_fill lX8_194 rfl rfl rfl rfl rfl rfl (fun r9 M9 hp9 => ?_)
      obtain ⟨rfl, hI9⟩ := hp9
      show mx_WW G X 143 _ [] M9
      have hF9 : frM (mI M 46 13 0) M9 := frM_tr fN (frM_fl hI9)
      refine r_aload_n 144 hX dX8_turn__143 rfl ?_
      refine r_getR 147 hX dX8_turn__144 fX8_52 rfl rfl rfl ?_
      refine r_iconst 148 hX dX8_turn__147 (v := 0) (by decide) ?_
      refine r_iconst 149 hX dX8_turn__148 (v := 0) (by decide) ?_
      refine r_iload_n 150 hX dX8_turn__149 rfl ?_
      refine r_iconst 151 hX dX8_turn__150 (v := 0) (by decide) ?_
      refine r_iconst 152 hX dX8_turn__151 (v := 0) (by decide) ?_
      refine r_cS5F 155 hX hR (tX8_cell (a := 0) (b := 0) (s := 0) (i := 0) (j := 0)) dX8_turn__152 kX8_cell lX8_184 rfl rfl rfl ?_
      refine r_laldV 156 hX dX8_turn__155 rfl rfl (vp_in_nI l0 (by decide)) (nI_clamp (by omega)) (hI9.2 0 0 (by omega) (by omega) 0 0 0 (by decide) (by decide) (by decide)) ?_
      rw [g5]
      refine r_lstore 158 hX dX8_turn__156 rfl ?_
      refine r_iload_n 159 hX dX8_turn__158 rfl ?_
      refine r_iconst 160 hX dX8_turn__159 (v := -1) (by decide) ?_
      refine r_icmp_eq 163 189 hX dX8_turn__160 (fun c1 => ?_) (fun c1 => ?_)
      · refine r_iload 191 hX dX8_turn__189 rfl ?_
        refine r_istore_n 192 hX dX8_turn__191 rfl ?_
        refine (show mx_WW G X 192 [_, _, _, _, _, _, _, _, _] _ _ from ?_)
        refine r_lload 194 hX dX8_turn__192 rfl ?_
        refine r_lstore 196 hX dX8_turn__194 rfl ?_
        refine r_iinc 199 hX dX8_turn__196 rfl (v := 1) (by decide) rfl ?_
        refine r_goto 54 hX dX8_turn__199 ?_
        rw [nI_1]
        have ih2 := ih M9 (.long (mtW M 1 0 tg cap i).toInt64) .null hF9
        first
        | (rw [g3, if_pos (Or.inl c1)] at ih2; exact ih2)
        | (rw [g3, if_pos (Or.inr (hb.mpr c2))] at ih2; exact ih2)
        | (rw [g3, if_neg (fun k => k.elim c1 (fun q => hb.mp q c2))] at ih2; exact ih2)
      · refine r_iload_n 164 hX dX8_turn__163 rfl ?_
        refine r_if_ne 167 178 hX dX8_turn__164 (fun _ => ?_) (fun c => absurd c (by decide))
        refine r_lload 180 hX dX8_turn__178 rfl ?_
        refine r_lload 182 hX dX8_turn__180 rfl ?_
        refine r_lcmp 183 hX dX8_turn__182 ?_
        refine r_If_lt 186 189 hX dX8_turn__183 (fun c2 => ?_) (fun c2 => ?_)
        · refine r_iload 191 hX dX8_turn__189 rfl ?_
          refine r_istore_n 192 hX dX8_turn__191 rfl ?_
          refine (show mx_WW G X 192 [_, _, _, _, _, _, _, _, _] _ _ from ?_)
          refine r_lload 194 hX dX8_turn__192 rfl ?_
          refine r_lstore 196 hX dX8_turn__194 rfl ?_
          refine r_iinc 199 hX dX8_turn__196 rfl (v := 1) (by decide) rfl ?_
          refine r_goto 54 hX dX8_turn__199 ?_
          rw [nI_1]
          have ih2 := ih M9 (.long (mtW M 1 0 tg cap i).toInt64) .null hF9
          first
          | (rw [g3, if_pos (Or.inl c1)] at ih2; exact ih2)
          | (rw [g3, if_pos (Or.inr (hb.mpr c2))] at ih2; exact ih2)
          | (rw [g3, if_neg (fun k => k.elim c1 (fun q => hb.mp q c2))] at ih2; exact ih2)
        · refine r_goto 196 hX dX8_turn__186 ?_
          refine r_iinc 199 hX dX8_turn__196 rfl (v := 1) (by decide) rfl ?_
          refine (show mx_WW G X 199 [_, _, _, _, _, _, _, _, _] _ _ from ?_)
          refine r_goto 54 hX dX8_turn__199 ?_
          rw [nI_1]
          have ih2 := ih M9 (.long (mtW M 1 0 tg cap i).toInt64) .null hF9
          first
          | (rw [g3, if_pos (Or.inl c1)] at ih2; exact ih2)
          | (rw [g3, if_pos (Or.inr (hb.mpr c2))] at ih2; exact ih2)
          | (rw [g3, if_neg (fun k => k.elim c1 (fun q => hb.mp q c2))] at ih2; exact ih2)
    · intro N w7 w8 hF
      show mx_WW G X 54 [.ref 46, .int 1, .int 0, .int (A 6).1, .long (A 6).2.toInt64, .null, .int 6, w7, w8] [] N
      have e9 : (A 6).2.toInt64.toInt32 = (A 6).2 := by simp
      refine r_iload 56 hX dX8_turn__54 rfl ?_
      refine r_bipush 58 hX dX8_turn__56 (v := 6) (by decide) ?_
      refine r_icmp_ge 61 202 hX dX8_turn__58 (fun _ => ?_) (fun c => absurd c (by decide))
      refine r_aload_n 203 hX dX8_turn__202 rfl ?_
      refine r_lload 205 hX dX8_turn__203 rfl ?_
      refine r_l2i 206 hX dX8_turn__205 ?_
      rw [e9]
      refine r_putI 209 hX dX8_turn__206 fX8_200 fp8_11 rfl rfl rfl ?_
      refine r_aload_n 210 hX dX8_turn__209 rfl ?_
      refine r_iconst 211 hX dX8_turn__210 (v := 1) (by decide) ?_
      refine r_putI 214 hX dX8_turn__211 fX8_132 fp8_12 rfl rfl rfl ?_
      refine r_iload_n 215 hX dX8_turn__214 rfl ?_
      refine r_iret hX hT dX8_turn__215 ?_
      refine ⟨by rw [hA], ?_⟩
      rw [hA]
      exact frM_mI (frM_mI hF 11 _) 12 1
  refine r_aload_n 1 hX dX8_turn__0 rfl ?_
  refine r_iconst 2 hX dX8_turn__1 (v := 0) (by decide) ?_
  refine r_putI 5 hX dX8_turn__2 fX8_63 fp8_13 rfl rfl rfl ?_
  refine r_iload_n 6 hX dX8_turn__5 rfl ?_
  refine r_cS1F 9 hX hR tX8_isTeam_1 dX8_turn__6 kX8_isTeam lX8_71 rfl rfl rfl ?_
  refine r_if_eq 12 44 hX dX8_turn__9 (fun c => absurd c (by decide)) (fun _ => ?_)
  refine r_iload_n 13 hX dX8_turn__12 rfl ?_
  refine r_cS1F 16 hX hR tX8_isTeam_0 dX8_turn__13 kX8_isTeam lX8_71 rfl rfl rfl ?_
  refine r_if_eq 19 44 hX dX8_turn__16 (fun c => absurd c (by decide)) (fun _ => ?_)
  refine r_aload_n 20 hX dX8_turn__19 rfl ?_
  refine r_cV0F 23 hX hR tX8_isOn dX8_turn__20 kX8_isOn lX8_82 rfl rfl rfl rfl rfl rfl ?_
  refine r_Bne 26 44 hX dX8_turn__23 (fun c1 => absurd c1 ho) (fun c1 => ?_)
  refine r_aload_n 27 hX dX8_turn__26 rfl ?_
  refine r_getR 30 hX dX8_turn__27 fX8_22 rfl rfl rfl ?_
  refine r_iconst 31 hX dX8_turn__30 (v := 0) (by decide) ?_
  refine r_zaldK 32 hX dX8_turn__31 rfl rfl (vpK rfl) (j := 0) (by decide) ?_
  refine r_if_eq 35 44 hX dX8_turn__32 (fun c2 => absurd c2 ho0) (fun c2 => ?_)
  refine r_aload_n 36 hX dX8_turn__35 rfl ?_
  refine r_getR 39 hX dX8_turn__36 fX8_22 rfl rfl rfl ?_
  refine r_iconst 40 hX dX8_turn__39 (v := 1) (by decide) ?_
  refine r_zaldK 41 hX dX8_turn__40 rfl rfl (vpK rfl) (j := 1) (by decide) ?_
  refine r_if_ne 44 46 hX dX8_turn__41 (fun c3 => ?_) (fun c3 => absurd c3 ho1)
  refine r_iconst 47 hX dX8_turn__46 (v := -1) (by decide) ?_
  refine r_istore_n 48 hX dX8_turn__47 rfl ?_
  refine r_lconst 49 hX dX8_turn__48 (v := 0) (by decide) ?_
  refine r_lstore 51 hX dX8_turn__49 rfl ?_
  refine r_iconst 52 hX dX8_turn__51 (v := 0) (by decide) ?_
  refine r_istore 54 hX dX8_turn__52 rfl ?_
  skip
  have key := loop (mI M 46 13 0) .null .null ⟨fun _ _ _ => rfl, fun _ _ => rfl⟩
  rw [hA0] at key
  exact key
set_option maxRecDepth 100000 in
set_option maxHeartbeats 4000000 in
theorem tX8_turn__0_1 {l : Launch} {G : mx_G} {tg cap : Nat} {M : mx_Mem} (ho : ¬ M.1 52 1 = 1) (ho0 : ¬ M.1 51 0 = 0) (ho1 : ¬ M.1 51 1 = 0) (h1 : tgM M = nI tg) (h2 : M.1 49 1 = nI cap) (ht : tg ≤ 100) (hcap : cap ≤ 30) (hP : ∀ k : Nat, k < 12 → isP (M.1 50 k)) : mx_Met l G yX8_turn_ cX8_turn_ 9 ((some FieldType.int)) 4 104 [.ref 46, .int 0, .int 1] M ((fun r N => r = some (.int (tuF 0 (mtW M 0 1 tg cap) 6).1) ∧ frM (mI (mI (mI M 46 13 0) 46 11 (tuF 0 (mtW M 0 1 tg cap) 6).2) 46 12 1) N)) := by
  refine mx_enter (own := RX8) (L := [.ref 46, .int 0, .int 1, .null, .null, .null, .null, .null, .null]) (by decide +kernel) rfl rfl rfl ?_
  intro X hlX hX hR hT
  generalize hA : tuF 0 (mtW M 0 1 tg cap) = A
  have hA0 : A 0 = (-1, 0) := by rw [← hA]; rfl
  have hAs : ∀ i, A (i + 1) = if (A i).1 = -1 ∨ bt 0 (mtW M 0 1 tg cap i) (A i).2 then (nI i, mtW M 0 1 tg cap i) else A i := fun i => by rw [← hA]; rfl
  have l0 := ce_lt (a := 0) (b := 0) (s := 1) (i := 0) (j := 0) (by decide) (by decide) (by decide) (by decide) (by decide)
  have loop : ∀ N w7 w8, frM (mI M 46 13 0) N → mx_WW G X 54 [.ref 46, .int 0, .int 1, .int (A 0).1, .long (A 0).2.toInt64, .null, .int (nI 0), w7, w8] [] N := by
    refine mx_back (P := fun i => ∀ N w7 w8, frM (mI M 46 13 0) N → mx_WW G X 54 [.ref 46, .int 0, .int 1, .int (A i).1, .long (A i).2.toInt64, .null, .int (nI i), w7, w8] [] N) 6 (fun i hi ih => ?_) ?_
    · intro N w7 w8 hF
      have g1 : ¬ 6 ≤ nI i := nI_ge (b := 6) hi (by decide)
      have g3 := hAs i
      have fN : frM (mI M 46 13 0) (nxM N i 0) := frM_tr hF (frM_nx N _ _)
      have e50 : ∀ k, N.1 50 k = M.1 50 k := fun k => by rw [hF.1 50 (by decide) (by decide), mI_ne _ _ _ _ (by decide)]
      have e1 : tgM (nxM N i 0) = nI tg := (tgM_fr fN).trans h1
      have e2 : (nxM N i 0).1 49 1 = nI cap := by rw [fN.1 49 (by decide) (by decide), mI_ne _ _ _ _ (by decide)]; exact h2
      have e3 : ∀ k : Nat, k < 12 → isP ((nxM N i 0).1 58 k) := fun k hk => by
        rw [nx_all _ _ _ k hk]
        split
        · rw [e50]; exact hP _ (by omega)
        · rw [e50]; exact hP _ (by omega)
      have g5 : lN (UU tg cap (moN (nxM N i 0)) 0 0 1 0 0) = (mtW M 0 1 tg cap i).toInt64 := by
        have u1 : UU tg cap (moN (nxM N i 0)) 0 0 1 0 0 = UU tg cap (moN (nxM M i 0)) 0 0 1 0 0 := by
          refine UU_congr ?_ (fun k hk => ?_) 0 0 1 0 0
          · rw [fN.1 47 (by decide) (by decide), (frM_nx M _ _).1 47 (by decide) (by decide)]; rfl
          · rw [nx_all _ _ _ k hk, nx_all _ _ _ k hk, e50, e50]
        have u2 := UU_le tg cap (nxM M i 0) 0 0 1 0 0
        rw [u1, ← nI_l (by omega)]
        rfl
      have hb : bt 0 (mtW M 0 1 tg cap i) (A i).2 ↔ ¬ lg_cmp (mtW M 0 1 tg cap i).toInt64 (A i).2.toInt64 ≤ 0 := by
        rw [lg_cmp_le, l64_le]
        exact Iff.rfl
      refine r_iload 56 hX dX8_turn__54 rfl ?_
      refine r_bipush 58 hX dX8_turn__56 (v := 6) (by decide) ?_
      refine r_icmp_ge 61 202 hX dX8_turn__58 (fun c1 => absurd c1 g1) (fun c1 => ?_)
      refine r_iconst 62 hX dX8_turn__61 (v := 0) (by decide) ?_
      refine r_istore 64 hX dX8_turn__62 rfl ?_
      refine r_iload 66 hX dX8_turn__64 rfl ?_
      refine r_iconst 67 hX dX8_turn__66 (v := 2) (by decide) ?_
      refine r_icmp_ge 70 135 hX dX8_turn__67 (fun c => absurd c (by decide)) (fun _ => ?_)
      refine r_iconst 71 hX dX8_turn__70 (v := 0) (by decide) ?_
      refine r_istore 73 hX dX8_turn__71 rfl ?_
      skip
      refine tul_0_0 (N.1 50) (fun _ => rfl) hi hX ?_
      refine r_iincK 132 hX dX8_turn__129 rfl (w := 1) (by decide) rfl ?_
      refine r_goto 64 hX dX8_turn__132 ?_
      refine r_iload 66 hX dX8_turn__64 rfl ?_
      refine r_iconst 67 hX dX8_turn__66 (v := 2) (by decide) ?_
      refine r_icmp_ge 70 135 hX dX8_turn__67 (fun c => absurd c (by decide)) (fun _ => ?_)
      refine r_iconst 71 hX dX8_turn__70 (v := 0) (by decide) ?_
      refine r_istore 73 hX dX8_turn__71 rfl ?_
      skip
      refine tul_0_1 (N.1 50) (fun j => by rw [fwM_ne _ _ (by decide)]) hi hX ?_
      refine (show mx_WW G X 129 [.ref 46, .int 0, .int 1, .int (A i).1, .long (A i).2.toInt64, .null, .int (nI i), .int 1, .int 6] [] (nxM N i 0) from ?_)
      generalize hN2 : nxM N i 0 = N2 at fN e1 e2 e3 g5 ⊢
      refine r_iincK 132 hX dX8_turn__129 rfl (w := 2) (by decide) rfl ?_
      refine r_goto 64 hX dX8_turn__132 ?_
      refine r_iload 66 hX dX8_turn__64 rfl ?_
      refine r_iconst 67 hX dX8_turn__66 (v := 2) (by decide) ?_
      refine r_icmp_ge 70 135 hX dX8_turn__67 (fun _ => ?_) (fun c => absurd c (by decide))
      refine r_aload_n 136 hX dX8_turn__135 rfl ?_
      refine r_aload_n 137 hX dX8_turn__136 rfl ?_
      refine r_cV0F 140 hX hR tX8_goal dX8_turn__137 kX8_goal lX8_102 rfl rfl rfl rfl rfl rfl ?_
      rw [e1]
      refine r_cV1G 143 hX hR (tX8_fill ht hcap e2 e3) dX8_turn__140 kX8_fill lX8_194 rfl rfl rfl rfl rfl rfl (fun r9 M9 hp9 => ?_)
      obtain ⟨rfl, hI9⟩ := hp9
      show mx_WW G X 143 _ [] M9
      have hF9 : frM (mI M 46 13 0) M9 := frM_tr fN (frM_fl hI9)
      refine r_aload_n 144 hX dX8_turn__143 rfl ?_
      refine r_getR 147 hX dX8_turn__144 fX8_52 rfl rfl rfl ?_
      refine r_iconst 148 hX dX8_turn__147 (v := 0) (by decide) ?_
      refine r_iconst 149 hX dX8_turn__148 (v := 0) (by decide) ?_
      refine r_iload_n 150 hX dX8_turn__149 rfl ?_
      refine r_iconst 151 hX dX8_turn__150 (v := 0) (by decide) ?_
      refine r_iconst 152 hX dX8_turn__151 (v := 0) (by decide) ?_
      refine r_cS5F 155 hX hR (tX8_cell (a := 0) (b := 0) (s := 1) (i := 0) (j := 0)) dX8_turn__152 kX8_cell lX8_184 rfl rfl rfl ?_
      refine r_laldV 156 hX dX8_turn__155 rfl rfl (vp_in_nI l0 (by decide)) (nI_clamp (by omega)) (hI9.2 0 0 (by omega) (by omega) 1 0 0 (by decide) (by decide) (by decide)) ?_
      rw [g5]
      refine r_lstore 158 hX dX8_turn__156 rfl ?_
      refine r_iload_n 159 hX dX8_turn__158 rfl ?_
      refine r_iconst 160 hX dX8_turn__159 (v := -1) (by decide) ?_
      refine r_icmp_eq 163 189 hX dX8_turn__160 (fun c1 => ?_) (fun c1 => ?_)
      · refine r_iload 191 hX dX8_turn__189 rfl ?_
        refine r_istore_n 192 hX dX8_turn__191 rfl ?_
        refine (show mx_WW G X 192 [_, _, _, _, _, _, _, _, _] _ _ from ?_)
        refine r_lload 194 hX dX8_turn__192 rfl ?_
        refine r_lstore 196 hX dX8_turn__194 rfl ?_
        refine r_iinc 199 hX dX8_turn__196 rfl (v := 1) (by decide) rfl ?_
        refine r_goto 54 hX dX8_turn__199 ?_
        rw [nI_1]
        have ih2 := ih M9 (.long (mtW M 0 1 tg cap i).toInt64) .null hF9
        first
        | (rw [g3, if_pos (Or.inl c1)] at ih2; exact ih2)
        | (rw [g3, if_pos (Or.inr (hb.mpr c2))] at ih2; exact ih2)
        | (rw [g3, if_neg (fun k => k.elim c1 (fun q => hb.mp q c2))] at ih2; exact ih2)
      · refine r_iload_n 164 hX dX8_turn__163 rfl ?_
        refine r_if_ne 167 178 hX dX8_turn__164 (fun c => absurd c (by decide)) (fun _ => ?_)
        refine r_lload 169 hX dX8_turn__167 rfl ?_
        refine r_lload 171 hX dX8_turn__169 rfl ?_
        refine r_lcmp 172 hX dX8_turn__171 ?_
        refine r_If_gt 175 189 hX dX8_turn__172 (fun c2 => ?_) (fun c2 => ?_)
        · refine r_iload 191 hX dX8_turn__189 rfl ?_
          refine r_istore_n 192 hX dX8_turn__191 rfl ?_
          refine (show mx_WW G X 192 [_, _, _, _, _, _, _, _, _] _ _ from ?_)
          refine r_lload 194 hX dX8_turn__192 rfl ?_
          refine r_lstore 196 hX dX8_turn__194 rfl ?_
          refine r_iinc 199 hX dX8_turn__196 rfl (v := 1) (by decide) rfl ?_
          refine r_goto 54 hX dX8_turn__199 ?_
          rw [nI_1]
          have ih2 := ih M9 (.long (mtW M 0 1 tg cap i).toInt64) .null hF9
          first
          | (rw [g3, if_pos (Or.inl c1)] at ih2; exact ih2)
          | (rw [g3, if_pos (Or.inr (hb.mpr c2))] at ih2; exact ih2)
          | (rw [g3, if_neg (fun k => k.elim c1 (fun q => hb.mp q c2))] at ih2; exact ih2)
        · refine r_goto 196 hX dX8_turn__175 ?_
          refine r_iinc 199 hX dX8_turn__196 rfl (v := 1) (by decide) rfl ?_
          refine (show mx_WW G X 199 [_, _, _, _, _, _, _, _, _] _ _ from ?_)
          refine r_goto 54 hX dX8_turn__199 ?_
          rw [nI_1]
          have ih2 := ih M9 (.long (mtW M 0 1 tg cap i).toInt64) .null hF9
          first
          | (rw [g3, if_pos (Or.inl c1)] at ih2; exact ih2)
          | (rw [g3, if_pos (Or.inr (hb.mpr c2))] at ih2; exact ih2)
          | (rw [g3, if_neg (fun k => k.elim c1 (fun q => hb.mp q c2))] at ih2; exact ih2)
    · intro N w7 w8 hF
      show mx_WW G X 54 [.ref 46, .int 0, .int 1, .int (A 6).1, .long (A 6).2.toInt64, .null, .int 6, w7, w8] [] N
      have e9 : (A 6).2.toInt64.toInt32 = (A 6).2 := by simp
      refine r_iload 56 hX dX8_turn__54 rfl ?_
      refine r_bipush 58 hX dX8_turn__56 (v := 6) (by decide) ?_
      refine r_icmp_ge 61 202 hX dX8_turn__58 (fun _ => ?_) (fun c => absurd c (by decide))
      refine r_aload_n 203 hX dX8_turn__202 rfl ?_
      refine r_lload 205 hX dX8_turn__203 rfl ?_
      refine r_l2i 206 hX dX8_turn__205 ?_
      rw [e9]
      refine r_putI 209 hX dX8_turn__206 fX8_200 fp8_11 rfl rfl rfl ?_
      refine r_aload_n 210 hX dX8_turn__209 rfl ?_
      refine r_iconst 211 hX dX8_turn__210 (v := 1) (by decide) ?_
      refine r_putI 214 hX dX8_turn__211 fX8_132 fp8_12 rfl rfl rfl ?_
      refine r_iload_n 215 hX dX8_turn__214 rfl ?_
      refine r_iret hX hT dX8_turn__215 ?_
      refine ⟨by rw [hA], ?_⟩
      rw [hA]
      exact frM_mI (frM_mI hF 11 _) 12 1
  refine r_aload_n 1 hX dX8_turn__0 rfl ?_
  refine r_iconst 2 hX dX8_turn__1 (v := 0) (by decide) ?_
  refine r_putI 5 hX dX8_turn__2 fX8_63 fp8_13 rfl rfl rfl ?_
  refine r_iload_n 6 hX dX8_turn__5 rfl ?_
  refine r_cS1F 9 hX hR tX8_isTeam_0 dX8_turn__6 kX8_isTeam lX8_71 rfl rfl rfl ?_
  refine r_if_eq 12 44 hX dX8_turn__9 (fun c => absurd c (by decide)) (fun _ => ?_)
  refine r_iload_n 13 hX dX8_turn__12 rfl ?_
  refine r_cS1F 16 hX hR tX8_isTeam_1 dX8_turn__13 kX8_isTeam lX8_71 rfl rfl rfl ?_
  refine r_if_eq 19 44 hX dX8_turn__16 (fun c => absurd c (by decide)) (fun _ => ?_)
  refine r_aload_n 20 hX dX8_turn__19 rfl ?_
  refine r_cV0F 23 hX hR tX8_isOn dX8_turn__20 kX8_isOn lX8_82 rfl rfl rfl rfl rfl rfl ?_
  refine r_Bne 26 44 hX dX8_turn__23 (fun c1 => absurd c1 ho) (fun c1 => ?_)
  refine r_aload_n 27 hX dX8_turn__26 rfl ?_
  refine r_getR 30 hX dX8_turn__27 fX8_22 rfl rfl rfl ?_
  refine r_iconst 31 hX dX8_turn__30 (v := 0) (by decide) ?_
  refine r_zaldK 32 hX dX8_turn__31 rfl rfl (vpK rfl) (j := 0) (by decide) ?_
  refine r_if_eq 35 44 hX dX8_turn__32 (fun c2 => absurd c2 ho0) (fun c2 => ?_)
  refine r_aload_n 36 hX dX8_turn__35 rfl ?_
  refine r_getR 39 hX dX8_turn__36 fX8_22 rfl rfl rfl ?_
  refine r_iconst 40 hX dX8_turn__39 (v := 1) (by decide) ?_
  refine r_zaldK 41 hX dX8_turn__40 rfl rfl (vpK rfl) (j := 1) (by decide) ?_
  refine r_if_ne 44 46 hX dX8_turn__41 (fun c3 => ?_) (fun c3 => absurd c3 ho1)
  refine r_iconst 47 hX dX8_turn__46 (v := -1) (by decide) ?_
  refine r_istore_n 48 hX dX8_turn__47 rfl ?_
  refine r_lconst 49 hX dX8_turn__48 (v := 0) (by decide) ?_
  refine r_lstore 51 hX dX8_turn__49 rfl ?_
  refine r_iconst 52 hX dX8_turn__51 (v := 0) (by decide) ?_
  refine r_istore 54 hX dX8_turn__52 rfl ?_
  skip
  have key := loop (mI M 46 13 0) .null .null ⟨fun _ _ _ => rfl, fun _ _ => rfl⟩
  rw [hA0] at key
  exact key
set_option maxRecDepth 100000 in
set_option maxHeartbeats 4000000 in
theorem tX8_turn__1_1 {l : Launch} {G : mx_G} {tg cap : Nat} {M : mx_Mem} (ho : ¬ M.1 52 1 = 1) (ho0 : ¬ M.1 51 0 = 0) (ho1 : ¬ M.1 51 1 = 0) (h1 : tgM M = nI tg) (h2 : M.1 49 1 = nI cap) (ht : tg ≤ 100) (hcap : cap ≤ 30) (hP : ∀ k : Nat, k < 12 → isP (M.1 50 k)) : mx_Met l G yX8_turn_ cX8_turn_ 9 ((some FieldType.int)) 4 104 [.ref 46, .int 1, .int 1] M ((fun r N => r = some (.int (tuF 1 (mtW M 1 1 tg cap) 6).1) ∧ frM (mI (mI (mI M 46 13 0) 46 11 (tuF 1 (mtW M 1 1 tg cap) 6).2) 46 12 1) N)) := by
  refine mx_enter (own := RX8) (L := [.ref 46, .int 1, .int 1, .null, .null, .null, .null, .null, .null]) (by decide +kernel) rfl rfl rfl ?_
  intro X hlX hX hR hT
  generalize hA : tuF 1 (mtW M 1 1 tg cap) = A
  have hA0 : A 0 = (-1, 0) := by rw [← hA]; rfl
  have hAs : ∀ i, A (i + 1) = if (A i).1 = -1 ∨ bt 1 (mtW M 1 1 tg cap i) (A i).2 then (nI i, mtW M 1 1 tg cap i) else A i := fun i => by rw [← hA]; rfl
  have l0 := ce_lt (a := 0) (b := 0) (s := 1) (i := 0) (j := 0) (by decide) (by decide) (by decide) (by decide) (by decide)
  have loop : ∀ N w7 w8, frM (mI M 46 13 0) N → mx_WW G X 54 [.ref 46, .int 1, .int 1, .int (A 0).1, .long (A 0).2.toInt64, .null, .int (nI 0), w7, w8] [] N := by
    refine mx_back (P := fun i => ∀ N w7 w8, frM (mI M 46 13 0) N → mx_WW G X 54 [.ref 46, .int 1, .int 1, .int (A i).1, .long (A i).2.toInt64, .null, .int (nI i), w7, w8] [] N) 6 (fun i hi ih => ?_) ?_
    · intro N w7 w8 hF
      have g1 : ¬ 6 ≤ nI i := nI_ge (b := 6) hi (by decide)
      have g3 := hAs i
      have fN : frM (mI M 46 13 0) (nxM N 0 i) := frM_tr hF (frM_nx N _ _)
      have e50 : ∀ k, N.1 50 k = M.1 50 k := fun k => by rw [hF.1 50 (by decide) (by decide), mI_ne _ _ _ _ (by decide)]
      have e1 : tgM (nxM N 0 i) = nI tg := (tgM_fr fN).trans h1
      have e2 : (nxM N 0 i).1 49 1 = nI cap := by rw [fN.1 49 (by decide) (by decide), mI_ne _ _ _ _ (by decide)]; exact h2
      have e3 : ∀ k : Nat, k < 12 → isP ((nxM N 0 i).1 58 k) := fun k hk => by
        rw [nx_all _ _ _ k hk]
        split
        · rw [e50]; exact hP _ (by omega)
        · rw [e50]; exact hP _ (by omega)
      have g5 : lN (UU tg cap (moN (nxM N 0 i)) 0 0 1 0 0) = (mtW M 1 1 tg cap i).toInt64 := by
        have u1 : UU tg cap (moN (nxM N 0 i)) 0 0 1 0 0 = UU tg cap (moN (nxM M 0 i)) 0 0 1 0 0 := by
          refine UU_congr ?_ (fun k hk => ?_) 0 0 1 0 0
          · rw [fN.1 47 (by decide) (by decide), (frM_nx M _ _).1 47 (by decide) (by decide)]; rfl
          · rw [nx_all _ _ _ k hk, nx_all _ _ _ k hk, e50, e50]
        have u2 := UU_le tg cap (nxM M 0 i) 0 0 1 0 0
        rw [u1, ← nI_l (by omega)]
        rfl
      have hb : bt 1 (mtW M 1 1 tg cap i) (A i).2 ↔ ¬ 0 ≤ lg_cmp (mtW M 1 1 tg cap i).toInt64 (A i).2.toInt64 := by
        rw [lg_cmp_ge, l64_le]
        exact Iff.rfl
      refine r_iload 56 hX dX8_turn__54 rfl ?_
      refine r_bipush 58 hX dX8_turn__56 (v := 6) (by decide) ?_
      refine r_icmp_ge 61 202 hX dX8_turn__58 (fun c1 => absurd c1 g1) (fun c1 => ?_)
      refine r_iconst 62 hX dX8_turn__61 (v := 0) (by decide) ?_
      refine r_istore 64 hX dX8_turn__62 rfl ?_
      refine r_iload 66 hX dX8_turn__64 rfl ?_
      refine r_iconst 67 hX dX8_turn__66 (v := 2) (by decide) ?_
      refine r_icmp_ge 70 135 hX dX8_turn__67 (fun c => absurd c (by decide)) (fun _ => ?_)
      refine r_iconst 71 hX dX8_turn__70 (v := 0) (by decide) ?_
      refine r_istore 73 hX dX8_turn__71 rfl ?_
      skip
      refine tul_1_0 (N.1 50) (fun _ => rfl) hi hX ?_
      refine r_iincK 132 hX dX8_turn__129 rfl (w := 1) (by decide) rfl ?_
      refine r_goto 64 hX dX8_turn__132 ?_
      refine r_iload 66 hX dX8_turn__64 rfl ?_
      refine r_iconst 67 hX dX8_turn__66 (v := 2) (by decide) ?_
      refine r_icmp_ge 70 135 hX dX8_turn__67 (fun c => absurd c (by decide)) (fun _ => ?_)
      refine r_iconst 71 hX dX8_turn__70 (v := 0) (by decide) ?_
      refine r_istore 73 hX dX8_turn__71 rfl ?_
      skip
      refine tul_1_1 (N.1 50) (fun j => by rw [fwM_ne _ _ (by decide)]) hi hX ?_
      refine (show mx_WW G X 129 [.ref 46, .int 1, .int 1, .int (A i).1, .long (A i).2.toInt64, .null, .int (nI i), .int 1, .int 6] [] (nxM N 0 i) from ?_)
      generalize hN2 : nxM N 0 i = N2 at fN e1 e2 e3 g5 ⊢
      refine r_iincK 132 hX dX8_turn__129 rfl (w := 2) (by decide) rfl ?_
      refine r_goto 64 hX dX8_turn__132 ?_
      refine r_iload 66 hX dX8_turn__64 rfl ?_
      refine r_iconst 67 hX dX8_turn__66 (v := 2) (by decide) ?_
      refine r_icmp_ge 70 135 hX dX8_turn__67 (fun _ => ?_) (fun c => absurd c (by decide))
      refine r_aload_n 136 hX dX8_turn__135 rfl ?_
      refine r_aload_n 137 hX dX8_turn__136 rfl ?_
      refine r_cV0F 140 hX hR tX8_goal dX8_turn__137 kX8_goal lX8_102 rfl rfl rfl rfl rfl rfl ?_
      rw [e1]
      refine r_cV1G 143 hX hR (tX8_fill ht hcap e2 e3) dX8_turn__140 kX8_fill lX8_194 rfl rfl rfl rfl rfl rfl (fun r9 M9 hp9 => ?_)
      obtain ⟨rfl, hI9⟩ := hp9
      show mx_WW G X 143 _ [] M9
      have hF9 : frM (mI M 46 13 0) M9 := frM_tr fN (frM_fl hI9)
      refine r_aload_n 144 hX dX8_turn__143 rfl ?_
      refine r_getR 147 hX dX8_turn__144 fX8_52 rfl rfl rfl ?_
      refine r_iconst 148 hX dX8_turn__147 (v := 0) (by decide) ?_
      refine r_iconst 149 hX dX8_turn__148 (v := 0) (by decide) ?_
      refine r_iload_n 150 hX dX8_turn__149 rfl ?_
      refine r_iconst 151 hX dX8_turn__150 (v := 0) (by decide) ?_
      refine r_iconst 152 hX dX8_turn__151 (v := 0) (by decide) ?_
      refine r_cS5F 155 hX hR (tX8_cell (a := 0) (b := 0) (s := 1) (i := 0) (j := 0)) dX8_turn__152 kX8_cell lX8_184 rfl rfl rfl ?_
      refine r_laldV 156 hX dX8_turn__155 rfl rfl (vp_in_nI l0 (by decide)) (nI_clamp (by omega)) (hI9.2 0 0 (by omega) (by omega) 1 0 0 (by decide) (by decide) (by decide)) ?_
      rw [g5]
      refine r_lstore 158 hX dX8_turn__156 rfl ?_
      refine r_iload_n 159 hX dX8_turn__158 rfl ?_
      refine r_iconst 160 hX dX8_turn__159 (v := -1) (by decide) ?_
      refine r_icmp_eq 163 189 hX dX8_turn__160 (fun c1 => ?_) (fun c1 => ?_)
      · refine r_iload 191 hX dX8_turn__189 rfl ?_
        refine r_istore_n 192 hX dX8_turn__191 rfl ?_
        refine (show mx_WW G X 192 [_, _, _, _, _, _, _, _, _] _ _ from ?_)
        refine r_lload 194 hX dX8_turn__192 rfl ?_
        refine r_lstore 196 hX dX8_turn__194 rfl ?_
        refine r_iinc 199 hX dX8_turn__196 rfl (v := 1) (by decide) rfl ?_
        refine r_goto 54 hX dX8_turn__199 ?_
        rw [nI_1]
        have ih2 := ih M9 (.long (mtW M 1 1 tg cap i).toInt64) .null hF9
        first
        | (rw [g3, if_pos (Or.inl c1)] at ih2; exact ih2)
        | (rw [g3, if_pos (Or.inr (hb.mpr c2))] at ih2; exact ih2)
        | (rw [g3, if_neg (fun k => k.elim c1 (fun q => hb.mp q c2))] at ih2; exact ih2)
      · refine r_iload_n 164 hX dX8_turn__163 rfl ?_
        refine r_if_ne 167 178 hX dX8_turn__164 (fun _ => ?_) (fun c => absurd c (by decide))
        refine r_lload 180 hX dX8_turn__178 rfl ?_
        refine r_lload 182 hX dX8_turn__180 rfl ?_
        refine r_lcmp 183 hX dX8_turn__182 ?_
        refine r_If_lt 186 189 hX dX8_turn__183 (fun c2 => ?_) (fun c2 => ?_)
        · refine r_iload 191 hX dX8_turn__189 rfl ?_
          refine r_istore_n 192 hX dX8_turn__191 rfl ?_
          refine (show mx_WW G X 192 [_, _, _, _, _, _, _, _, _] _ _ from ?_)
          refine r_lload 194 hX dX8_turn__192 rfl ?_
          refine r_lstore 196 hX dX8_turn__194 rfl ?_
          refine r_iinc 199 hX dX8_turn__196 rfl (v := 1) (by decide) rfl ?_
          refine r_goto 54 hX dX8_turn__199 ?_
          rw [nI_1]
          have ih2 := ih M9 (.long (mtW M 1 1 tg cap i).toInt64) .null hF9
          first
          | (rw [g3, if_pos (Or.inl c1)] at ih2; exact ih2)
          | (rw [g3, if_pos (Or.inr (hb.mpr c2))] at ih2; exact ih2)
          | (rw [g3, if_neg (fun k => k.elim c1 (fun q => hb.mp q c2))] at ih2; exact ih2)
        · refine r_goto 196 hX dX8_turn__186 ?_
          refine r_iinc 199 hX dX8_turn__196 rfl (v := 1) (by decide) rfl ?_
          refine (show mx_WW G X 199 [_, _, _, _, _, _, _, _, _] _ _ from ?_)
          refine r_goto 54 hX dX8_turn__199 ?_
          rw [nI_1]
          have ih2 := ih M9 (.long (mtW M 1 1 tg cap i).toInt64) .null hF9
          first
          | (rw [g3, if_pos (Or.inl c1)] at ih2; exact ih2)
          | (rw [g3, if_pos (Or.inr (hb.mpr c2))] at ih2; exact ih2)
          | (rw [g3, if_neg (fun k => k.elim c1 (fun q => hb.mp q c2))] at ih2; exact ih2)
    · intro N w7 w8 hF
      show mx_WW G X 54 [.ref 46, .int 1, .int 1, .int (A 6).1, .long (A 6).2.toInt64, .null, .int 6, w7, w8] [] N
      have e9 : (A 6).2.toInt64.toInt32 = (A 6).2 := by simp
      refine r_iload 56 hX dX8_turn__54 rfl ?_
      refine r_bipush 58 hX dX8_turn__56 (v := 6) (by decide) ?_
      refine r_icmp_ge 61 202 hX dX8_turn__58 (fun _ => ?_) (fun c => absurd c (by decide))
      refine r_aload_n 203 hX dX8_turn__202 rfl ?_
      refine r_lload 205 hX dX8_turn__203 rfl ?_
      refine r_l2i 206 hX dX8_turn__205 ?_
      rw [e9]
      refine r_putI 209 hX dX8_turn__206 fX8_200 fp8_11 rfl rfl rfl ?_
      refine r_aload_n 210 hX dX8_turn__209 rfl ?_
      refine r_iconst 211 hX dX8_turn__210 (v := 1) (by decide) ?_
      refine r_putI 214 hX dX8_turn__211 fX8_132 fp8_12 rfl rfl rfl ?_
      refine r_iload_n 215 hX dX8_turn__214 rfl ?_
      refine r_iret hX hT dX8_turn__215 ?_
      refine ⟨by rw [hA], ?_⟩
      rw [hA]
      exact frM_mI (frM_mI hF 11 _) 12 1
  refine r_aload_n 1 hX dX8_turn__0 rfl ?_
  refine r_iconst 2 hX dX8_turn__1 (v := 0) (by decide) ?_
  refine r_putI 5 hX dX8_turn__2 fX8_63 fp8_13 rfl rfl rfl ?_
  refine r_iload_n 6 hX dX8_turn__5 rfl ?_
  refine r_cS1F 9 hX hR tX8_isTeam_1 dX8_turn__6 kX8_isTeam lX8_71 rfl rfl rfl ?_
  refine r_if_eq 12 44 hX dX8_turn__9 (fun c => absurd c (by decide)) (fun _ => ?_)
  refine r_iload_n 13 hX dX8_turn__12 rfl ?_
  refine r_cS1F 16 hX hR tX8_isTeam_1 dX8_turn__13 kX8_isTeam lX8_71 rfl rfl rfl ?_
  refine r_if_eq 19 44 hX dX8_turn__16 (fun c => absurd c (by decide)) (fun _ => ?_)
  refine r_aload_n 20 hX dX8_turn__19 rfl ?_
  refine r_cV0F 23 hX hR tX8_isOn dX8_turn__20 kX8_isOn lX8_82 rfl rfl rfl rfl rfl rfl ?_
  refine r_Bne 26 44 hX dX8_turn__23 (fun c1 => absurd c1 ho) (fun c1 => ?_)
  refine r_aload_n 27 hX dX8_turn__26 rfl ?_
  refine r_getR 30 hX dX8_turn__27 fX8_22 rfl rfl rfl ?_
  refine r_iconst 31 hX dX8_turn__30 (v := 0) (by decide) ?_
  refine r_zaldK 32 hX dX8_turn__31 rfl rfl (vpK rfl) (j := 0) (by decide) ?_
  refine r_if_eq 35 44 hX dX8_turn__32 (fun c2 => absurd c2 ho0) (fun c2 => ?_)
  refine r_aload_n 36 hX dX8_turn__35 rfl ?_
  refine r_getR 39 hX dX8_turn__36 fX8_22 rfl rfl rfl ?_
  refine r_iconst 40 hX dX8_turn__39 (v := 1) (by decide) ?_
  refine r_zaldK 41 hX dX8_turn__40 rfl rfl (vpK rfl) (j := 1) (by decide) ?_
  refine r_if_ne 44 46 hX dX8_turn__41 (fun c3 => ?_) (fun c3 => absurd c3 ho1)
  refine r_iconst 47 hX dX8_turn__46 (v := -1) (by decide) ?_
  refine r_istore_n 48 hX dX8_turn__47 rfl ?_
  refine r_lconst 49 hX dX8_turn__48 (v := 0) (by decide) ?_
  refine r_lstore 51 hX dX8_turn__49 rfl ?_
  refine r_iconst 52 hX dX8_turn__51 (v := 0) (by decide) ?_
  refine r_istore 54 hX dX8_turn__52 rfl ?_
  skip
  have key := loop (mI M 46 13 0) .null .null ⟨fun _ _ _ => rfl, fun _ _ => rfl⟩
  rw [hA0] at key
  exact key

/-! chances of the model: the whole table -/
def tbO (tg cap : Nat) (od : Nat → Nat → Nat → Nat) (a b : Nat) (N : mx_Mem) : Prop := ∀ s i j, s < 2 → i < 6 → j < 6 → N.2 60 (ceN a b s i j) = lN (UU tg cap od a b s i j)
def tbI (M : mx_Mem) (tg cap : Nat) (od : Nat → Nat → Nat → Nat) (n a0 : Nat) (N : mx_Mem) : Prop := (N.1 = M.1 ∧ ∀ k, k ≠ 60 → N.2 k = M.2 k) ∧ ∀ a b, a ≤ cap → b ≤ cap → (n < a + b ∨ (a + b = n ∧ a < a0)) → tbO tg cap od a b N
theorem tbI_s {M N0 N : mx_Mem} {tg cap n a b : Nat} {od : Nat → Nat → Nat → Nat} (h : tbI M tg cap od n a N0) (hcap : cap ≤ 30) (hb : b ≤ cap) (hn : a + b = n) (ht : tcI N0 (UU tg cap od a b) a b 6 0 N) : tbI M tg cap od n (a + 1) N := by
  refine ⟨⟨ht.1.1.trans h.1.1, fun k hk => (ht.1.2 k hk).trans (h.1.2 k hk)⟩, fun a' b' ha' hb' hd s i j hs hi hj => ?_⟩
  by_cases e : a' = a ∧ b' = b
  · obtain ⟨rfl, rfl⟩ := e
    exact ht.2.2 s i j hs hj (by omega)
  · rw [tcI_o ht (by omega) (by omega) hs hi hj (by omega)]
    exact h.2 a' b' ha' hb' (by omega) s i j hs hi hj
theorem mw_iff {tg cap a b : Nat} (h1 : tg ≤ 100) (h2 : cap ≤ 100) (ha : a ≤ 100) (hb : b ≤ 100) : ((nI tg ≤ nI a ∧ 2 ≤ nI a - nI b) ∨ nI cap ≤ nI a) ↔ wnN tg cap a b := by
  rw [← wn_iff h1 h2 ha hb]
  exact Or.comm
theorem max_n {n cap : Nat} (h1 : n ≤ 100) (h2 : cap ≤ 100) : (if (0 : Int32) ≤ nI n - nI cap then nI n - nI cap else 0) = nI (n - cap) := by
  by_cases e : cap ≤ n
  · rw [pk_sub e, if_pos (nI_pos' (by omega))]
  · rw [if_neg]
    · rw [show n - cap = 0 by omega]; rfl
    · rw [Int32.le_iff_toInt_le, pk_sub_toInt (by omega) (by omega)]
      have : (0 : Int32).toInt = 0 := rfl
      omega
theorem min_n {n cap : Nat} (h1 : n ≤ 100) (h2 : cap ≤ 100) : (if nI cap ≤ nI n then nI cap else nI n) = nI (min cap n) := by
  by_cases e : cap ≤ n
  · rw [if_pos ((nI_leI (by omega) (by omega)).2 e), Nat.min_eq_left e]
  · rw [if_neg (fun k => e ((nI_leI (by omega) (by omega)).1 k)), Nat.min_eq_right (by omega)]
theorem fscore {G : mx_G} {X : mx_X} {M N : mx_Mem} {tg cap n a b : Nat} {od : Nat → Nat → Nat → Nat} {w5 w6 w7 w8 w9 : Value} (hX : mx_OK G X RX8 cX8_fill 10) (hR : mx_RM X 3 75) (htg : tg ≤ 100) (hcap : cap ≤ 30) (hN1 : M.1 49 1 = nI cap) (hod : ∀ s i j, s < 2 → i < 6 → j < 6 → M.1 59 ((s * 6 + i) * 6 + j) = nI (od s i j)) (hc : ∀ s i j, od s i j ≤ 1000) (ha : a ≤ cap) (hb : b ≤ cap) (hn : a + b = n) (hI : tbI M tg cap od n a N)
    (hE : ∀ N w5 w6 w7 w8 w9, tbI M tg cap od n (a + 1) N → mx_WW G X 92 [.ref 46, .int (nI tg), .int (nI cap), .int (nI n), .int (nI (a + 1)), w5, w6, w7, w8, w9] [] N) : mx_WW G X 102 [.ref 46, .int (nI tg), .int (nI cap), .int (nI n), .int (nI a), w5, w6, w7, w8, w9] [] N := by
  have e1 : nI n - nI a = nI b := by rw [← hn, pk_sub (by omega)]; congr 1; omega
  have e2 : N.1 49 1 = nI cap := by rw [hI.1.1]; exact hN1
  have w1 := mw_iff (tg := tg) (cap := cap) (a := a) (b := b) htg (by omega) (by omega) (by omega)
  have w2 := mw_iff (tg := tg) (cap := cap) (a := b) (b := a) htg (by omega) (by omega) (by omega)
  have us := fun s i j => UU_step tg cap od a b s i j (by omega)
  have hle : ∀ a b s i j, UU tg cap od a b s i j ≤ 1000000000 := fun a b s i j => uF_le tg cap od hc _ _ _ _ _ _
  have t0 : ∀ U, tcI N U a b 0 0 N := fun U => ⟨⟨rfl, fun _ _ => rfl⟩, fun _ _ => rfl, fun s i' j' _ _ hd => by omega⟩
  have fin : ∀ (ov : Int64) N2 w9, tcI N (UU tg cap od a b) a b 6 0 N2 → mx_WW G X 362 [.ref 46, .int (nI tg), .int (nI cap), .int (nI n), .int (nI a), .int (nI b), .long ov, .null, .int 6, w9] [] N2 := by
    intro ov N2 w9 h
    refine r_iinc 365 hX dX8_fill_362 rfl (v := 1) (by decide) rfl ?_
    refine r_goto 92 hX dX8_fill_365 ?_
    rw [nI_1]
    exact hE _ _ _ _ _ _ (tbI_s hI hcap hb hn h)
  have fA : ∀ v, ¬ lg_cmp (lN v) (-1) = 0 → (∀ s i j, UU tg cap od a b s i j = v) → ∀ w9, mx_WW G X 150 [.ref 46, .int (nI tg), .int (nI cap), .int (nI n), .int (nI a), .int (nI b), .long (lN v), .null, .int (nI 0), w9] [] N := fun v k1 k2 w9 => tcl_0 hX hR (by omega) (by omega) k1 k2 (fun N2 w9 h => fin _ N2 w9 h) N w9 (t0 _)
  have fB : ¬ wnN tg cap a b → ¬ wnN tg cap b a → ∀ w9, mx_WW G X 150 [.ref 46, .int (nI tg), .int (nI cap), .int (nI n), .int (nI a), .int (nI b), .long (-1), .null, .int (nI 0), w9] [] N := fun k1 k2 w9 => by
    have k3 : a < cap ∧ b < cap := by unfold wnN at k1 k2; omega
    refine tcl_1 (od := od) (X1 := fun i j => UU tg cap od (a + 1) b 0 i j) (Y1 := fun i j => UU tg cap od a (b + 1) 1 i j) hX hR (by omega) (by omega) (fun s i j h1 h2 h3 => by rw [hI.1.1]; exact hod s i j h1 h2 h3) hc (fun i j => hle _ _ _ _ _) (fun i j => hle _ _ _ _ _) (fun i j h1 h2 => hI.2 (a + 1) b (by omega) hb (by omega) 0 i j (by decide) h1 h2) (fun i j h1 h2 => hI.2 a (b + 1) ha (by omega) (by omega) 1 i j (by decide) h1 h2) (fun i j => ?_) (fun i j => ?_) (fun N2 w9 h => fin _ N2 w9 h) N w9 (t0 _)
    · rw [us, if_neg k1, if_neg k2, if_pos rfl]
    · rw [us, if_neg k1, if_neg k2, if_neg (by decide)]
  refine r_iload_n 103 hX dX8_fill_102 rfl ?_
  refine r_iload 105 hX dX8_fill_103 rfl ?_
  refine r_isub 106 hX dX8_fill_105 ?_
  rw [e1]
  refine r_istore 108 hX dX8_fill_106 rfl ?_
  refine r_aload_n 109 hX dX8_fill_108 rfl ?_
  refine r_iload 111 hX dX8_fill_109 rfl ?_
  refine r_iload 113 hX dX8_fill_111 rfl ?_
  refine r_iload_n 114 hX dX8_fill_113 rfl ?_
  refine r_cV3F 117 hX hR tX8_wins dX8_fill_114 kX8_wins lX8_110 rfl rfl rfl rfl rfl rfl ?_
  rw [e2]
  refine r_Beq 120 126 hX dX8_fill_117 (fun c1 => ?_) (fun c1 => ?_)
  · refine r_aload_n 127 hX dX8_fill_126 rfl ?_
    refine r_iload 129 hX dX8_fill_127 rfl ?_
    refine r_iload 131 hX dX8_fill_129 rfl ?_
    refine r_iload_n 132 hX dX8_fill_131 rfl ?_
    refine r_cV3F 135 hX hR tX8_wins dX8_fill_132 kX8_wins lX8_110 rfl rfl rfl rfl rfl rfl ?_
    rw [e2]
    refine r_Beq 138 142 hX dX8_fill_135 (fun c2 => ?_) (fun c2 => ?_)
    · refine r_ldc2 145 hX dX8_fill_142 qX8_182 ?_
      refine r_lstore 147 hX dX8_fill_145 rfl ?_
      refine r_iconst 148 hX dX8_fill_147 (v := 0) (by decide) ?_
      refine r_istore 150 hX dX8_fill_148 rfl ?_
      first
      | exact fB (fun k => c1 (w1.2 k)) (fun k => c2 (w2.2 k)) _
      | exact fA 0 (by decide) (fun s i j => by rw [us, if_neg (fun k => c1 (w1.2 k)), if_pos (w2.1 c2)]) _
      | exact fA 1000000000 (by decide) (fun s i j => by rw [us, if_pos (w1.1 c1)]) _
    · refine r_lconst 139 hX dX8_fill_138 (v := 0) (by decide) ?_
      refine r_goto 145 hX dX8_fill_139 ?_
      refine r_lstore 147 hX dX8_fill_145 rfl ?_
      refine r_iconst 148 hX dX8_fill_147 (v := 0) (by decide) ?_
      refine r_istore 150 hX dX8_fill_148 rfl ?_
      first
      | exact fB (fun k => c1 (w1.2 k)) (fun k => c2 (w2.2 k)) _
      | exact fA 0 (by decide) (fun s i j => by rw [us, if_neg (fun k => c1 (w1.2 k)), if_pos (w2.1 c2)]) _
      | exact fA 1000000000 (by decide) (fun s i j => by rw [us, if_pos (w1.1 c1)]) _
  · refine r_ldc2 123 hX dX8_fill_120 qX8_180 ?_
    refine r_goto 145 hX dX8_fill_123 ?_
    refine r_lstore 147 hX dX8_fill_145 rfl ?_
    refine r_iconst 148 hX dX8_fill_147 (v := 0) (by decide) ?_
    refine r_istore 150 hX dX8_fill_148 rfl ?_
    first
    | exact fB (fun k => c1 (w1.2 k)) (fun k => c2 (w2.2 k)) _
    | exact fA 0 (by decide) (fun s i j => by rw [us, if_neg (fun k => c1 (w1.2 k)), if_pos (w2.1 c2)]) _
    | exact fA 1000000000 (by decide) (fun s i j => by rw [us, if_pos (w1.1 c1)]) _
theorem fsum {G : mx_G} {X : mx_X} {M : mx_Mem} {tg cap n : Nat} {od : Nat → Nat → Nat → Nat} (hX : mx_OK G X RX8 cX8_fill 10) (hR : mx_RM X 3 75) (htg : tg ≤ 100) (hcap : cap ≤ 30) (hN1 : M.1 49 1 = nI cap) (hod : ∀ s i j, s < 2 → i < 6 → j < 6 → M.1 59 ((s * 6 + i) * 6 + j) = nI (od s i j)) (hc : ∀ s i j, od s i j ≤ 1000) (hn : n ≤ 2 * cap)
    (hE : ∀ N w4 w5 w6 w7 w8 w9, tbI M tg cap od n (min cap n + 1) N → mx_WW G X 368 [.ref 46, .int (nI tg), .int (nI cap), .int (nI n), w4, w5, w6, w7, w8, w9] [] N) : ∀ d a N w5 w6 w7 w8 w9, a + d = min cap n + 1 → n - cap ≤ a → tbI M tg cap od n a N → mx_WW G X 92 [.ref 46, .int (nI tg), .int (nI cap), .int (nI n), .int (nI a), w5, w6, w7, w8, w9] [] N := by
  have gm := min_n (n := n) (cap := cap) (by omega) (by omega)
  intro d
  induction d with
  | zero =>
    intro a N w5 w6 w7 w8 w9 hd ha hI
    have g1 : ¬ nI a ≤ nI (min cap n) := fun k => by have := (nI_leI (by omega) (by omega)).1 k; omega
    refine r_iload 94 hX dX8_fill_92 rfl ?_
    refine r_iload_n 95 hX dX8_fill_94 rfl ?_
    refine r_iload_n 96 hX dX8_fill_95 rfl ?_
    refine r_mmin 99 hX hR dX8_fill_96 lX8_147 rfl rfl rfl ?_
    rw [gm]
    refine r_Icmp_gt 102 368 hX dX8_fill_99 (fun c1 => ?_) (fun c1 => absurd c1 g1)
    exact hE _ _ _ _ _ _ _ (by rw [← hd]; exact hI)
  | succ d ih =>
    intro a N w5 w6 w7 w8 w9 hd ha hI
    have g1 : nI a ≤ nI (min cap n) := (nI_leI (by omega) (by omega)).2 (by omega)
    refine r_iload 94 hX dX8_fill_92 rfl ?_
    refine r_iload_n 95 hX dX8_fill_94 rfl ?_
    refine r_iload_n 96 hX dX8_fill_95 rfl ?_
    refine r_mmin 99 hX hR dX8_fill_96 lX8_147 rfl rfl rfl ?_
    rw [gm]
    refine r_Icmp_gt 102 368 hX dX8_fill_99 (fun c1 => absurd g1 c1) (fun c1 => ?_)
    exact fscore (b := n - a) hX hR htg hcap hN1 hod hc (by omega) (by omega) (by omega) hI (fun N w5 w6 w7 w8 w9 h => ih (a + 1) N w5 w6 w7 w8 w9 (by omega) (by omega) h)

/-! the model: sheets, the loops -/
/-- the first loop of sheet: what reads finds -/
def mff (f : Nat → Int32) (e : Nat) : Nat → Nat → Option Int32
  | 0, _ => none
  | k + 1, p => if e ≤ p then none else if 0 ≤ mrd f p e then mff f e k (p + (mrd f p e).toNatClampNeg) else some (mrd f p e)
theorem mrd_c (f : Nat → Int32) (a e : Nat) (h : a < 100) : (¬ 0 ≤ mrd f a e) ∨ (mrd f a e = 1 ∨ mrd f a e = 2 ∨ mrd f a e = 3) := by
  have hneg : ∀ k : Nat, k < 4 → 0 < k → ¬ 0 ≤ -nI k - nI a := fun k hk h0 q => by
    have h1 := Int32.le_iff_toInt_le.mp q
    rw [Int32.toInt_zero, fb_subI, fb_negI, nI_toInt (by omega), nI_toInt (by omega)] at h1
    · omega
    · rw [nI_toInt (by omega)]; omega
    · rw [fb_negI (by rw [nI_toInt (by omega)]; omega), nI_toInt (by omega), nI_toInt (by omega)]; omega
    · rw [fb_negI (by rw [nI_toInt (by omega)]; omega), nI_toInt (by omega), nI_toInt (by omega)]; omega
  unfold mrd
  repeat' split
  · right; left; rfl
  · left; exact hneg 1 (by decide) (by decide)
  · right; right; left; rfl
  · left; exact hneg 2 (by decide) (by decide)
  · left; exact hneg 3 (by decide) (by decide)
  · right; right; right; rfl
theorem mrd_e (f : Nat → Int32) (a e : Nat) (h : a < 100) (h0 : 0 ≤ mrd f a e) : mrd f a e = nI (mrd f a e).toNatClampNeg ∧ 1 ≤ (mrd f a e).toNatClampNeg ∧ (mrd f a e).toNatClampNeg ≤ 3 := by
  rcases mrd_c f a e h with q | q | q | q
  · exact absurd h0 q
  all_goals rw [q]; exact ⟨rfl, by decide, by decide⟩
abbrev isA (c : Int32) : Prop := (c = 65 ∨ c = 66) ∨ (c = 97 ∨ c = 98)
def MI (M : mx_Mem) : Prop := M.1 52 1 = 1 → (isP (M.1 52 14) ∧ isP (M.1 52 64)) ∧ (¬ M.1 52 10 = -1 → ¬ plc (mpl_0 M) (M.1 48 0) = -1) ∧ (¬ M.1 52 60 = -1 → ¬ plc (mpl_1 M) (M.1 48 1) = -1)
def mdiR (M : mx_Mem) (a : Nat) : Int32 := if M.1 56 a = 65 ∨ M.1 56 a = 66 then (if M.1 52 1 = 1 then 1 else 0) else if M.1 56 a = 97 then mitR_0 M (M.1 56 (a + 1)) (plo (M.1 56 (a + 2))) else mitR_1 M (M.1 56 (a + 1)) (plo (M.1 56 (a + 2)))
def mdiM (M : mx_Mem) (a : Nat) : mx_Mem := if M.1 56 a = 65 then (if M.1 52 1 = 1 then ptM_0 (ptB_0 M) (tgM M) else M) else if M.1 56 a = 66 then (if M.1 52 1 = 1 then ptM_1 (ptB_1 M) (tgM M) else M) else if M.1 56 a = 97 then mitM_0 M (M.1 56 (a + 1)) (plo (M.1 56 (a + 2))) else mitM_1 M (M.1 56 (a + 1)) (plo (M.1 56 (a + 2)))
theorem mit01 (M : mx_Mem) (b q : Int32) : (mitR_0 M b q = 0 ∨ mitR_0 M b q = 1) ∧ (mitR_1 M b q = 0 ∨ mitR_1 M b q = 1) := by
  constructor
  · unfold mitR_0
    repeat' split
    all_goals simp
  · unfold mitR_1
    repeat' split
    all_goals simp
theorem mdiR01 (M : mx_Mem) (a : Nat) : mdiR M a = 0 ∨ mdiR M a = 1 := by
  unfold mdiR
  split
  · split <;> simp
  · split
    · exact (mit01 _ _ _).1
    · exact (mit01 _ _ _).2
set_option maxRecDepth 100000 in
set_option maxHeartbeats 4000000 in
theorem tX8_doItem_off {l : Launch} {G : mx_G} {a : Nat} {M : mx_Mem} (ha : a < 100) (ho : ¬ M.1 52 1 = 1) : mx_Met l G yX8_doItem cX8_doItem 6 ((some FieldType.boolean)) 4 85 [.ref 46, .int (nI a)] M (mx_F (some (.int 0)) M) := by
  refine mx_enter (own := RX8) (L := [.ref 46, .int (nI a), .null, .null, .null, .null]) (by decide +kernel) rfl rfl rfl ?_
  intro X hlX hX hR hT
  refine r_aload_n 1 hX dX8_doItem_0 rfl ?_
  refine r_getR 4 hX dX8_doItem_1 fX8_38 rfl rfl rfl ?_
  refine r_iload_n 5 hX dX8_doItem_4 rfl ?_
  refine r_baldK 6 hX dX8_doItem_5 rfl rfl (vp_in_nI ha (by decide)) (j := a) (nI_clamp (by omega)) ?_
  refine r_istore_n 7 hX dX8_doItem_6 rfl ?_
  refine r_aload_n 8 hX dX8_doItem_7 rfl ?_
  refine r_cV0F 11 hX hR tX8_isOn dX8_doItem_8 kX8_isOn lX8_82 rfl rfl rfl rfl rfl rfl ?_
  refine r_Bne 14 16 hX dX8_doItem_11 (fun c1 => absurd c1 ho) (fun c1 => ?_)
  refine r_iconst 15 hX dX8_doItem_14 (v := 0) (by decide) ?_
  refine r_zret hX hT dX8_doItem_15 (by first | assumption | decide) ?_
  exact ⟨rfl, rfl⟩
theorem mdi_off {M : mx_Mem} (ho : ¬ M.1 52 1 = 1) (a : Nat) : mdiR M a = 0 ∧ mdiM M a = M := by
  have z0 : ∀ b q, mitR_0 M b q = 0 ∧ mitM_0 M b q = M := fun b q => by
    unfold mitR_0 mitM_0
    rw [if_pos ho, if_pos ho]
    exact ⟨rfl, rfl⟩
  have z1 : ∀ b q, mitR_1 M b q = 0 ∧ mitM_1 M b q = M := fun b q => by
    unfold mitR_1 mitM_1
    rw [if_pos ho, if_pos ho]
    exact ⟨rfl, rfl⟩
  unfold mdiR mdiM
  rw [if_neg ho, if_neg ho, if_neg ho, (z0 _ _).1, (z1 _ _).1, (z0 _ _).2, (z1 _ _).2]
  simp only [ite_self]
  exact ⟨trivial, trivial⟩
theorem tX8_doItem {l : Launch} {G : mx_G} {a : Nat} {M : mx_Mem} (ha : a + 2 < 100) (hA : isA (M.1 56 a)) (hI : MI M) : mx_Met l G yX8_doItem cX8_doItem 6 (some FieldType.boolean) 4 85 [.ref 46, .int (nI a)] M (mx_F (some (.int (bI (¬ mdiR M a = 0)))) (mdiM M a)) := by
  have e : bI (¬ mdiR M a = 0) = mdiR M a := by
    rcases mdiR01 M a with h | h <;> rw [h] <;> decide
  rw [e]
  by_cases ho : M.1 52 1 = 1
  case neg => rw [(mdi_off ho a).1, (mdi_off ho a).2]; exact tX8_doItem_off (by omega) ho
  obtain ⟨⟨h1, h2⟩, h3, h4⟩ := hI ho
  rcases hA with (h | h) | (h | h)
  · have := tX8_doItem_r0 (l := l) (G := G) (show a < 100 by omega) h h1
    unfold mdiR mdiM
    rw [if_pos (Or.inl h), if_pos h]
    exact this
  · have := tX8_doItem_r1 (l := l) (G := G) (show a < 100 by omega) h h2
    have n1 : ¬ M.1 56 a = 65 := by rw [h]; decide
    unfold mdiR mdiM
    rw [if_pos (Or.inr h), if_neg n1, if_pos h]
    exact this
  · have := tX8_doItem_t0 (l := l) (G := G) ha h h3
    have n1 : ¬ M.1 56 a = 65 := by rw [h]; decide
    have n2 : ¬ M.1 56 a = 66 := by rw [h]; decide
    have n3 : ¬ (M.1 56 a = 65 ∨ M.1 56 a = 66) := fun q => q.elim n1 n2
    unfold mdiR mdiM
    rw [if_neg n3, if_neg n1, if_neg n2, if_pos h, if_pos h]
    exact this
  · have := tX8_doItem_t1 (l := l) (G := G) ha h h4
    have n1 : ¬ M.1 56 a = 65 := by rw [h]; decide
    have n2 : ¬ M.1 56 a = 66 := by rw [h]; decide
    have n4 : ¬ M.1 56 a = 97 := by rw [h]; decide
    have n3 : ¬ (M.1 56 a = 65 ∨ M.1 56 a = 66) := fun q => q.elim n1 n2
    unfold mdiR mdiM
    rw [if_neg n3, if_neg n1, if_neg n2, if_neg n4, if_neg n4]
    exact this
def mdL (n : Nat) : Nat → mx_Mem → Nat → Nat → Int32 × mx_Mem
  | 0, M, _, k => (nI k, M)
  | f + 1, M, p, k => if n ≤ p then (nI k, M) else if mdiR M p = 0 then (-1001 - nI p, mcy 53 52 (mdiM M p) 106) else mdL n f (mdiM M p) (p + (mrd ((mdiM M p).1 56) p n).toNatClampNeg) (k + 1)
/-- what the second loop of sheet rests on, at every item -/
def mOK (n : Nat) : Nat → mx_Mem → Nat → Prop
  | 0, _, _ => True
  | f + 1, M, p => n ≤ p ∨ ((MI M ∧ isA (M.1 56 p)) ∧ (mdiR M p = 0 ∨ (0 ≤ mrd ((mdiM M p).1 56) p n ∧ mOK n f (mdiM M p) (p + (mrd ((mdiM M p).1 56) p n).toNatClampNeg))))
abbrev msM (M : mx_Mem) : mx_Mem := mI (th0 M) 46 10 0
def mshV (M : mx_Mem) (n : Nat) : Int32 × mx_Mem := if ¬ M.1 52 1 = 1 then (-100, msM M) else match mff (M.1 56) (min n 80) 101 0 with
  | some r => (r, msM M)
  | none => if 80 < n then (-81, msM M) else mdL n 101 (mcy 52 53 (msM M) 106) 0 0
theorem shl2 {G : mx_G} {X : mx_X} {n : Nat} {z : Int32 × mx_Mem} {w2 : Int32} (hn : n ≤ 80) (hX : mx_OK G X RX8 cX8_sheet 5) (hR : mx_RM X 5 110) (hT : mx_RT G X (some FieldType.int) (mx_F (some (.int z.1)) z.2)) : ∀ (f : Nat) (N : mx_Mem) (p k : Nat), n - p < f → p ≤ 83 → mOK n f N p → mdL n f N p k = z → mx_WW G X 81 [.ref 46, .int (nI n), .int w2, .int (nI k), .int (nI p)] [] N := by
  intro f
  induction f with
  | zero => intro N p k h; omega
  | succ f ih =>
    intro N p k hk hp hO hQ
    rw [mdL] at hQ
    rw [mOK] at hO
    by_cases hlt : n ≤ p
    · rw [if_pos hlt] at hQ
      have hc : nI n ≤ nI p := nI_le hlt (by omega)
      refine r_iload 83 hX dX8_sheet_81 rfl ?_
      refine r_iload_n 84 hX dX8_sheet_83 rfl ?_
      refine r_icmp_ge 87 125 hX dX8_sheet_84 (fun c1 => ?_) (fun c1 => absurd hc c1)
      refine r_iload_n 126 hX dX8_sheet_125 rfl ?_
      refine r_iret hX hT dX8_sheet_126 ?_
      exact ⟨by rw [← hQ], by rw [← hQ]⟩
    · rw [if_neg hlt] at hQ
      obtain ⟨⟨hI, hA⟩, hO⟩ := hO.resolve_left hlt
      have hc : ¬ nI n ≤ nI p := nI_ge (by omega) (by omega)
      refine r_iload 83 hX dX8_sheet_81 rfl ?_
      refine r_iload_n 84 hX dX8_sheet_83 rfl ?_
      refine r_icmp_ge 87 125 hX dX8_sheet_84 (fun c1 => absurd c1 hc) (fun c1 => ?_)
      refine r_aload_n 88 hX dX8_sheet_87 rfl ?_
      refine r_iload 90 hX dX8_sheet_88 rfl ?_
      refine r_cV1F 93 hX hR (tX8_doItem (by omega) hA hI) dX8_sheet_90 kX8_doItem lX8_158 rfl rfl rfl rfl rfl rfl ?_
      refine r_Bne 96 107 hX dX8_sheet_93 (fun c2 => ?_) (fun c2 => ?_)
      · refine r_iinc 110 hX dX8_sheet_107 rfl (v := 1) (by decide) rfl ?_
        refine r_iload 112 hX dX8_sheet_110 rfl ?_
        refine r_aload_n 113 hX dX8_sheet_112 rfl ?_
        refine r_iload 115 hX dX8_sheet_113 rfl ?_
        refine r_iload_n 116 hX dX8_sheet_115 rfl ?_
        refine r_cV2F 119 hX hR (tX8_reads (a := p) (e := n) (by omega) (by omega)) dX8_sheet_116 kX8_reads lX8_152 rfl rfl rfl rfl rfl rfl ?_
        refine r_iadd 120 hX dX8_sheet_119 ?_
        refine r_istore 122 hX dX8_sheet_120 rfl ?_
        refine r_goto 81 hX dX8_sheet_122 ?_
        refine (show mx_WW G X 81 [.ref 46, .int (nI n), .int w2, .int (nI k + 1), .int (nI p + mrd ((mdiM N p).1 56) p n)] [] (mdiM N p) from ?_)
        rw [if_neg c2] at hQ
        obtain ⟨h0, hO⟩ := hO.resolve_left c2
        obtain ⟨e1, e2, e3⟩ := mrd_e _ p n (by omega) h0
        rw [e1, nI_add, nI_1]
        exact ih _ _ (k + 1) (by omega) (by omega) hO hQ
      · refine r_aload_n 97 hX dX8_sheet_96 rfl ?_
        refine r_cV0U 100 hX hR tX8_putBack dX8_sheet_97 kX8_putBack lX8_161 rfl rfl rfl rfl rfl rfl ?_
        refine r_sipush 103 hX dX8_sheet_100 (v := -1001) (by decide) ?_
        refine r_iload 105 hX dX8_sheet_103 rfl ?_
        refine r_isub 106 hX dX8_sheet_105 ?_
        refine r_iret hX hT dX8_sheet_106 ?_
        rw [if_pos (Classical.not_not.mp c2)] at hQ
        exact ⟨by rw [← hQ], by rw [← hQ]⟩
theorem shl1 {G : mx_G} {X : mx_X} {n e : Nat} {M : mx_Mem} {Post : Option Value → mx_Mem → Prop} (he : e ≤ 80) (hX : mx_OK G X RX8 cX8_sheet 5) (hR : mx_RM X 5 110) (hT : mx_RT G X (some FieldType.int) Post) : ∀ (k p : Nat) (v4 : Value), e - p < k → p ≤ 83 → (∀ r, mff (M.1 56) e k p = some r → Post (some (.int r)) M) → (mff (M.1 56) e k p = none → ∀ (q : Nat) (w : Value), mx_WW G X 63 [.ref 46, .int (nI n), .int (nI e), .int (nI q), w] [] M) → mx_WW G X 34 [.ref 46, .int (nI n), .int (nI e), .int (nI p), v4] [] M := by
  intro k
  induction k with
  | zero => intro p v4 h; omega
  | succ k ih =>
    intro p v4 hk hp h1 h2
    rw [mff] at h1 h2
    by_cases hlt : e ≤ p
    · rw [if_pos hlt] at h2
      have hc : nI e ≤ nI p := nI_le hlt (by omega)
      refine r_iload_n 35 hX dX8_sheet_34 rfl ?_
      refine r_iload_n 36 hX dX8_sheet_35 rfl ?_
      refine r_icmp_ge 39 63 hX dX8_sheet_36 (fun c1 => ?_) (fun c1 => absurd hc c1)
      exact h2 rfl p v4
    · rw [if_neg hlt] at h1 h2
      have hc : ¬ nI e ≤ nI p := nI_ge (by omega) (by omega)
      refine r_iload_n 35 hX dX8_sheet_34 rfl ?_
      refine r_iload_n 36 hX dX8_sheet_35 rfl ?_
      refine r_icmp_ge 39 63 hX dX8_sheet_36 (fun c1 => absurd c1 hc) (fun c1 => ?_)
      refine r_aload_n 40 hX dX8_sheet_39 rfl ?_
      refine r_iload_n 41 hX dX8_sheet_40 rfl ?_
      refine r_iload_n 42 hX dX8_sheet_41 rfl ?_
      refine r_cV2F 45 hX hR (tX8_reads (a := p) (e := e) (by omega) (by omega)) dX8_sheet_42 kX8_reads lX8_152 rfl rfl rfl rfl rfl rfl ?_
      refine r_istore 47 hX dX8_sheet_45 rfl ?_
      refine r_iload 49 hX dX8_sheet_47 rfl ?_
      refine r_if_ge 52 55 hX dX8_sheet_49 (fun c2 => ?_) (fun c2 => ?_)
      · refine r_iload_n 56 hX dX8_sheet_55 rfl ?_
        refine r_iload 58 hX dX8_sheet_56 rfl ?_
        refine r_iadd 59 hX dX8_sheet_58 ?_
        refine r_istore_n 60 hX dX8_sheet_59 rfl ?_
        refine r_goto 34 hX dX8_sheet_60 ?_
        refine (show mx_WW G X 34 [.ref 46, .int (nI n), .int (nI e), .int (nI p + mrd (M.1 56) p e), .int (mrd (M.1 56) p e)] [] M from ?_)
        rw [if_pos c2] at h1 h2
        obtain ⟨e1, e2, e3⟩ := mrd_e _ p e (by omega) c2
        rw [e1, nI_add]
        exact ih _ _ (by omega) (by omega) h1 h2
      · refine r_iload 54 hX dX8_sheet_52 rfl ?_
        refine r_iret hX hT dX8_sheet_54 ?_
        rw [if_neg c2] at h1
        exact h1 _ rfl
theorem shE {G : mx_G} {X : mx_X} {n e q : Nat} {w : Value} {M : mx_Mem} {z : Int32 × mx_Mem} (hn : n ≤ 100) (hm : e ≤ 80) (hX : mx_OK G X RX8 cX8_sheet 5) (hR : mx_RM X 5 110) (hT : mx_RT G X (some FieldType.int) (mx_F (some (.int z.1)) z.2)) (hO : n ≤ 80 → mOK n 101 (mcy 52 53 M 106) 0) (hz : (if 80 < n then ((-81, M) : Int32 × mx_Mem) else mdL n 101 (mcy 52 53 M 106) 0 0) = z) : mx_WW G X 63 [.ref 46, .int (nI n), .int (nI e), .int (nI q), w] [] M := by
  by_cases h : n ≤ 80
  · have hc : nI n ≤ 80 := nI_le (b := 80) h (by decide)
    rw [if_neg (by omega)] at hz
    refine r_iload_n 64 hX dX8_sheet_63 rfl ?_
    refine r_bipush 66 hX dX8_sheet_64 (v := 80) (by decide) ?_
    refine r_icmp_le 69 72 hX dX8_sheet_66 (fun c1 => ?_) (fun c1 => absurd hc c1)
    refine r_aload_n 73 hX dX8_sheet_72 rfl ?_
    refine r_cV0U 76 hX hR tX8_putAside dX8_sheet_73 kX8_putAside lX8_155 rfl rfl rfl rfl rfl rfl ?_
    refine r_iconst 77 hX dX8_sheet_76 (v := 0) (by decide) ?_
    refine r_istore_n 78 hX dX8_sheet_77 rfl ?_
    refine r_iconst 79 hX dX8_sheet_78 (v := 0) (by decide) ?_
    refine r_istore 81 hX dX8_sheet_79 rfl ?_
    exact shl2 h hX hR hT 101 _ 0 0 (by omega) (by omega) (hO h) hz
  · have hc : ¬ nI n ≤ 80 := (show ¬ nI n ≤ nI 80 from nI_ge (by omega) (by omega))
    rw [if_pos (by omega)] at hz
    refine r_iload_n 64 hX dX8_sheet_63 rfl ?_
    refine r_bipush 66 hX dX8_sheet_64 (v := 80) (by decide) ?_
    refine r_icmp_le 69 72 hX dX8_sheet_66 (fun c1 => absurd c1 hc) (fun c1 => ?_)
    refine r_bipush 71 hX dX8_sheet_69 (v := -81) (by decide) ?_
    refine r_iret hX hT dX8_sheet_71 ?_
    exact ⟨by rw [← hz], by rw [← hz]⟩
set_option maxRecDepth 100000 in
set_option maxHeartbeats 4000000 in
theorem tX8_sheet {l : Launch} {G : mx_G} {n : Nat} {M : mx_Mem} (hn : n ≤ 100) (hl : M.1 46 10 = nI n) (hO : M.1 52 1 = 1 → mff (M.1 56) (min n 80) 101 0 = none → n ≤ 80 → mOK n 101 (mcy 52 53 (msM M) 106) 0) : mx_Met l G yX8_sheet cX8_sheet 5 ((some FieldType.int)) 5 110 [.ref 46] M (mx_F (some (.int (mshV M n).1)) (mshV M n).2) := by
  refine mx_enter (own := RX8) (L := [.ref 46, .null, .null, .null, .null]) (by decide +kernel) rfl rfl rfl ?_
  intro X hlX hX hR hT
  have hrd : (if nI n ≤ 80 then nI n else 80) = nI (min n 80) := by
    rw [show (80 : Int32) = nI 80 from rfl]
    by_cases h : n ≤ 80
    · rw [if_pos (nI_le h (by decide)), Nat.min_eq_left h]
    · rw [if_neg (nI_ge (by omega) (by omega)), Nat.min_eq_right (by omega)]
  have hm : min n 80 ≤ 80 := Nat.min_le_right _ _
  generalize hz : mshV M n = z at hT
  unfold mshV at hz
  refine r_aload_n 1 hX dX8_sheet_0 rfl ?_
  refine r_iconst 2 hX dX8_sheet_1 (v := 0) (by decide) ?_
  refine r_putI 5 hX dX8_sheet_2 fX8_63 fp8_13 rfl rfl rfl ?_
  refine r_aload_n 6 hX dX8_sheet_5 rfl ?_
  refine r_getI 9 hX dX8_sheet_6 fX8_135 rfl rfl rfl ?_
  refine mx_top (show (th0 M).1 46 10 = nI n from hl) ?_
  refine r_istore_n 10 hX dX8_sheet_9 rfl ?_
  refine r_aload_n 11 hX dX8_sheet_10 rfl ?_
  refine r_iconst 12 hX dX8_sheet_11 (v := 0) (by decide) ?_
  refine r_putI 15 hX dX8_sheet_12 fX8_135 fp8_10 rfl rfl rfl ?_
  refine r_aload_n 16 hX dX8_sheet_15 rfl ?_
  refine r_cV0F 19 hX hR tX8_isOn dX8_sheet_16 kX8_isOn lX8_82 rfl rfl rfl rfl rfl rfl ?_
  refine r_Bne 22 25 hX dX8_sheet_19 (fun c1 => ?_) (fun c1 => ?_)
  · refine r_iload_n 26 hX dX8_sheet_25 rfl ?_
    refine r_bipush 28 hX dX8_sheet_26 (v := 80) (by decide) ?_
    refine r_mmin 31 hX hR dX8_sheet_28 lX8_147 rfl rfl rfl ?_
    rw [hrd]
    refine r_istore_n 32 hX dX8_sheet_31 rfl ?_
    refine r_iconst 33 hX dX8_sheet_32 (v := 0) (by decide) ?_
    refine r_istore_n 34 hX dX8_sheet_33 rfl ?_
    have d1 : M.1 52 1 = 1 := c1
    rw [if_neg (fun h => h d1)] at hz
    refine shl1 (M := msM M) hm hX hR hT 101 0 _ (by omega) (by omega) (fun r hr => ?_) (fun hr q w => ?_)
    · have hr' : mff (M.1 56) (min n 80) 101 0 = some r := hr
      rw [hr'] at hz
      exact ⟨by rw [← hz], by rw [← hz]⟩
    · have hr' : mff (M.1 56) (min n 80) 101 0 = none := hr
      rw [hr'] at hz
      exact shE hn hm hX hR hT (hO d1 hr') hz
  · refine r_bipush 24 hX dX8_sheet_22 (v := -100) (by decide) ?_
    refine r_iret hX hT dX8_sheet_24 ?_
    have d1 : ¬ M.1 52 1 = 1 := c1
    rw [if_pos d1] at hz
    exact ⟨by rw [← hz], by rw [← hz]⟩

/-! chances of the class: advice -/
theorem phV_congr {M N : mx_Mem} (h4 : N.1 4 = M.1 4) (h7 : N.1 7 = M.1 7) (ho : eqO M N) (t n : Nat) : phV N t n = phV M t n := by
  have e0 : ∀ i, N.1 40 (i % 6) = M.1 40 (i % 6) := fun i => (ho (i % 6) (by omega)).1
  have e1 : ∀ i, N.1 41 (i % 6) = M.1 41 (i % 6) := fun i => (ho (i % 6) (by omega)).2
  unfold phV rcF th3
  simp only [h4, h7, e0, e1]
theorem chV_congr {M N : mx_Mem} (h4 : N.1 4 = M.1 4) (h7 : N.1 7 = M.1 7) (ho : eqO M N) (s p0 p1 tg cap : Nat) : chV N s p0 p1 tg cap = chV M s p0 p1 tg cap := by
  have : phN N s = phN M s := funext fun n => by unfold phN; rw [phV_congr h4 h7 ho]
  unfold chV
  rw [this]
theorem eqO_rp {M N : mx_Mem} (h : eqO M N) (k : Nat) (hk : k = 40 ∨ k = 41) (a b : Int32) : eqO (rpM M k a b 6) (rpM N k a b 6) := by
  intro i hi
  have := h i hi
  rcases hk with rfl | rfl
  · rw [rpM_k, rpM_k, rpM_ne _ _ _ (by decide), rpM_ne _ _ _ (by decide), this.1, this.2]
    exact ⟨rfl, rfl⟩
  · rw [rpM_k, rpM_k, rpM_ne _ _ _ (by decide), rpM_ne _ _ _ (by decide), this.1, this.2]
    exact ⟨rfl, rfl⟩
theorem eqO_tr {A B C : mx_Mem} (h : eqO A B) (g : eqO B C) : eqO A C := fun i hi => ⟨(g i hi).1.trans (h i hi).1, (g i hi).2.trans (h i hi).2⟩
theorem mayC_fr {M N : mx_Mem} (h : frC M N) {c : Nat} (hc : c = 9 ∨ c = 14) (a b : Int32) : mayC N c a b = mayC M c a b := by
  have g : ∀ k, k < 39 → N.1 k = M.1 k := fun k hk => h.1 k (Or.inl hk)
  unfold mayC arP
  rw [g 19 (by decide), g 2 (by decide), g c (by omega), g (c + 1) (by omega), g (c + 2) (by omega), g (c + 3) (by omega)]
theorem plc_no {f : Nat → Int32} {b : Int32} (h : plc f b = -1) : ∀ i, i < 6 → ¬ f i = b := by
  unfold plc at h
  intro i hi e
  have : i = 0 ∨ i = 1 ∨ i = 2 ∨ i = 3 ∨ i = 4 ∨ i = 5 := by omega
  rcases this with rfl | rfl | rfl | rfl | rfl | rfl <;> simp [e] at h <;> (repeat' split at h) <;> simp_all
theorem tk_40 (M : mx_Mem) : ∀ i, i < 6 → (tkC M).1 40 i = M.1 10 i ∧ (tkC M).1 41 i = M.1 15 i := by
  intro i hi
  have : i = 0 ∨ i = 1 ∨ i = 2 ∨ i = 3 ∨ i = 4 ∨ i = 5 := by omega
  rcases this with rfl | rfl | rfl | rfl | rfl | rfl <;> exact ⟨rfl, rfl⟩
abbrev bt (t v b : Int32) : Prop := if t = 0 then ¬ v ≤ b else ¬ b ≤ v
/-- ADVICE: all pairs in their order -/
def adF (t : Int32) (m W : Nat → Nat → Int32) (v0 : Int32) : Nat → Int32 × Int32
  | 0 => (-2, v0)
  | n + 1 => if m (n / 12) (n % 12) = 0 ∧ bt t (W (n / 12) (n % 12)) (adF t m W v0 n).2 then (nI n, W (n / 12) (n % 12)) else adF t m W v0 n
theorem adF_s (t : Int32) (m W : Nat → Nat → Int32) (v0 : Int32) {o i : Nat} (hi : i < 12) : adF t m W v0 (o * 12 + (i + 1)) = if m o i = 0 ∧ bt t (W o i) (adF t m W v0 (o * 12 + i)).2 then (nI (o * 12 + i), W o i) else adF t m W v0 (o * 12 + i) := by
  rw [show o * 12 + (i + 1) = (o * 12 + i) + 1 by omega, adF, show (o * 12 + i) / 12 = o by omega, show (o * 12 + i) % 12 = i by omega]
theorem frC_mI {M N : mx_Mem} (h : frC M N) (j : Nat) (v : Int32) : frC (mI M 0 j v) (mI N 0 j v) := by
  refine ⟨fun k hk => ?_, ?_⟩
  · funext j'
    have := congrFun (h.1 k hk) j'
    by_cases e : k = 0
    · subst e
      simp [mI, mR, upd, this]
    · rw [mI_ne _ _ _ _ e, mI_ne _ _ _ _ e, this]
  · have := h.2
    simpa [mI, mR] using this
def adW (M : mx_Mem) (k s p0 p1 tg cap : Nat) (o i : Nat) : Int32 := nI (chV (rpM (tkC M) k (nI o) (nI i) 6) s p0 p1 tg cap)
def adM (M : mx_Mem) (c : Nat) (o i : Nat) : Int32 := mayC M c (nI o) (nI i)
set_option maxRecDepth 100000 in
set_option maxHeartbeats 4000000 in
theorem tX7_advice_no {l : Launch} {G : mx_G} {t : Int32} {M : mx_Mem} (hn : ¬ (isT t ∧ ¬ M.1 19 1 = 0)) : mx_Met l G yX7_advice cX7_advice 7 ((some FieldType.int)) 6 158 [.ref 0, .int t] M (mx_F (some (.int (-1))) M) := by
  refine mx_enter (own := RX7) (L := [.ref 0, .int t, .null, .null, .null, .null, .null]) (by decide +kernel) rfl rfl rfl ?_
  intro X hlX hX hR hT
  refine r_iload_n 1 hX dX7_advice_0 rfl ?_
  refine r_cS1F 4 hX hR tX7_isTeam dX7_advice_1 kX7_isTeam lX7_83 rfl rfl rfl ?_
  refine r_Beq 7 17 hX dX7_advice_4 (fun c1 => ?_) (fun c1 => ?_)
  · refine r_iconst 18 hX dX7_advice_17 (v := -1) (by decide) ?_
    refine r_iret hX hT dX7_advice_18 ?_
    exact ⟨rfl, rfl⟩
  · refine r_aload_n 8 hX dX7_advice_7 rfl ?_
    refine r_getR 11 hX dX7_advice_8 fX7_39 rfl rfl rfl ?_
    refine r_getI 14 hX dX7_advice_11 fX7_102 rfl rfl rfl ?_
    refine r_if_ne 17 19 hX dX7_advice_14 (fun c2 => ?_) (fun c2 => ?_)
    · simp_all
    · refine r_iconst 18 hX dX7_advice_17 (v := -1) (by decide) ?_
      refine r_iret hX hT dX7_advice_18 ?_
      exact ⟨rfl, rfl⟩
set_option maxRecDepth 100000 in
set_option maxHeartbeats 4000000 in
theorem tX7_advice_0_0 {l : Launch} {G : mx_G} {p0 p1 tg cap : Nat} {M : mx_Mem} (ho : ¬ M.1 19 1 = 0) (hS : SO M 0 p0 p1 tg cap) : mx_Met l G yX7_advice cX7_advice 7 ((some FieldType.int)) 6 158 [.ref 0, .int 0] M ((fun r N => r = some (.int (adF 0 (adM M 9) (adW M 40 0 p0 p1 tg cap) (nI (chV (tkC M) 0 p0 p1 tg cap)) 144).1) ∧ if (adF 0 (adM M 9) (adW M 40 0 p0 p1 tg cap) (nI (chV (tkC M) 0 p0 p1 tg cap)) 144).1 = -2 then frC M N else frC (mI (mI M 0 13 1) 0 14 (adF 0 (adM M 9) (adW M 40 0 p0 p1 tg cap) (nI (chV (tkC M) 0 p0 p1 tg cap)) 144).2) N)) := by
  refine mx_enter (own := RX7) (L := [.ref 0, .int 0, .null, .null, .null, .null, .null]) (by decide +kernel) rfl rfl rfl ?_
  intro X hlX hX hR hT
  generalize hA : adF 0 (adM M 9) (adW M 40 0 p0 p1 tg cap) (nI (chV (tkC M) 0 p0 p1 tg cap)) = A
  have hA0 : A 0 = (-2, nI (chV (tkC M) 0 p0 p1 tg cap)) := by rw [← hA]; rfl
  have hAs : ∀ o i, i < 12 → A (o * 12 + (i + 1)) = if adM M 9 o i = 0 ∧ bt 0 (adW M 40 0 p0 p1 tg cap o i) (A (o * 12 + i)).2 then (nI (o * 12 + i), adW M 40 0 p0 p1 tg cap o i) else A (o * 12 + i) := fun o i hi => by rw [← hA]; exact adF_s _ _ _ _ hi
  have inner : ∀ o, o < 12 → (∀ N w6, frC M N → eqO (tkC M) N → mx_WW G X 98 [.ref 0, .int 0, .int (A (o * 12 + 12)).1, .int (A (o * 12 + 12)).2, .int (nI o), .int (nI 12), w6] [] N) → ∀ N w6, frC M N → eqO (tkC M) N → mx_WW G X 40 [.ref 0, .int 0, .int (A (o * 12)).1, .int (A (o * 12)).2, .int (nI o), .int (nI 0), w6] [] N := by
    intro o ho12 hE
    refine mx_back (P := fun i => ∀ N w6, frC M N → eqO (tkC M) N → mx_WW G X 40 [.ref 0, .int 0, .int (A (o * 12 + i)).1, .int (A (o * 12 + i)).2, .int (nI o), .int (nI i), w6] [] N) 12 (fun i hi ih => ?_) ?_
    · intro N w6 hF hO
      have g1 : ¬ 12 ≤ nI i := nI_ge (b := 12) hi (by decide)
      have g2 := mayC_fr hF (c := 9) (by decide) (nI o) (nI i)
      have g3 := hAs o i hi
      have g4 : nI o * 12 + nI i = nI (o * 12 + i) := by rw [show (12 : Int32) = nI 12 from rfl, pk_mul, nI_add]
      refine r_iload 42 hX dX7_advice_40 rfl ?_
      refine r_bipush 44 hX dX7_advice_42 (v := 12) (by decide) ?_
      refine r_icmp_ge 47 98 hX dX7_advice_44 (fun c1 => absurd c1 g1) (fun c1 => ?_)
      refine r_aload_n 48 hX dX7_advice_47 rfl ?_
      refine r_iload_n 49 hX dX7_advice_48 rfl ?_
      refine r_iload 51 hX dX7_advice_49 rfl ?_
      refine r_iload 53 hX dX7_advice_51 rfl ?_
      refine r_cV3F 56 hX hR tX7_may_0 dX7_advice_53 kX7_may lX7_175 rfl rfl rfl rfl rfl rfl ?_
      rw [g2]
      refine r_if_ne 59 92 hX dX7_advice_56 (fun c2 => ?_) (fun c2 => ?_)
      · refine r_iinc 95 hX dX7_advice_92 rfl (v := 1) (by decide) rfl ?_
        refine r_goto 40 hX dX7_advice_95 ?_
        rw [nI_1]
        first
        | (have ih2 := ih N w6 hF hO; rw [g3, if_neg (fun k => c2 k.1)] at ih2; exact ih2)
        | (have ih2 := ih M9 (.int (adW M 40 0 p0 p1 tg cap o i)) (frC_tr hF hF9) (eqO_tr hO hO9); rw [g3, if_neg (fun k => c3 k.2)] at ih2; exact ih2)
        | (have ih2 := ih M9 (.int (adW M 40 0 p0 p1 tg cap o i)) (frC_tr hF hF9) (eqO_tr hO hO9); rw [g3, if_pos ⟨show mayC M 9 (nI o) (nI i) = 0 by simpa using c2, c3⟩] at ih2; exact ih2)
      · have hb : ∀ j, j < 6 → ¬ N.1 40 j = nI i := fun j hj => by
          have m0 : mayC M 9 (nI o) (nI i) = 0 := by simpa using c2
          have m1 : plc (M.1 10) (nI i) = -1 := by
            unfold mayC at m0
            grind
          rw [(hO j hj).1, (tk_40 M j hj).1]
          exact plc_no m1 j hj
        refine r_aload_n 60 hX dX7_advice_59 rfl ?_
        refine r_iload_n 61 hX dX7_advice_60 rfl ?_
        refine r_iload 63 hX dX7_advice_61 rfl ?_
        refine r_iload 65 hX dX7_advice_63 rfl ?_
        refine r_cV3G 68 hX hR (tX7_chanceAfter_0_0 (SO_fr (fun k hk => hF.1 k (Or.inl hk)) hS) hb) dX7_advice_65 kX7_chanceAfter lX7_281 rfl rfl rfl rfl rfl rfl (fun r9 M9 hp9 => ?_)
        obtain ⟨rfl, hF9, hO9⟩ := hp9
        show mx_WW G X 68 _ (.int _ :: []) M9
        have g5 : nI (chV (rpM N 40 (nI o) (nI i) 6) 0 p0 p1 tg cap) = adW M 40 0 p0 p1 tg cap o i := by
          unfold adW
          have q4 : N.1 4 = M.1 4 := hF.1 4 (by decide)
          have q7 : N.1 7 = M.1 7 := hF.1 7 (by decide)
          refine congrArg nI (chV_congr ?_ ?_ (eqO_rp hO 40 (by decide) _ _) _ _ _ _ _)
          · rw [rpM_ne _ _ _ (by decide), rpM_ne _ _ _ (by decide), tkC_ne M (by decide) (by decide)]; exact q4
          · rw [rpM_ne _ _ _ (by decide), rpM_ne _ _ _ (by decide), tkC_ne M (by decide) (by decide)]; exact q7
        rw [g5]
        refine r_istore 70 hX dX7_advice_68 rfl ?_
        refine r_iload_n 71 hX dX7_advice_70 rfl ?_
        refine r_iload 73 hX dX7_advice_71 rfl ?_
        refine r_iload_n 74 hX dX7_advice_73 rfl ?_
        refine r_cS3F 77 hX hR tX7_isBetter dX7_advice_74 kX7_isBetter lX7_274 rfl rfl rfl ?_
        refine r_Beq 80 92 hX dX7_advice_77 (fun c3 => ?_) (fun c3 => ?_)
        · refine r_iinc 95 hX dX7_advice_92 rfl (v := 1) (by decide) rfl ?_
          refine r_goto 40 hX dX7_advice_95 ?_
          rw [nI_1]
          first
          | (have ih2 := ih N w6 hF hO; rw [g3, if_neg (fun k => c2 k.1)] at ih2; exact ih2)
          | (have ih2 := ih M9 (.int (adW M 40 0 p0 p1 tg cap o i)) (frC_tr hF hF9) (eqO_tr hO hO9); rw [g3, if_neg (fun k => c3 k.2)] at ih2; exact ih2)
          | (have ih2 := ih M9 (.int (adW M 40 0 p0 p1 tg cap o i)) (frC_tr hF hF9) (eqO_tr hO hO9); rw [g3, if_pos ⟨show mayC M 9 (nI o) (nI i) = 0 by simpa using c2, c3⟩] at ih2; exact ih2)
        · refine r_iload 82 hX dX7_advice_80 rfl ?_
          refine r_bipush 84 hX dX7_advice_82 (v := 12) (by decide) ?_
          refine r_imul 85 hX dX7_advice_84 ?_
          refine r_iload 87 hX dX7_advice_85 rfl ?_
          refine r_iadd 88 hX dX7_advice_87 ?_
          rw [g4]
          refine r_istore_n 89 hX dX7_advice_88 rfl ?_
          refine r_iload 91 hX dX7_advice_89 rfl ?_
          refine r_istore_n 92 hX dX7_advice_91 rfl ?_
          refine (show mx_WW G X 92 [_, _, _, _, _, _, _] _ _ from ?_)
          refine r_iinc 95 hX dX7_advice_92 rfl (v := 1) (by decide) rfl ?_
          refine r_goto 40 hX dX7_advice_95 ?_
          rw [nI_1]
          first
          | (have ih2 := ih N w6 hF hO; rw [g3, if_neg (fun k => c2 k.1)] at ih2; exact ih2)
          | (have ih2 := ih M9 (.int (adW M 40 0 p0 p1 tg cap o i)) (frC_tr hF hF9) (eqO_tr hO hO9); rw [g3, if_neg (fun k => c3 k.2)] at ih2; exact ih2)
          | (have ih2 := ih M9 (.int (adW M 40 0 p0 p1 tg cap o i)) (frC_tr hF hF9) (eqO_tr hO hO9); rw [g3, if_pos ⟨show mayC M 9 (nI o) (nI i) = 0 by simpa using c2, c3⟩] at ih2; exact ih2)
    · intro N w6 hF hO
      refine r_iload 42 hX dX7_advice_40 rfl ?_
      refine r_bipush 44 hX dX7_advice_42 (v := 12) (by decide) ?_
      refine r_icmp_ge 47 98 hX dX7_advice_44 (fun c1 => ?_) (fun c1 => absurd (show (12 : Int32) ≤ nI 12 by decide) c1)
      exact hE N w6 hF hO
  have outer : ∀ N w5 w6, frC M N → eqO (tkC M) N → mx_WW G X 30 [.ref 0, .int 0, .int (A (0 * 12)).1, .int (A (0 * 12)).2, .int (nI 0), w5, w6] [] N := by
    refine mx_back (P := fun o => ∀ N w5 w6, frC M N → eqO (tkC M) N → mx_WW G X 30 [.ref 0, .int 0, .int (A (o * 12)).1, .int (A (o * 12)).2, .int (nI o), w5, w6] [] N) 12 (fun o ho12 ih => ?_) ?_
    · intro N w5 w6 hF hO
      have g1 : ¬ 12 ≤ nI o := nI_ge (b := 12) ho12 (by decide)
      refine r_iload 32 hX dX7_advice_30 rfl ?_
      refine r_bipush 34 hX dX7_advice_32 (v := 12) (by decide) ?_
      refine r_icmp_ge 37 104 hX dX7_advice_34 (fun c1 => absurd c1 g1) (fun c1 => ?_)
      refine r_iconst 38 hX dX7_advice_37 (v := 0) (by decide) ?_
      refine r_istore 40 hX dX7_advice_38 rfl ?_
      skip
      refine inner o ho12 ?_ N w6 hF hO
      intro N2 w6 hF2 hO2
      refine r_iinc 101 hX dX7_advice_98 rfl (v := 1) (by decide) rfl ?_
      refine r_goto 30 hX dX7_advice_101 ?_
      rw [nI_1]
      have ih2 := ih N2 (.int (nI 12)) w6 hF2 hO2
      rw [show (o + 1) * 12 = o * 12 + 12 by omega] at ih2
      exact ih2
    · intro N w5 w6 hF hO
      show mx_WW G X 30 [.ref 0, .int 0, .int (A 144).1, .int (A 144).2, .int 12, w5, w6] [] N
      refine r_iload 32 hX dX7_advice_30 rfl ?_
      refine r_bipush 34 hX dX7_advice_32 (v := 12) (by decide) ?_
      refine r_icmp_ge 37 104 hX dX7_advice_34 (fun _ => ?_) (fun c => absurd c (by decide))
      refine r_iload_n 105 hX dX7_advice_104 rfl ?_
      refine r_bipush 107 hX dX7_advice_105 (v := -2) (by decide) ?_
      refine r_icmp_eq 110 115 hX dX7_advice_107 (fun c1 => ?_) (fun c1 => ?_)
      · refine r_iload_n 116 hX dX7_advice_115 rfl ?_
        refine r_iret hX hT dX7_advice_116 ?_
        refine ⟨by rw [hA], ?_⟩
        rw [hA]
        first
        | (rw [if_pos c1]; exact hF)
        | (rw [if_neg c1]; exact frC_mI (frC_mI hF 13 1) 14 _)
      · refine r_aload_n 111 hX dX7_advice_110 rfl ?_
        refine r_iload_n 112 hX dX7_advice_111 rfl ?_
        refine r_cV1U 115 hX hR tX7_tellRow dX7_advice_112 kX7_tellRow lX7_278 rfl rfl rfl rfl rfl rfl ?_
        refine r_iload_n 116 hX dX7_advice_115 rfl ?_
        refine r_iret hX hT dX7_advice_116 ?_
        refine ⟨by rw [hA], ?_⟩
        rw [hA]
        first
        | (rw [if_pos c1]; exact hF)
        | (rw [if_neg c1]; exact frC_mI (frC_mI hF 13 1) 14 _)
  refine r_iload_n 1 hX dX7_advice_0 rfl ?_
  refine r_cS1F 4 hX hR tX7_isTeam_0 dX7_advice_1 kX7_isTeam lX7_83 rfl rfl rfl ?_
  refine r_if_eq 7 17 hX dX7_advice_4 (fun c => absurd c (by decide)) (fun _ => ?_)
  refine r_aload_n 8 hX dX7_advice_7 rfl ?_
  refine r_getR 11 hX dX7_advice_8 fX7_39 rfl rfl rfl ?_
  refine r_getI 14 hX dX7_advice_11 fX7_102 rfl rfl rfl ?_
  refine r_if_ne 17 19 hX dX7_advice_14 (fun c1 => ?_) (fun c1 => absurd c1 ho)
  refine r_bipush 21 hX dX7_advice_19 (v := -2) (by decide) ?_
  refine r_istore_n 22 hX dX7_advice_21 rfl ?_
  refine r_aload_n 23 hX dX7_advice_22 rfl ?_
  refine r_cV0G 26 hX hR (tX7_chanceNow_0 hS) dX7_advice_23 kX7_chanceNow lX7_258 rfl rfl rfl rfl rfl rfl (fun r9 M9 hp9 => ?_)
  obtain ⟨rfl, hI9⟩ := hp9
  show mx_WW G X 26 _ (.int _ :: []) M9
  refine r_istore_n 27 hX dX7_advice_26 rfl ?_
  refine r_iconst 28 hX dX7_advice_27 (v := 0) (by decide) ?_
  refine r_istore 30 hX dX7_advice_28 rfl ?_
  skip
  have fr := frC_tr (frC_tr (frC_tk M) (frC_fp _ _)) (frC_sc hI9)
  have eo : eqO (tkC M) M9 := fun i _ => by rw [hI9.1.1 40 (by decide) (by decide), hI9.1.1 41 (by decide) (by decide), fpM_ne _ _ (by decide) (by decide), fpM_ne _ _ (by decide) (by decide)]; exact ⟨rfl, rfl⟩
  have key := outer M9 .null .null fr eo
  rw [show 0 * 12 = 0 from rfl, hA0] at key
  exact key
set_option maxRecDepth 100000 in
set_option maxHeartbeats 4000000 in
theorem tX7_advice_1_0 {l : Launch} {G : mx_G} {p0 p1 tg cap : Nat} {M : mx_Mem} (ho : ¬ M.1 19 1 = 0) (hS : SO M 0 p0 p1 tg cap) : mx_Met l G yX7_advice cX7_advice 7 ((some FieldType.int)) 6 158 [.ref 0, .int 1] M ((fun r N => r = some (.int (adF 1 (adM M 14) (adW M 41 0 p0 p1 tg cap) (nI (chV (tkC M) 0 p0 p1 tg cap)) 144).1) ∧ if (adF 1 (adM M 14) (adW M 41 0 p0 p1 tg cap) (nI (chV (tkC M) 0 p0 p1 tg cap)) 144).1 = -2 then frC M N else frC (mI (mI M 0 13 1) 0 14 (adF 1 (adM M 14) (adW M 41 0 p0 p1 tg cap) (nI (chV (tkC M) 0 p0 p1 tg cap)) 144).2) N)) := by
  refine mx_enter (own := RX7) (L := [.ref 0, .int 1, .null, .null, .null, .null, .null]) (by decide +kernel) rfl rfl rfl ?_
  intro X hlX hX hR hT
  generalize hA : adF 1 (adM M 14) (adW M 41 0 p0 p1 tg cap) (nI (chV (tkC M) 0 p0 p1 tg cap)) = A
  have hA0 : A 0 = (-2, nI (chV (tkC M) 0 p0 p1 tg cap)) := by rw [← hA]; rfl
  have hAs : ∀ o i, i < 12 → A (o * 12 + (i + 1)) = if adM M 14 o i = 0 ∧ bt 1 (adW M 41 0 p0 p1 tg cap o i) (A (o * 12 + i)).2 then (nI (o * 12 + i), adW M 41 0 p0 p1 tg cap o i) else A (o * 12 + i) := fun o i hi => by rw [← hA]; exact adF_s _ _ _ _ hi
  have inner : ∀ o, o < 12 → (∀ N w6, frC M N → eqO (tkC M) N → mx_WW G X 98 [.ref 0, .int 1, .int (A (o * 12 + 12)).1, .int (A (o * 12 + 12)).2, .int (nI o), .int (nI 12), w6] [] N) → ∀ N w6, frC M N → eqO (tkC M) N → mx_WW G X 40 [.ref 0, .int 1, .int (A (o * 12)).1, .int (A (o * 12)).2, .int (nI o), .int (nI 0), w6] [] N := by
    intro o ho12 hE
    refine mx_back (P := fun i => ∀ N w6, frC M N → eqO (tkC M) N → mx_WW G X 40 [.ref 0, .int 1, .int (A (o * 12 + i)).1, .int (A (o * 12 + i)).2, .int (nI o), .int (nI i), w6] [] N) 12 (fun i hi ih => ?_) ?_
    · intro N w6 hF hO
      have g1 : ¬ 12 ≤ nI i := nI_ge (b := 12) hi (by decide)
      have g2 := mayC_fr hF (c := 14) (by decide) (nI o) (nI i)
      have g3 := hAs o i hi
      have g4 : nI o * 12 + nI i = nI (o * 12 + i) := by rw [show (12 : Int32) = nI 12 from rfl, pk_mul, nI_add]
      refine r_iload 42 hX dX7_advice_40 rfl ?_
      refine r_bipush 44 hX dX7_advice_42 (v := 12) (by decide) ?_
      refine r_icmp_ge 47 98 hX dX7_advice_44 (fun c1 => absurd c1 g1) (fun c1 => ?_)
      refine r_aload_n 48 hX dX7_advice_47 rfl ?_
      refine r_iload_n 49 hX dX7_advice_48 rfl ?_
      refine r_iload 51 hX dX7_advice_49 rfl ?_
      refine r_iload 53 hX dX7_advice_51 rfl ?_
      refine r_cV3F 56 hX hR tX7_may_1 dX7_advice_53 kX7_may lX7_175 rfl rfl rfl rfl rfl rfl ?_
      rw [g2]
      refine r_if_ne 59 92 hX dX7_advice_56 (fun c2 => ?_) (fun c2 => ?_)
      · refine r_iinc 95 hX dX7_advice_92 rfl (v := 1) (by decide) rfl ?_
        refine r_goto 40 hX dX7_advice_95 ?_
        rw [nI_1]
        first
        | (have ih2 := ih N w6 hF hO; rw [g3, if_neg (fun k => c2 k.1)] at ih2; exact ih2)
        | (have ih2 := ih M9 (.int (adW M 41 0 p0 p1 tg cap o i)) (frC_tr hF hF9) (eqO_tr hO hO9); rw [g3, if_neg (fun k => c3 k.2)] at ih2; exact ih2)
        | (have ih2 := ih M9 (.int (adW M 41 0 p0 p1 tg cap o i)) (frC_tr hF hF9) (eqO_tr hO hO9); rw [g3, if_pos ⟨show mayC M 14 (nI o) (nI i) = 0 by simpa using c2, c3⟩] at ih2; exact ih2)
      · have hb : ∀ j, j < 6 → ¬ N.1 41 j = nI i := fun j hj => by
          have m0 : mayC M 14 (nI o) (nI i) = 0 := by simpa using c2
          have m1 : plc (M.1 15) (nI i) = -1 := by
            unfold mayC at m0
            grind
          rw [(hO j hj).2, (tk_40 M j hj).2]
          exact plc_no m1 j hj
        refine r_aload_n 60 hX dX7_advice_59 rfl ?_
        refine r_iload_n 61 hX dX7_advice_60 rfl ?_
        refine r_iload 63 hX dX7_advice_61 rfl ?_
        refine r_iload 65 hX dX7_advice_63 rfl ?_
        refine r_cV3G 68 hX hR (tX7_chanceAfter_1_0 (SO_fr (fun k hk => hF.1 k (Or.inl hk)) hS) hb) dX7_advice_65 kX7_chanceAfter lX7_281 rfl rfl rfl rfl rfl rfl (fun r9 M9 hp9 => ?_)
        obtain ⟨rfl, hF9, hO9⟩ := hp9
        show mx_WW G X 68 _ (.int _ :: []) M9
        have g5 : nI (chV (rpM N 41 (nI o) (nI i) 6) 0 p0 p1 tg cap) = adW M 41 0 p0 p1 tg cap o i := by
          unfold adW
          have q4 : N.1 4 = M.1 4 := hF.1 4 (by decide)
          have q7 : N.1 7 = M.1 7 := hF.1 7 (by decide)
          refine congrArg nI (chV_congr ?_ ?_ (eqO_rp hO 41 (by decide) _ _) _ _ _ _ _)
          · rw [rpM_ne _ _ _ (by decide), rpM_ne _ _ _ (by decide), tkC_ne M (by decide) (by decide)]; exact q4
          · rw [rpM_ne _ _ _ (by decide), rpM_ne _ _ _ (by decide), tkC_ne M (by decide) (by decide)]; exact q7
        rw [g5]
        refine r_istore 70 hX dX7_advice_68 rfl ?_
        refine r_iload_n 71 hX dX7_advice_70 rfl ?_
        refine r_iload 73 hX dX7_advice_71 rfl ?_
        refine r_iload_n 74 hX dX7_advice_73 rfl ?_
        refine r_cS3F 77 hX hR tX7_isBetter dX7_advice_74 kX7_isBetter lX7_274 rfl rfl rfl ?_
        refine r_Beq 80 92 hX dX7_advice_77 (fun c3 => ?_) (fun c3 => ?_)
        · refine r_iinc 95 hX dX7_advice_92 rfl (v := 1) (by decide) rfl ?_
          refine r_goto 40 hX dX7_advice_95 ?_
          rw [nI_1]
          first
          | (have ih2 := ih N w6 hF hO; rw [g3, if_neg (fun k => c2 k.1)] at ih2; exact ih2)
          | (have ih2 := ih M9 (.int (adW M 41 0 p0 p1 tg cap o i)) (frC_tr hF hF9) (eqO_tr hO hO9); rw [g3, if_neg (fun k => c3 k.2)] at ih2; exact ih2)
          | (have ih2 := ih M9 (.int (adW M 41 0 p0 p1 tg cap o i)) (frC_tr hF hF9) (eqO_tr hO hO9); rw [g3, if_pos ⟨show mayC M 14 (nI o) (nI i) = 0 by simpa using c2, c3⟩] at ih2; exact ih2)
        · refine r_iload 82 hX dX7_advice_80 rfl ?_
          refine r_bipush 84 hX dX7_advice_82 (v := 12) (by decide) ?_
          refine r_imul 85 hX dX7_advice_84 ?_
          refine r_iload 87 hX dX7_advice_85 rfl ?_
          refine r_iadd 88 hX dX7_advice_87 ?_
          rw [g4]
          refine r_istore_n 89 hX dX7_advice_88 rfl ?_
          refine r_iload 91 hX dX7_advice_89 rfl ?_
          refine r_istore_n 92 hX dX7_advice_91 rfl ?_
          refine (show mx_WW G X 92 [_, _, _, _, _, _, _] _ _ from ?_)
          refine r_iinc 95 hX dX7_advice_92 rfl (v := 1) (by decide) rfl ?_
          refine r_goto 40 hX dX7_advice_95 ?_
          rw [nI_1]
          first
          | (have ih2 := ih N w6 hF hO; rw [g3, if_neg (fun k => c2 k.1)] at ih2; exact ih2)
          | (have ih2 := ih M9 (.int (adW M 41 0 p0 p1 tg cap o i)) (frC_tr hF hF9) (eqO_tr hO hO9); rw [g3, if_neg (fun k => c3 k.2)] at ih2; exact ih2)
          | (have ih2 := ih M9 (.int (adW M 41 0 p0 p1 tg cap o i)) (frC_tr hF hF9) (eqO_tr hO hO9); rw [g3, if_pos ⟨show mayC M 14 (nI o) (nI i) = 0 by simpa using c2, c3⟩] at ih2; exact ih2)
    · intro N w6 hF hO
      refine r_iload 42 hX dX7_advice_40 rfl ?_
      refine r_bipush 44 hX dX7_advice_42 (v := 12) (by decide) ?_
      refine r_icmp_ge 47 98 hX dX7_advice_44 (fun c1 => ?_) (fun c1 => absurd (show (12 : Int32) ≤ nI 12 by decide) c1)
      exact hE N w6 hF hO
  have outer : ∀ N w5 w6, frC M N → eqO (tkC M) N → mx_WW G X 30 [.ref 0, .int 1, .int (A (0 * 12)).1, .int (A (0 * 12)).2, .int (nI 0), w5, w6] [] N := by
    refine mx_back (P := fun o => ∀ N w5 w6, frC M N → eqO (tkC M) N → mx_WW G X 30 [.ref 0, .int 1, .int (A (o * 12)).1, .int (A (o * 12)).2, .int (nI o), w5, w6] [] N) 12 (fun o ho12 ih => ?_) ?_
    · intro N w5 w6 hF hO
      have g1 : ¬ 12 ≤ nI o := nI_ge (b := 12) ho12 (by decide)
      refine r_iload 32 hX dX7_advice_30 rfl ?_
      refine r_bipush 34 hX dX7_advice_32 (v := 12) (by decide) ?_
      refine r_icmp_ge 37 104 hX dX7_advice_34 (fun c1 => absurd c1 g1) (fun c1 => ?_)
      refine r_iconst 38 hX dX7_advice_37 (v := 0) (by decide) ?_
      refine r_istore 40 hX dX7_advice_38 rfl ?_
      skip
      refine inner o ho12 ?_ N w6 hF hO
      intro N2 w6 hF2 hO2
      refine r_iinc 101 hX dX7_advice_98 rfl (v := 1) (by decide) rfl ?_
      refine r_goto 30 hX dX7_advice_101 ?_
      rw [nI_1]
      have ih2 := ih N2 (.int (nI 12)) w6 hF2 hO2
      rw [show (o + 1) * 12 = o * 12 + 12 by omega] at ih2
      exact ih2
    · intro N w5 w6 hF hO
      show mx_WW G X 30 [.ref 0, .int 1, .int (A 144).1, .int (A 144).2, .int 12, w5, w6] [] N
      refine r_iload 32 hX dX7_advice_30 rfl ?_
      refine r_bipush 34 hX dX7_advice_32 (v := 12) (by decide) ?_
      refine r_icmp_ge 37 104 hX dX7_advice_34 (fun _ => ?_) (fun c => absurd c (by decide))
      refine r_iload_n 105 hX dX7_advice_104 rfl ?_
      refine r_bipush 107 hX dX7_advice_105 (v := -2) (by decide) ?_
      refine r_icmp_eq 110 115 hX dX7_advice_107 (fun c1 => ?_) (fun c1 => ?_)
      · refine r_iload_n 116 hX dX7_advice_115 rfl ?_
        refine r_iret hX hT dX7_advice_116 ?_
        refine ⟨by rw [hA], ?_⟩
        rw [hA]
        first
        | (rw [if_pos c1]; exact hF)
        | (rw [if_neg c1]; exact frC_mI (frC_mI hF 13 1) 14 _)
      · refine r_aload_n 111 hX dX7_advice_110 rfl ?_
        refine r_iload_n 112 hX dX7_advice_111 rfl ?_
        refine r_cV1U 115 hX hR tX7_tellRow dX7_advice_112 kX7_tellRow lX7_278 rfl rfl rfl rfl rfl rfl ?_
        refine r_iload_n 116 hX dX7_advice_115 rfl ?_
        refine r_iret hX hT dX7_advice_116 ?_
        refine ⟨by rw [hA], ?_⟩
        rw [hA]
        first
        | (rw [if_pos c1]; exact hF)
        | (rw [if_neg c1]; exact frC_mI (frC_mI hF 13 1) 14 _)
  refine r_iload_n 1 hX dX7_advice_0 rfl ?_
  refine r_cS1F 4 hX hR tX7_isTeam_1 dX7_advice_1 kX7_isTeam lX7_83 rfl rfl rfl ?_
  refine r_if_eq 7 17 hX dX7_advice_4 (fun c => absurd c (by decide)) (fun _ => ?_)
  refine r_aload_n 8 hX dX7_advice_7 rfl ?_
  refine r_getR 11 hX dX7_advice_8 fX7_39 rfl rfl rfl ?_
  refine r_getI 14 hX dX7_advice_11 fX7_102 rfl rfl rfl ?_
  refine r_if_ne 17 19 hX dX7_advice_14 (fun c1 => ?_) (fun c1 => absurd c1 ho)
  refine r_bipush 21 hX dX7_advice_19 (v := -2) (by decide) ?_
  refine r_istore_n 22 hX dX7_advice_21 rfl ?_
  refine r_aload_n 23 hX dX7_advice_22 rfl ?_
  refine r_cV0G 26 hX hR (tX7_chanceNow_0 hS) dX7_advice_23 kX7_chanceNow lX7_258 rfl rfl rfl rfl rfl rfl (fun r9 M9 hp9 => ?_)
  obtain ⟨rfl, hI9⟩ := hp9
  show mx_WW G X 26 _ (.int _ :: []) M9
  refine r_istore_n 27 hX dX7_advice_26 rfl ?_
  refine r_iconst 28 hX dX7_advice_27 (v := 0) (by decide) ?_
  refine r_istore 30 hX dX7_advice_28 rfl ?_
  skip
  have fr := frC_tr (frC_tr (frC_tk M) (frC_fp _ _)) (frC_sc hI9)
  have eo : eqO (tkC M) M9 := fun i _ => by rw [hI9.1.1 40 (by decide) (by decide), hI9.1.1 41 (by decide) (by decide), fpM_ne _ _ (by decide) (by decide), fpM_ne _ _ (by decide) (by decide)]; exact ⟨rfl, rfl⟩
  have key := outer M9 .null .null fr eo
  rw [show 0 * 12 = 0 from rfl, hA0] at key
  exact key
set_option maxRecDepth 100000 in
set_option maxHeartbeats 4000000 in
theorem tX7_advice_0_1 {l : Launch} {G : mx_G} {p0 p1 tg cap : Nat} {M : mx_Mem} (ho : ¬ M.1 19 1 = 0) (hS : SO M 1 p0 p1 tg cap) : mx_Met l G yX7_advice cX7_advice 7 ((some FieldType.int)) 6 158 [.ref 0, .int 0] M ((fun r N => r = some (.int (adF 0 (adM M 9) (adW M 40 1 p0 p1 tg cap) (nI (chV (tkC M) 1 p0 p1 tg cap)) 144).1) ∧ if (adF 0 (adM M 9) (adW M 40 1 p0 p1 tg cap) (nI (chV (tkC M) 1 p0 p1 tg cap)) 144).1 = -2 then frC M N else frC (mI (mI M 0 13 1) 0 14 (adF 0 (adM M 9) (adW M 40 1 p0 p1 tg cap) (nI (chV (tkC M) 1 p0 p1 tg cap)) 144).2) N)) := by
  refine mx_enter (own := RX7) (L := [.ref 0, .int 0, .null, .null, .null, .null, .null]) (by decide +kernel) rfl rfl rfl ?_
  intro X hlX hX hR hT
  generalize hA : adF 0 (adM M 9) (adW M 40 1 p0 p1 tg cap) (nI (chV (tkC M) 1 p0 p1 tg cap)) = A
  have hA0 : A 0 = (-2, nI (chV (tkC M) 1 p0 p1 tg cap)) := by rw [← hA]; rfl
  have hAs : ∀ o i, i < 12 → A (o * 12 + (i + 1)) = if adM M 9 o i = 0 ∧ bt 0 (adW M 40 1 p0 p1 tg cap o i) (A (o * 12 + i)).2 then (nI (o * 12 + i), adW M 40 1 p0 p1 tg cap o i) else A (o * 12 + i) := fun o i hi => by rw [← hA]; exact adF_s _ _ _ _ hi
  have inner : ∀ o, o < 12 → (∀ N w6, frC M N → eqO (tkC M) N → mx_WW G X 98 [.ref 0, .int 0, .int (A (o * 12 + 12)).1, .int (A (o * 12 + 12)).2, .int (nI o), .int (nI 12), w6] [] N) → ∀ N w6, frC M N → eqO (tkC M) N → mx_WW G X 40 [.ref 0, .int 0, .int (A (o * 12)).1, .int (A (o * 12)).2, .int (nI o), .int (nI 0), w6] [] N := by
    intro o ho12 hE
    refine mx_back (P := fun i => ∀ N w6, frC M N → eqO (tkC M) N → mx_WW G X 40 [.ref 0, .int 0, .int (A (o * 12 + i)).1, .int (A (o * 12 + i)).2, .int (nI o), .int (nI i), w6] [] N) 12 (fun i hi ih => ?_) ?_
    · intro N w6 hF hO
      have g1 : ¬ 12 ≤ nI i := nI_ge (b := 12) hi (by decide)
      have g2 := mayC_fr hF (c := 9) (by decide) (nI o) (nI i)
      have g3 := hAs o i hi
      have g4 : nI o * 12 + nI i = nI (o * 12 + i) := by rw [show (12 : Int32) = nI 12 from rfl, pk_mul, nI_add]
      refine r_iload 42 hX dX7_advice_40 rfl ?_
      refine r_bipush 44 hX dX7_advice_42 (v := 12) (by decide) ?_
      refine r_icmp_ge 47 98 hX dX7_advice_44 (fun c1 => absurd c1 g1) (fun c1 => ?_)
      refine r_aload_n 48 hX dX7_advice_47 rfl ?_
      refine r_iload_n 49 hX dX7_advice_48 rfl ?_
      refine r_iload 51 hX dX7_advice_49 rfl ?_
      refine r_iload 53 hX dX7_advice_51 rfl ?_
      refine r_cV3F 56 hX hR tX7_may_0 dX7_advice_53 kX7_may lX7_175 rfl rfl rfl rfl rfl rfl ?_
      rw [g2]
      refine r_if_ne 59 92 hX dX7_advice_56 (fun c2 => ?_) (fun c2 => ?_)
      · refine r_iinc 95 hX dX7_advice_92 rfl (v := 1) (by decide) rfl ?_
        refine r_goto 40 hX dX7_advice_95 ?_
        rw [nI_1]
        first
        | (have ih2 := ih N w6 hF hO; rw [g3, if_neg (fun k => c2 k.1)] at ih2; exact ih2)
        | (have ih2 := ih M9 (.int (adW M 40 1 p0 p1 tg cap o i)) (frC_tr hF hF9) (eqO_tr hO hO9); rw [g3, if_neg (fun k => c3 k.2)] at ih2; exact ih2)
        | (have ih2 := ih M9 (.int (adW M 40 1 p0 p1 tg cap o i)) (frC_tr hF hF9) (eqO_tr hO hO9); rw [g3, if_pos ⟨show mayC M 9 (nI o) (nI i) = 0 by simpa using c2, c3⟩] at ih2; exact ih2)
      · have hb : ∀ j, j < 6 → ¬ N.1 40 j = nI i := fun j hj => by
          have m0 : mayC M 9 (nI o) (nI i) = 0 := by simpa using c2
          have m1 : plc (M.1 10) (nI i) = -1 := by
            unfold mayC at m0
            grind
          rw [(hO j hj).1, (tk_40 M j hj).1]
          exact plc_no m1 j hj
        refine r_aload_n 60 hX dX7_advice_59 rfl ?_
        refine r_iload_n 61 hX dX7_advice_60 rfl ?_
        refine r_iload 63 hX dX7_advice_61 rfl ?_
        refine r_iload 65 hX dX7_advice_63 rfl ?_
        refine r_cV3G 68 hX hR (tX7_chanceAfter_0_1 (SO_fr (fun k hk => hF.1 k (Or.inl hk)) hS) hb) dX7_advice_65 kX7_chanceAfter lX7_281 rfl rfl rfl rfl rfl rfl (fun r9 M9 hp9 => ?_)
        obtain ⟨rfl, hF9, hO9⟩ := hp9
        show mx_WW G X 68 _ (.int _ :: []) M9
        have g5 : nI (chV (rpM N 40 (nI o) (nI i) 6) 1 p0 p1 tg cap) = adW M 40 1 p0 p1 tg cap o i := by
          unfold adW
          have q4 : N.1 4 = M.1 4 := hF.1 4 (by decide)
          have q7 : N.1 7 = M.1 7 := hF.1 7 (by decide)
          refine congrArg nI (chV_congr ?_ ?_ (eqO_rp hO 40 (by decide) _ _) _ _ _ _ _)
          · rw [rpM_ne _ _ _ (by decide), rpM_ne _ _ _ (by decide), tkC_ne M (by decide) (by decide)]; exact q4
          · rw [rpM_ne _ _ _ (by decide), rpM_ne _ _ _ (by decide), tkC_ne M (by decide) (by decide)]; exact q7
        rw [g5]
        refine r_istore 70 hX dX7_advice_68 rfl ?_
        refine r_iload_n 71 hX dX7_advice_70 rfl ?_
        refine r_iload 73 hX dX7_advice_71 rfl ?_
        refine r_iload_n 74 hX dX7_advice_73 rfl ?_
        refine r_cS3F 77 hX hR tX7_isBetter dX7_advice_74 kX7_isBetter lX7_274 rfl rfl rfl ?_
        refine r_Beq 80 92 hX dX7_advice_77 (fun c3 => ?_) (fun c3 => ?_)
        · refine r_iinc 95 hX dX7_advice_92 rfl (v := 1) (by decide) rfl ?_
          refine r_goto 40 hX dX7_advice_95 ?_
          rw [nI_1]
          first
          | (have ih2 := ih N w6 hF hO; rw [g3, if_neg (fun k => c2 k.1)] at ih2; exact ih2)
          | (have ih2 := ih M9 (.int (adW M 40 1 p0 p1 tg cap o i)) (frC_tr hF hF9) (eqO_tr hO hO9); rw [g3, if_neg (fun k => c3 k.2)] at ih2; exact ih2)
          | (have ih2 := ih M9 (.int (adW M 40 1 p0 p1 tg cap o i)) (frC_tr hF hF9) (eqO_tr hO hO9); rw [g3, if_pos ⟨show mayC M 9 (nI o) (nI i) = 0 by simpa using c2, c3⟩] at ih2; exact ih2)
        · refine r_iload 82 hX dX7_advice_80 rfl ?_
          refine r_bipush 84 hX dX7_advice_82 (v := 12) (by decide) ?_
          refine r_imul 85 hX dX7_advice_84 ?_
          refine r_iload 87 hX dX7_advice_85 rfl ?_
          refine r_iadd 88 hX dX7_advice_87 ?_
          rw [g4]
          refine r_istore_n 89 hX dX7_advice_88 rfl ?_
          refine r_iload 91 hX dX7_advice_89 rfl ?_
          refine r_istore_n 92 hX dX7_advice_91 rfl ?_
          refine (show mx_WW G X 92 [_, _, _, _, _, _, _] _ _ from ?_)
          refine r_iinc 95 hX dX7_advice_92 rfl (v := 1) (by decide) rfl ?_
          refine r_goto 40 hX dX7_advice_95 ?_
          rw [nI_1]
          first
          | (have ih2 := ih N w6 hF hO; rw [g3, if_neg (fun k => c2 k.1)] at ih2; exact ih2)
          | (have ih2 := ih M9 (.int (adW M 40 1 p0 p1 tg cap o i)) (frC_tr hF hF9) (eqO_tr hO hO9); rw [g3, if_neg (fun k => c3 k.2)] at ih2; exact ih2)
          | (have ih2 := ih M9 (.int (adW M 40 1 p0 p1 tg cap o i)) (frC_tr hF hF9) (eqO_tr hO hO9); rw [g3, if_pos ⟨show mayC M 9 (nI o) (nI i) = 0 by simpa using c2, c3⟩] at ih2; exact ih2)
    · intro N w6 hF hO
      refine r_iload 42 hX dX7_advice_40 rfl ?_
      refine r_bipush 44 hX dX7_advice_42 (v := 12) (by decide) ?_
      refine r_icmp_ge 47 98 hX dX7_advice_44 (fun c1 => ?_) (fun c1 => absurd (show (12 : Int32) ≤ nI 12 by decide) c1)
      exact hE N w6 hF hO
  have outer : ∀ N w5 w6, frC M N → eqO (tkC M) N → mx_WW G X 30 [.ref 0, .int 0, .int (A (0 * 12)).1, .int (A (0 * 12)).2, .int (nI 0), w5, w6] [] N := by
    refine mx_back (P := fun o => ∀ N w5 w6, frC M N → eqO (tkC M) N → mx_WW G X 30 [.ref 0, .int 0, .int (A (o * 12)).1, .int (A (o * 12)).2, .int (nI o), w5, w6] [] N) 12 (fun o ho12 ih => ?_) ?_
    · intro N w5 w6 hF hO
      have g1 : ¬ 12 ≤ nI o := nI_ge (b := 12) ho12 (by decide)
      refine r_iload 32 hX dX7_advice_30 rfl ?_
      refine r_bipush 34 hX dX7_advice_32 (v := 12) (by decide) ?_
      refine r_icmp_ge 37 104 hX dX7_advice_34 (fun c1 => absurd c1 g1) (fun c1 => ?_)
      refine r_iconst 38 hX dX7_advice_37 (v := 0) (by decide) ?_
      refine r_istore 40 hX dX7_advice_38 rfl ?_
      skip
      refine inner o ho12 ?_ N w6 hF hO
      intro N2 w6 hF2 hO2
      refine r_iinc 101 hX dX7_advice_98 rfl (v := 1) (by decide) rfl ?_
      refine r_goto 30 hX dX7_advice_101 ?_
      rw [nI_1]
      have ih2 := ih N2 (.int (nI 12)) w6 hF2 hO2
      rw [show (o + 1) * 12 = o * 12 + 12 by omega] at ih2
      exact ih2
    · intro N w5 w6 hF hO
      show mx_WW G X 30 [.ref 0, .int 0, .int (A 144).1, .int (A 144).2, .int 12, w5, w6] [] N
      refine r_iload 32 hX dX7_advice_30 rfl ?_
      refine r_bipush 34 hX dX7_advice_32 (v := 12) (by decide) ?_
      refine r_icmp_ge 37 104 hX dX7_advice_34 (fun _ => ?_) (fun c => absurd c (by decide))
      refine r_iload_n 105 hX dX7_advice_104 rfl ?_
      refine r_bipush 107 hX dX7_advice_105 (v := -2) (by decide) ?_
      refine r_icmp_eq 110 115 hX dX7_advice_107 (fun c1 => ?_) (fun c1 => ?_)
      · refine r_iload_n 116 hX dX7_advice_115 rfl ?_
        refine r_iret hX hT dX7_advice_116 ?_
        refine ⟨by rw [hA], ?_⟩
        rw [hA]
        first
        | (rw [if_pos c1]; exact hF)
        | (rw [if_neg c1]; exact frC_mI (frC_mI hF 13 1) 14 _)
      · refine r_aload_n 111 hX dX7_advice_110 rfl ?_
        refine r_iload_n 112 hX dX7_advice_111 rfl ?_
        refine r_cV1U 115 hX hR tX7_tellRow dX7_advice_112 kX7_tellRow lX7_278 rfl rfl rfl rfl rfl rfl ?_
        refine r_iload_n 116 hX dX7_advice_115 rfl ?_
        refine r_iret hX hT dX7_advice_116 ?_
        refine ⟨by rw [hA], ?_⟩
        rw [hA]
        first
        | (rw [if_pos c1]; exact hF)
        | (rw [if_neg c1]; exact frC_mI (frC_mI hF 13 1) 14 _)
  refine r_iload_n 1 hX dX7_advice_0 rfl ?_
  refine r_cS1F 4 hX hR tX7_isTeam_0 dX7_advice_1 kX7_isTeam lX7_83 rfl rfl rfl ?_
  refine r_if_eq 7 17 hX dX7_advice_4 (fun c => absurd c (by decide)) (fun _ => ?_)
  refine r_aload_n 8 hX dX7_advice_7 rfl ?_
  refine r_getR 11 hX dX7_advice_8 fX7_39 rfl rfl rfl ?_
  refine r_getI 14 hX dX7_advice_11 fX7_102 rfl rfl rfl ?_
  refine r_if_ne 17 19 hX dX7_advice_14 (fun c1 => ?_) (fun c1 => absurd c1 ho)
  refine r_bipush 21 hX dX7_advice_19 (v := -2) (by decide) ?_
  refine r_istore_n 22 hX dX7_advice_21 rfl ?_
  refine r_aload_n 23 hX dX7_advice_22 rfl ?_
  refine r_cV0G 26 hX hR (tX7_chanceNow_1 hS) dX7_advice_23 kX7_chanceNow lX7_258 rfl rfl rfl rfl rfl rfl (fun r9 M9 hp9 => ?_)
  obtain ⟨rfl, hI9⟩ := hp9
  show mx_WW G X 26 _ (.int _ :: []) M9
  refine r_istore_n 27 hX dX7_advice_26 rfl ?_
  refine r_iconst 28 hX dX7_advice_27 (v := 0) (by decide) ?_
  refine r_istore 30 hX dX7_advice_28 rfl ?_
  skip
  have fr := frC_tr (frC_tr (frC_tk M) (frC_fp _ _)) (frC_sc hI9)
  have eo : eqO (tkC M) M9 := fun i _ => by rw [hI9.1.1 40 (by decide) (by decide), hI9.1.1 41 (by decide) (by decide), fpM_ne _ _ (by decide) (by decide), fpM_ne _ _ (by decide) (by decide)]; exact ⟨rfl, rfl⟩
  have key := outer M9 .null .null fr eo
  rw [show 0 * 12 = 0 from rfl, hA0] at key
  exact key
set_option maxRecDepth 100000 in
set_option maxHeartbeats 4000000 in
theorem tX7_advice_1_1 {l : Launch} {G : mx_G} {p0 p1 tg cap : Nat} {M : mx_Mem} (ho : ¬ M.1 19 1 = 0) (hS : SO M 1 p0 p1 tg cap) : mx_Met l G yX7_advice cX7_advice 7 ((some FieldType.int)) 6 158 [.ref 0, .int 1] M ((fun r N => r = some (.int (adF 1 (adM M 14) (adW M 41 1 p0 p1 tg cap) (nI (chV (tkC M) 1 p0 p1 tg cap)) 144).1) ∧ if (adF 1 (adM M 14) (adW M 41 1 p0 p1 tg cap) (nI (chV (tkC M) 1 p0 p1 tg cap)) 144).1 = -2 then frC M N else frC (mI (mI M 0 13 1) 0 14 (adF 1 (adM M 14) (adW M 41 1 p0 p1 tg cap) (nI (chV (tkC M) 1 p0 p1 tg cap)) 144).2) N)) := by
  refine mx_enter (own := RX7) (L := [.ref 0, .int 1, .null, .null, .null, .null, .null]) (by decide +kernel) rfl rfl rfl ?_
  intro X hlX hX hR hT
  generalize hA : adF 1 (adM M 14) (adW M 41 1 p0 p1 tg cap) (nI (chV (tkC M) 1 p0 p1 tg cap)) = A
  have hA0 : A 0 = (-2, nI (chV (tkC M) 1 p0 p1 tg cap)) := by rw [← hA]; rfl
  have hAs : ∀ o i, i < 12 → A (o * 12 + (i + 1)) = if adM M 14 o i = 0 ∧ bt 1 (adW M 41 1 p0 p1 tg cap o i) (A (o * 12 + i)).2 then (nI (o * 12 + i), adW M 41 1 p0 p1 tg cap o i) else A (o * 12 + i) := fun o i hi => by rw [← hA]; exact adF_s _ _ _ _ hi
  have inner : ∀ o, o < 12 → (∀ N w6, frC M N → eqO (tkC M) N → mx_WW G X 98 [.ref 0, .int 1, .int (A (o * 12 + 12)).1, .int (A (o * 12 + 12)).2, .int (nI o), .int (nI 12), w6] [] N) → ∀ N w6, frC M N → eqO (tkC M) N → mx_WW G X 40 [.ref 0, .int 1, .int (A (o * 12)).1, .int (A (o * 12)).2, .int (nI o), .int (nI 0), w6] [] N := by
    intro o ho12 hE
    refine mx_back (P := fun i => ∀ N w6, frC M N → eqO (tkC M) N → mx_WW G X 40 [.ref 0, .int 1, .int (A (o * 12 + i)).1, .int (A (o * 12 + i)).2, .int (nI o), .int (nI i), w6] [] N) 12 (fun i hi ih => ?_) ?_
    · intro N w6 hF hO
      have g1 : ¬ 12 ≤ nI i := nI_ge (b := 12) hi (by decide)
      have g2 := mayC_fr hF (c := 14) (by decide) (nI o) (nI i)
      have g3 := hAs o i hi
      have g4 : nI o * 12 + nI i = nI (o * 12 + i) := by rw [show (12 : Int32) = nI 12 from rfl, pk_mul, nI_add]
      refine r_iload 42 hX dX7_advice_40 rfl ?_
      refine r_bipush 44 hX dX7_advice_42 (v := 12) (by decide) ?_
      refine r_icmp_ge 47 98 hX dX7_advice_44 (fun c1 => absurd c1 g1) (fun c1 => ?_)
      refine r_aload_n 48 hX dX7_advice_47 rfl ?_
      refine r_iload_n 49 hX dX7_advice_48 rfl ?_
      refine r_iload 51 hX dX7_advice_49 rfl ?_
      refine r_iload 53 hX dX7_advice_51 rfl ?_
      refine r_cV3F 56 hX hR tX7_may_1 dX7_advice_53 kX7_may lX7_175 rfl rfl rfl rfl rfl rfl ?_
      rw [g2]
      refine r_if_ne 59 92 hX dX7_advice_56 (fun c2 => ?_) (fun c2 => ?_)
      · refine r_iinc 95 hX dX7_advice_92 rfl (v := 1) (by decide) rfl ?_
        refine r_goto 40 hX dX7_advice_95 ?_
        rw [nI_1]
        first
        | (have ih2 := ih N w6 hF hO; rw [g3, if_neg (fun k => c2 k.1)] at ih2; exact ih2)
        | (have ih2 := ih M9 (.int (adW M 41 1 p0 p1 tg cap o i)) (frC_tr hF hF9) (eqO_tr hO hO9); rw [g3, if_neg (fun k => c3 k.2)] at ih2; exact ih2)
        | (have ih2 := ih M9 (.int (adW M 41 1 p0 p1 tg cap o i)) (frC_tr hF hF9) (eqO_tr hO hO9); rw [g3, if_pos ⟨show mayC M 14 (nI o) (nI i) = 0 by simpa using c2, c3⟩] at ih2; exact ih2)
      · have hb : ∀ j, j < 6 → ¬ N.1 41 j = nI i := fun j hj => by
          have m0 : mayC M 14 (nI o) (nI i) = 0 := by simpa using c2
          have m1 : plc (M.1 15) (nI i) = -1 := by
            unfold mayC at m0
            grind
          rw [(hO j hj).2, (tk_40 M j hj).2]
          exact plc_no m1 j hj
        refine r_aload_n 60 hX dX7_advice_59 rfl ?_
        refine r_iload_n 61 hX dX7_advice_60 rfl ?_
        refine r_iload 63 hX dX7_advice_61 rfl ?_
        refine r_iload 65 hX dX7_advice_63 rfl ?_
        refine r_cV3G 68 hX hR (tX7_chanceAfter_1_1 (SO_fr (fun k hk => hF.1 k (Or.inl hk)) hS) hb) dX7_advice_65 kX7_chanceAfter lX7_281 rfl rfl rfl rfl rfl rfl (fun r9 M9 hp9 => ?_)
        obtain ⟨rfl, hF9, hO9⟩ := hp9
        show mx_WW G X 68 _ (.int _ :: []) M9
        have g5 : nI (chV (rpM N 41 (nI o) (nI i) 6) 1 p0 p1 tg cap) = adW M 41 1 p0 p1 tg cap o i := by
          unfold adW
          have q4 : N.1 4 = M.1 4 := hF.1 4 (by decide)
          have q7 : N.1 7 = M.1 7 := hF.1 7 (by decide)
          refine congrArg nI (chV_congr ?_ ?_ (eqO_rp hO 41 (by decide) _ _) _ _ _ _ _)
          · rw [rpM_ne _ _ _ (by decide), rpM_ne _ _ _ (by decide), tkC_ne M (by decide) (by decide)]; exact q4
          · rw [rpM_ne _ _ _ (by decide), rpM_ne _ _ _ (by decide), tkC_ne M (by decide) (by decide)]; exact q7
        rw [g5]
        refine r_istore 70 hX dX7_advice_68 rfl ?_
        refine r_iload_n 71 hX dX7_advice_70 rfl ?_
        refine r_iload 73 hX dX7_advice_71 rfl ?_
        refine r_iload_n 74 hX dX7_advice_73 rfl ?_
        refine r_cS3F 77 hX hR tX7_isBetter dX7_advice_74 kX7_isBetter lX7_274 rfl rfl rfl ?_
        refine r_Beq 80 92 hX dX7_advice_77 (fun c3 => ?_) (fun c3 => ?_)
        · refine r_iinc 95 hX dX7_advice_92 rfl (v := 1) (by decide) rfl ?_
          refine r_goto 40 hX dX7_advice_95 ?_
          rw [nI_1]
          first
          | (have ih2 := ih N w6 hF hO; rw [g3, if_neg (fun k => c2 k.1)] at ih2; exact ih2)
          | (have ih2 := ih M9 (.int (adW M 41 1 p0 p1 tg cap o i)) (frC_tr hF hF9) (eqO_tr hO hO9); rw [g3, if_neg (fun k => c3 k.2)] at ih2; exact ih2)
          | (have ih2 := ih M9 (.int (adW M 41 1 p0 p1 tg cap o i)) (frC_tr hF hF9) (eqO_tr hO hO9); rw [g3, if_pos ⟨show mayC M 14 (nI o) (nI i) = 0 by simpa using c2, c3⟩] at ih2; exact ih2)
        · refine r_iload 82 hX dX7_advice_80 rfl ?_
          refine r_bipush 84 hX dX7_advice_82 (v := 12) (by decide) ?_
          refine r_imul 85 hX dX7_advice_84 ?_
          refine r_iload 87 hX dX7_advice_85 rfl ?_
          refine r_iadd 88 hX dX7_advice_87 ?_
          rw [g4]
          refine r_istore_n 89 hX dX7_advice_88 rfl ?_
          refine r_iload 91 hX dX7_advice_89 rfl ?_
          refine r_istore_n 92 hX dX7_advice_91 rfl ?_
          refine (show mx_WW G X 92 [_, _, _, _, _, _, _] _ _ from ?_)
          refine r_iinc 95 hX dX7_advice_92 rfl (v := 1) (by decide) rfl ?_
          refine r_goto 40 hX dX7_advice_95 ?_
          rw [nI_1]
          first
          | (have ih2 := ih N w6 hF hO; rw [g3, if_neg (fun k => c2 k.1)] at ih2; exact ih2)
          | (have ih2 := ih M9 (.int (adW M 41 1 p0 p1 tg cap o i)) (frC_tr hF hF9) (eqO_tr hO hO9); rw [g3, if_neg (fun k => c3 k.2)] at ih2; exact ih2)
          | (have ih2 := ih M9 (.int (adW M 41 1 p0 p1 tg cap o i)) (frC_tr hF hF9) (eqO_tr hO hO9); rw [g3, if_pos ⟨show mayC M 14 (nI o) (nI i) = 0 by simpa using c2, c3⟩] at ih2; exact ih2)
    · intro N w6 hF hO
      refine r_iload 42 hX dX7_advice_40 rfl ?_
      refine r_bipush 44 hX dX7_advice_42 (v := 12) (by decide) ?_
      refine r_icmp_ge 47 98 hX dX7_advice_44 (fun c1 => ?_) (fun c1 => absurd (show (12 : Int32) ≤ nI 12 by decide) c1)
      exact hE N w6 hF hO
  have outer : ∀ N w5 w6, frC M N → eqO (tkC M) N → mx_WW G X 30 [.ref 0, .int 1, .int (A (0 * 12)).1, .int (A (0 * 12)).2, .int (nI 0), w5, w6] [] N := by
    refine mx_back (P := fun o => ∀ N w5 w6, frC M N → eqO (tkC M) N → mx_WW G X 30 [.ref 0, .int 1, .int (A (o * 12)).1, .int (A (o * 12)).2, .int (nI o), w5, w6] [] N) 12 (fun o ho12 ih => ?_) ?_
    · intro N w5 w6 hF hO
      have g1 : ¬ 12 ≤ nI o := nI_ge (b := 12) ho12 (by decide)
      refine r_iload 32 hX dX7_advice_30 rfl ?_
      refine r_bipush 34 hX dX7_advice_32 (v := 12) (by decide) ?_
      refine r_icmp_ge 37 104 hX dX7_advice_34 (fun c1 => absurd c1 g1) (fun c1 => ?_)
      refine r_iconst 38 hX dX7_advice_37 (v := 0) (by decide) ?_
      refine r_istore 40 hX dX7_advice_38 rfl ?_
      skip
      refine inner o ho12 ?_ N w6 hF hO
      intro N2 w6 hF2 hO2
      refine r_iinc 101 hX dX7_advice_98 rfl (v := 1) (by decide) rfl ?_
      refine r_goto 30 hX dX7_advice_101 ?_
      rw [nI_1]
      have ih2 := ih N2 (.int (nI 12)) w6 hF2 hO2
      rw [show (o + 1) * 12 = o * 12 + 12 by omega] at ih2
      exact ih2
    · intro N w5 w6 hF hO
      show mx_WW G X 30 [.ref 0, .int 1, .int (A 144).1, .int (A 144).2, .int 12, w5, w6] [] N
      refine r_iload 32 hX dX7_advice_30 rfl ?_
      refine r_bipush 34 hX dX7_advice_32 (v := 12) (by decide) ?_
      refine r_icmp_ge 37 104 hX dX7_advice_34 (fun _ => ?_) (fun c => absurd c (by decide))
      refine r_iload_n 105 hX dX7_advice_104 rfl ?_
      refine r_bipush 107 hX dX7_advice_105 (v := -2) (by decide) ?_
      refine r_icmp_eq 110 115 hX dX7_advice_107 (fun c1 => ?_) (fun c1 => ?_)
      · refine r_iload_n 116 hX dX7_advice_115 rfl ?_
        refine r_iret hX hT dX7_advice_116 ?_
        refine ⟨by rw [hA], ?_⟩
        rw [hA]
        first
        | (rw [if_pos c1]; exact hF)
        | (rw [if_neg c1]; exact frC_mI (frC_mI hF 13 1) 14 _)
      · refine r_aload_n 111 hX dX7_advice_110 rfl ?_
        refine r_iload_n 112 hX dX7_advice_111 rfl ?_
        refine r_cV1U 115 hX hR tX7_tellRow dX7_advice_112 kX7_tellRow lX7_278 rfl rfl rfl rfl rfl rfl ?_
        refine r_iload_n 116 hX dX7_advice_115 rfl ?_
        refine r_iret hX hT dX7_advice_116 ?_
        refine ⟨by rw [hA], ?_⟩
        rw [hA]
        first
        | (rw [if_pos c1]; exact hF)
        | (rw [if_neg c1]; exact frC_mI (frC_mI hF 13 1) 14 _)
  refine r_iload_n 1 hX dX7_advice_0 rfl ?_
  refine r_cS1F 4 hX hR tX7_isTeam_1 dX7_advice_1 kX7_isTeam lX7_83 rfl rfl rfl ?_
  refine r_if_eq 7 17 hX dX7_advice_4 (fun c => absurd c (by decide)) (fun _ => ?_)
  refine r_aload_n 8 hX dX7_advice_7 rfl ?_
  refine r_getR 11 hX dX7_advice_8 fX7_39 rfl rfl rfl ?_
  refine r_getI 14 hX dX7_advice_11 fX7_102 rfl rfl rfl ?_
  refine r_if_ne 17 19 hX dX7_advice_14 (fun c1 => ?_) (fun c1 => absurd c1 ho)
  refine r_bipush 21 hX dX7_advice_19 (v := -2) (by decide) ?_
  refine r_istore_n 22 hX dX7_advice_21 rfl ?_
  refine r_aload_n 23 hX dX7_advice_22 rfl ?_
  refine r_cV0G 26 hX hR (tX7_chanceNow_1 hS) dX7_advice_23 kX7_chanceNow lX7_258 rfl rfl rfl rfl rfl rfl (fun r9 M9 hp9 => ?_)
  obtain ⟨rfl, hI9⟩ := hp9
  show mx_WW G X 26 _ (.int _ :: []) M9
  refine r_istore_n 27 hX dX7_advice_26 rfl ?_
  refine r_iconst 28 hX dX7_advice_27 (v := 0) (by decide) ?_
  refine r_istore 30 hX dX7_advice_28 rfl ?_
  skip
  have fr := frC_tr (frC_tr (frC_tk M) (frC_fp _ _)) (frC_sc hI9)
  have eo : eqO (tkC M) M9 := fun i _ => by rw [hI9.1.1 40 (by decide) (by decide), hI9.1.1 41 (by decide) (by decide), fpM_ne _ _ (by decide) (by decide), fpM_ne _ _ (by decide) (by decide)]; exact ⟨rfl, rfl⟩
  have key := outer M9 .null .null fr eo
  rw [show 0 * 12 = 0 from rfl, hA0] at key
  exact key

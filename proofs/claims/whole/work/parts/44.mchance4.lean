/-! chances of the model: the table at one score -/
section
variable {G : mx_G} {X : mx_X} {own : String} {cc : ByteArray} {nL pc : Nat} {L S : List Value} {M : mx_Mem}
theorem r_laldV (q : Nat) (hX : mx_OK G X own cc nL) {k n j : Nat} {i : Int32} {v : Int64} (hd : decode cc pc = .ok (.laload, 1)) (hs : mx_sh k = .inl (.long, n)) (hk : Nat.blt k 61 = true) (hi : vp_in i n) (hj : i.toNatClampNeg = j) (hv : M.2 k j = v) (kk : mx_WW G X q L (.long v :: S) M) (hq : pc + 1 = q := by rfl) : mx_WW G X pc L (.int i :: .ref k :: S) M := r_lald q hX hd hs hk hi (by rw [hj, hv]; exact kk) hq
theorem r_lastK (q : Nat) (hX : mx_OK G X own cc nL) {k n j : Nat} {i : Int32} {x : Int64} (hd : decode cc pc = .ok (.lastore, 1)) (hs : mx_sh k = .inl (.long, n)) (hk : Nat.blt k 61 = true) (hi : vp_in i n) (hj : i.toNatClampNeg = j) (kk : mx_WW G X q L S (mL M k j x)) (hq : pc + 1 = q := by rfl) : mx_WW G X pc L (.long x :: .int i :: .ref k :: S) M := r_last q hX hd hs hk hi (by rw [hj]; exact kk) hq
end
theorem mL_ap (M : mx_Mem) (k j k' j' : Nat) (v : Int64) : (mL M k j v).2 k' j' = if k' = k ∧ j' = j then v else M.2 k' j' := by
  by_cases e : k' = k
  · subst e
    by_cases e2 : j' = j <;> simp [mL, mS, vp_updL, e2]
  · simp [mL, mS, e]
theorem mL_1 (M : mx_Mem) (k j : Nat) (v : Int64) : (mL M k j v).1 = M.1 := rfl
def uF (tg cap : Nat) (od : Nat → Nat → Nat → Nat) : Nat → Nat → Nat → Nat → Nat → Nat → Nat
  | 0, _, _, _, _, _ => 0
  | k + 1, a, b, s, i, j => if wnN tg cap a b then 1000000000 else if wnN tg cap b a then 0 else if s = 0 then avg (od 0 i j) (uF tg cap od k (a + 1) b 0 i j) (uF tg cap od k a (b + 1) 1 i ((j + 1) % 6)) else avg (od 1 i j) (uF tg cap od k a (b + 1) 1 i j) (uF tg cap od k (a + 1) b 0 ((i + 1) % 6) j)
def UU (tg cap : Nat) (od : Nat → Nat → Nat → Nat) (a b s i j : Nat) : Nat := uF tg cap od (62 - (a + b)) a b s i j
theorem UU_step (tg cap : Nat) (od : Nat → Nat → Nat → Nat) (a b s i j : Nat) (h : a + b ≤ 61) : UU tg cap od a b s i j = if wnN tg cap a b then 1000000000 else if wnN tg cap b a then 0 else if s = 0 then avg (od 0 i j) (UU tg cap od (a + 1) b 0 i j) (UU tg cap od a (b + 1) 1 i ((j + 1) % 6)) else avg (od 1 i j) (UU tg cap od a (b + 1) 1 i j) (UU tg cap od (a + 1) b 0 ((i + 1) % 6) j) := by
  unfold UU
  rw [show 62 - (a + b) = (61 - (a + b)) + 1 by omega, uF, show 62 - (a + 1 + b) = 61 - (a + b) by omega, show 62 - (a + (b + 1)) = 61 - (a + b) by omega]
theorem uF_le (tg cap : Nat) (od : Nat → Nat → Nat → Nat) (hc : ∀ s i j, od s i j ≤ 1000) : ∀ k a b s i j, uF tg cap od k a b s i j ≤ 1000000000
  | 0, _, _, _, _, _ => by simp [uF]
  | k + 1, a, b, s, i, j => by
    rw [uF]
    repeat' split
    · exact Nat.le_refl _
    · omega
    · exact avg_le (hc _ _ _) (uF_le tg cap od hc k _ _ _ _ _) (uF_le tg cap od hc k _ _ _ _ _)
    · exact avg_le (hc _ _ _) (uF_le tg cap od hc k _ _ _ _ _) (uF_le tg cap od hc k _ _ _ _ _)
theorem ce_inj {a b s i j a' b' s' i' j' : Nat} (hb : b < 31) (hb' : b' < 31) (hs : s < 2) (hs' : s' < 2) (hi : i < 6) (hi' : i' < 6) (hj : j < 6) (hj' : j' < 6) (h : ceN a b s i j = ceN a' b' s' i' j') : a = a' ∧ b = b' ∧ s = s' ∧ i = i' ∧ j = j' := by
  unfold ceN at h
  omega
theorem ce_lt {a b s i j : Nat} (ha : a < 31) (hb : b < 31) (hs : s < 2) (hi : i < 6) (hj : j < 6) : ceN a b s i j < 69192 := by
  unfold ceN
  omega
def tcI (N0 : mx_Mem) (U : Nat → Nat → Nat → Nat) (a b i j : Nat) (N : mx_Mem) : Prop := (N.1 = N0.1 ∧ ∀ k, k ≠ 60 → N.2 k = N0.2 k) ∧ (∀ x, (∀ s i' j', s < 2 → i' < 6 → j' < 6 → x ≠ ceN a b s i' j') → N.2 60 x = N0.2 60 x) ∧ ∀ s i' j', s < 2 → j' < 6 → (i' < i ∨ (i' = i ∧ j' < j)) → N.2 60 (ceN a b s i' j') = lN (U s i' j')
theorem tcI_s {N0 N : mx_Mem} {U : Nat → Nat → Nat → Nat} {a b i j : Nat} (h : tcI N0 U a b i j N) (hb : b < 31) (hi : i < 6) (hj : j < 6) : tcI N0 U a b i (j + 1) (mL (mL N 60 (ceN a b 0 i j) (lN (U 0 i j))) 60 (ceN a b 1 i j) (lN (U 1 i j))) := by
  obtain ⟨⟨h1, h2⟩, h3, h4⟩ := h
  refine ⟨⟨h1, fun k hk => ?_⟩, fun x hx => ?_, fun s i' j' hs hj' hd => ?_⟩
  · funext y
    rw [mL_ap, mL_ap, if_neg (fun e => hk e.1), if_neg (fun e => hk e.1), h2 k hk]
  · rw [mL_ap, mL_ap, if_neg (fun e => hx 1 i j (by decide) hi hj e.2), if_neg (fun e => hx 0 i j (by decide) hi hj e.2)]
    exact h3 x hx
  · rw [mL_ap, mL_ap]
    by_cases e : i' = i ∧ j' = j
    · obtain ⟨rfl, rfl⟩ := e
      have : s = 0 ∨ s = 1 := by omega
      rcases this with rfl | rfl
      · rw [if_neg (fun e => by have := ce_inj hb hb (by decide) (by decide) hi hi hj hj e.2; omega), if_pos ⟨rfl, rfl⟩]
      · rw [if_pos ⟨rfl, rfl⟩]
    · rw [if_neg (fun k => by have := ce_inj hb hb hs (by decide) (by omega) hi hj' hj k.2; omega), if_neg (fun k => by have := ce_inj hb hb hs (by decide) (by omega) hi hj' hj k.2; omega)]
      exact h4 s i' j' hs hj' (by omega)
theorem tcI_i {N0 N : mx_Mem} {U : Nat → Nat → Nat → Nat} {a b i : Nat} (h : tcI N0 U a b i 6 N) : tcI N0 U a b (i + 1) 0 N := ⟨h.1, h.2.1, fun s i' j' hs hj' hd => h.2.2 s i' j' hs hj' (by omega)⟩
theorem tcI_o {N0 N : mx_Mem} {U : Nat → Nat → Nat → Nat} {a b i j a' b' s i' j' : Nat} (h : tcI N0 U a b i j N) (hb : b < 31) (hb' : b' < 31) (hs : s < 2) (hi : i' < 6) (hj : j' < 6) (hn : a' ≠ a ∨ b' ≠ b) : N.2 60 (ceN a' b' s i' j') = N0.2 60 (ceN a' b' s i' j') := h.2.1 _ (fun s2 i2 j2 h1 h2 h3 e => by have := ce_inj hb' hb hs h1 hi h2 hj h3 e; omega)

/-! the coupling: sheets -/
theorem sg_c {x y : Int32} (c : Int32) (h : sgR x y) (h0 : 0 ≤ c) (h1 : ¬ 128 ≤ c) : x = c ↔ y = c := by
  rcases h with ⟨-, -, rfl⟩ | ⟨a, -, e⟩
  · exact Iff.rfl
  · constructor
    · rintro rfl; exact absurd a h1
    · rintro rfl; exact absurd h0 e
theorem sg_plo {x y : Int32} (h : sgR x y) : plo x = plo y := by
  rcases h with ⟨-, -, rfl⟩ | ⟨a, -, e⟩
  · rfl
  · have px : plo x = -1 := by
      unfold plo
      rw [if_neg, if_neg, if_neg]
      · rintro rfl; exact absurd a (by decide)
      · rintro rfl; exact absurd a (by decide)
      · rintro ⟨-, q⟩
        rw [Int32.le_iff_toInt_le] at a q
        have w1 : (128 : Int32).toInt = 128 := rfl
        have w2 : (57 : Int32).toInt = 57 := rfl
        omega
    have py : plo y = -1 := by
      unfold plo
      rw [if_neg, if_neg, if_neg]
      · rintro rfl; exact absurd (by decide) e
      · rintro rfl; exact absurd (by decide) e
      · rintro ⟨q, -⟩
        rw [Int32.le_iff_toInt_le] at e q
        have w1 : (0 : Int32).toInt = 0 := rfl
        have w2 : (48 : Int32).toInt = 48 := rfl
        omega
    rw [px, py]
theorem sgn_n (f : Nat → Int32) {p : Nat} (h : p < 100) : sgn f (nI p) = f p := by
  unfold sgn
  rw [if_pos ⟨nI_pos' (by omega), nI_ge (b := 100) h (by decide)⟩, nI_clamp (by omega)]
theorem sgn_1 (f : Nat → Int32) {p : Nat} (h : p + 1 < 100) : sgn f (nI p + 1) = f (p + 1) := by
  rw [nI_1, sgn_n f h]
theorem sgn_2 (f : Nat → Int32) {p : Nat} (h : p + 2 < 100) : sgn f (nI p + 2) = f (p + 2) := by
  rw [show nI p + 2 = nI (p + 2) from nI_add p 2, sgn_n f h]
abbrev knd (x : Int32) : Prop := x = 33 ∨ x = 45
abbrev bad2 (x : Int32) : Prop := ¬ x = 42 ∧ plo x = -1
theorem flt_R (f : Nat → Int32) {p : Nat} (h : p < 100) (h1 : f p = 65 ∨ f p = 66) : flt f (nI p) = -1 ∧ itn f (nI p) = 1 := by
  unfold flt itn itl
  rw [sgn_n f h, if_pos h1, if_pos]
  · exact ⟨rfl, rfl⟩
  · rcases h1 with e | e <;> rw [e] <;> decide
theorem flt_N (f : Nat → Int32) {p : Nat} (h : p < 100) (h1 : ¬ (f p = 65 ∨ f p = 66)) (h2 : ¬ f p = 97 ∧ ¬ f p = 98) : flt f (nI p) = nI p := by
  unfold flt
  rw [sgn_n f h, if_neg h1, if_pos h2]
theorem flt_A (f : Nat → Int32) {p : Nat} (h : p + 2 < 100) (h1 : f p = 97 ∨ f p = 98) : flt f (nI p) = (if knd (f (p + 1)) then -1 else if bad2 (f (p + 1)) then nI (p + 1) else if plo (f (p + 2)) = -1 then nI (p + 2) else -1) ∧ itn f (nI p) = if knd (f (p + 1)) then 2 else 3 := by
  have n1 : ¬ (f p = 65 ∨ f p = 66) := by rcases h1 with e | e <;> rw [e] <;> decide
  have n2 : ¬ (¬ f p = 97 ∧ ¬ f p = 98) := fun q => h1.elim q.1 q.2
  unfold flt itn itl
  rw [sgn_n f (by omega), sgn_1 f (by omega), sgn_2 f h, if_neg n1, if_neg n2, if_neg n2, nI_1, show nI p + 2 = nI (p + 2) from nI_add p 2]
  refine ⟨rfl, ?_⟩
  by_cases e : f (p + 1) = 33 ∨ f (p + 1) = 45
  · rw [if_pos e, if_pos e]; rfl
  · rw [if_neg e, if_neg e]; rfl
theorem mrd_R (g : Nat → Int32) {p e : Nat} (h1 : g p = 65 ∨ g p = 66) : mrd g p e = 1 := by
  unfold mrd
  rw [if_pos h1]
theorem mrd_N (g : Nat → Int32) {p e : Nat} (h1 : ¬ (g p = 65 ∨ g p = 66)) (h2 : ¬ g p = 97 ∧ ¬ g p = 98) : mrd g p e = -1 - nI p := by
  unfold mrd
  rw [if_neg h1, if_pos h2]
theorem mrd_A (g : Nat → Int32) {p e : Nat} (h1 : g p = 97 ∨ g p = 98) : mrd g p e = if knd (mrb g p e 1) then 2 else if bad2 (mrb g p e 1) then -2 - nI p else if plo (mrb g p e 2) = -1 then -3 - nI p else 3 := by
  have n1 : ¬ (g p = 65 ∨ g p = 66) := by rcases h1 with e | e <;> rw [e] <;> decide
  have n2 : ¬ (¬ g p = 97 ∧ ¬ g p = 98) := fun q => h1.elim q.1 q.2
  unfold mrd
  rw [if_neg n1, if_neg n2]
theorem neg_n {k p : Nat} (hk : k < 4) (h0 : 0 < k) (hp : p < 100) : ¬ 0 ≤ -nI k - nI p := fun q => by
  have h1 := Int32.le_iff_toInt_le.mp q
  rw [Int32.toInt_zero, fb_subI, fb_negI, nI_toInt (by omega), nI_toInt (by omega)] at h1
  · omega
  · rw [nI_toInt (by omega)]; omega
  · rw [fb_negI (by rw [nI_toInt (by omega)]; omega), nI_toInt (by omega), nI_toInt (by omega)]; omega
  · rw [fb_negI (by rw [nI_toInt (by omega)]; omega), nI_toInt (by omega), nI_toInt (by omega)]; omega
theorem m1_1 (p : Nat) : -1 - nI (p + 1) = -2 - nI p := by
  rw [← nI_1]
  generalize nI p = x
  grind
theorem m1_2 (p : Nat) : -1 - nI (p + 2) = -3 - nI p := by
  rw [show nI (p + 2) = nI p + 2 from (nI_add p 2).symm]
  generalize nI p = x
  grind
theorem ff_R {f g : Nat → Int32} {n rd : Nat} (hfg : ∀ j, j < 100 → sgR (f j) (g j)) (hrd : rd ≤ 80) : ∀ k p, rd - p < k → p ≤ rd → (∀ r, mff g rd k p = some r → ¬ fft f n rd k p = -1 ∧ -1 - fft f n rd k p = r) ∧ (mff g rd k p = none → fft f n rd k p = if 80 < n then nI rd else -1) := by
  intro k
  induction k with
  | zero => intro p h; omega
  | succ k ih =>
    intro p hk hp
    have over : ∀ q, rd < q → 1 ≤ k → fft f n rd k q = nI rd := by
      intro q hq hk1
      obtain ⟨k', rfl⟩ : ∃ k', k = k' + 1 := ⟨k - 1, by omega⟩
      rw [fft, if_pos (by omega), if_pos (Or.inl hq)]
    rw [mff, fft]
    by_cases hlt : rd ≤ p
    · rw [if_pos hlt, if_pos hlt]
      refine ⟨fun r hr => (by cases hr), fun _ => ?_⟩
      by_cases h8 : 80 < n
      · rw [if_pos (Or.inr h8), if_pos h8]
      · rw [if_neg (by omega), if_neg h8]
    · rw [if_neg hlt, if_neg hlt]
      have x0 := hfg p (by omega)
      have l65 := sg_c 65 x0 (by decide) (by decide)
      have l66 := sg_c 66 x0 (by decide) (by decide)
      have l97 := sg_c 97 x0 (by decide) (by decide)
      have l98 := sg_c 98 x0 (by decide) (by decide)
      by_cases c1 : f p = 65 ∨ f p = 66
      · have c2 : g p = 65 ∨ g p = 66 := by rw [← l65, ← l66]; exact c1
        obtain ⟨e1, e2⟩ := flt_R f (by omega) c1
        rw [mrd_R g c2, if_pos (by decide), e1, if_neg (fun q => q.1 rfl), e2]
        exact ih (p + 1) (by omega) (by omega)
      · have c2 : ¬ (g p = 65 ∨ g p = 66) := by rw [← l65, ← l66]; exact c1
        by_cases c3 : ¬ f p = 97 ∧ ¬ f p = 98
        · have c4 : ¬ g p = 97 ∧ ¬ g p = 98 := by rw [← l97, ← l98]; exact c3
          rw [mrd_N g c2 c4, flt_N f (by omega) c1 c3, if_neg (show ¬ (0 : Int32) ≤ -1 - nI p from neg_n (k := 1) (p := p) (by decide) (by decide) (by omega)), if_pos ⟨nI_m1 (by omega), nI_ge (by omega) (by omega)⟩]
          refine ⟨fun r hr => ⟨nI_m1 (by omega), Option.some.inj hr⟩, fun hr => (by cases hr)⟩
        · have c3' : f p = 97 ∨ f p = 98 := by
            by_cases q : f p = 97
            · exact Or.inl q
            · exact Or.inr (Classical.not_not.mp fun q2 => c3 ⟨q, q2⟩)
          have c4 : g p = 97 ∨ g p = 98 := by rw [← l97, ← l98]; exact c3'
          obtain ⟨e1, e2⟩ := flt_A f (by omega) c3'
          rw [mrd_A g c4]
          have x1 := hfg (p + 1) (by omega)
          have x2 := hfg (p + 2) (by omega)
          have k1 : knd (f (p + 1)) ↔ knd (g (p + 1)) := by
            show (f (p + 1) = 33 ∨ f (p + 1) = 45) ↔ (g (p + 1) = 33 ∨ g (p + 1) = 45)
            rw [sg_c 33 x1 (by decide) (by decide), sg_c 45 x1 (by decide) (by decide)]
          have k2 : bad2 (f (p + 1)) ↔ bad2 (g (p + 1)) := by
            show (¬ f (p + 1) = 42 ∧ plo (f (p + 1)) = -1) ↔ (¬ g (p + 1) = 42 ∧ plo (g (p + 1)) = -1)
            rw [sg_c 42 x1 (by decide) (by decide), sg_plo x1]
          have k3 := sg_plo x2
          have hm1 : ∀ q, ¬ nI q = -1 → ¬ nI q = -1 := fun _ h => h
          have fin : ∀ (v : Int32) (m : Nat), v = -1 ∨ nI rd ≤ v → rd < p + m → (if ¬ v = -1 ∧ ¬ nI rd ≤ v then v else fft f n rd k (p + m)) = nI rd := by
            intro v m hv hm
            rw [if_neg (fun q => hv.elim q.1 q.2), over _ hm (by omega)]
          by_cases p1 : p + 1 < rd
          · have b1 : mrb g p rd 1 = g (p + 1) := by unfold mrb; rw [if_pos p1]
            rw [b1]
            by_cases s1 : knd (f (p + 1))
            · rw [if_pos s1] at e1 e2
              rw [if_pos (k1.mp s1), if_pos (by decide), e1, if_neg (fun q => q.1 rfl), e2]
              exact ih (p + 2) (by omega) (by omega)
            · rw [if_neg s1] at e1 e2
              rw [if_neg (fun q => s1 (k1.mpr q))]
              by_cases s2 : bad2 (f (p + 1))
              · rw [if_pos s2] at e1
                rw [if_pos (k2.mp s2), if_neg (show ¬ (0 : Int32) ≤ -2 - nI p from neg_n (k := 2) (p := p) (by decide) (by decide) (by omega)), e1, if_pos ⟨nI_m1 (by omega), nI_ge p1 (by omega)⟩]
                refine ⟨fun r hr => ⟨nI_m1 (by omega), ?_⟩, fun hr => (by cases hr)⟩
                rw [m1_1]; exact Option.some.inj hr
              · rw [if_neg s2] at e1
                rw [if_neg (fun q => s2 (k2.mpr q))]
                by_cases p2 : p + 2 < rd
                · have b2 : mrb g p rd 2 = g (p + 2) := by unfold mrb; rw [if_pos p2]
                  rw [b2, ← k3]
                  by_cases s3 : plo (f (p + 2)) = -1
                  · rw [if_pos s3] at e1
                    rw [if_pos s3, if_neg (show ¬ (0 : Int32) ≤ -3 - nI p from neg_n (k := 3) (p := p) (by decide) (by decide) (by omega)), e1, if_pos ⟨nI_m1 (by omega), nI_ge p2 (by omega)⟩]
                    refine ⟨fun r hr => ⟨nI_m1 (by omega), ?_⟩, fun hr => (by cases hr)⟩
                    rw [m1_2]; exact Option.some.inj hr
                  · rw [if_neg s3] at e1
                    rw [if_neg s3, if_pos (by decide), e1, if_neg (fun q => q.1 rfl), e2]
                    exact ih (p + 3) (by omega) (by omega)
                · have b2 : mrb g p rd 2 = -1 := by unfold mrb; rw [if_neg p2]
                  have er : rd = p + 2 := by omega
                  rw [b2, if_pos (show plo (-1) = -1 by decide), if_neg (show ¬ (0 : Int32) ≤ -3 - nI p from neg_n (k := 3) (p := p) (by decide) (by decide) (by omega)), e2, fin]
                  · refine ⟨fun r hr => ⟨nI_m1 (by omega), ?_⟩, fun hr => (by cases hr)⟩
                    rw [er, m1_2]; exact Option.some.inj hr
                  · rw [e1]
                    split
                    · right; rw [er]; exact nI_le (Nat.le_refl _) (by omega)
                    · left; rfl
                  · omega
          · have b1 : mrb g p rd 1 = -1 := by unfold mrb; rw [if_neg p1]
            have er : rd = p + 1 := by omega
            rw [b1, if_neg (show ¬ knd (-1) by decide), if_pos (show bad2 (-1) by decide), if_neg (show ¬ (0 : Int32) ≤ -2 - nI p from neg_n (k := 2) (p := p) (by decide) (by decide) (by omega)), fin]
            · refine ⟨fun r hr => ⟨nI_m1 (by omega), ?_⟩, fun hr => (by cases hr)⟩
              rw [er, m1_1]; exact Option.some.inj hr
            · rw [e1]
              repeat' split
              · left; rfl
              · right; rw [er]; exact nI_le (Nat.le_refl _) (by omega)
              · right; rw [er]; exact nI_le (by omega) (by omega)
              · left; rfl
            · rw [e2]
              split <;> omega

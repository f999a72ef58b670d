/-! the chances of both are the same -/
def iT (f ph : Nat) : Nat := if f = 0 then ph / 2 else ((ph + 1) / 2) % 6
def jT (f ph : Nat) : Nat := if f = 0 then ((ph + 1) / 2) % 6 else ph / 2
theorem vu {tg cap f : Nat} {ch : Nat → Nat} {od : Nat → Nat → Nat → Nat} (hf : f < 2) (h : ∀ ph, ph < 12 → ch ph = od ((f + ph) % 2) (iT f ph) (jT f ph)) : ∀ k a b ph, ph < 12 → vF tg cap ch f k a b ph = uF tg cap od k a b ((f + ph) % 2) (iT f ph) (jT f ph)
  | 0, _, _, _, _ => rfl
  | k + 1, a, b, ph, hp => by
    have h1 := vu (tg := tg) (cap := cap) hf h k (a + 1) b ph hp
    have h2 := vu (tg := tg) (cap := cap) hf h k a (b + 1) ph hp
    have h3 := vu (tg := tg) (cap := cap) hf h k (a + 1) b ((ph + 1) % 12) (by omega)
    have h4 := vu (tg := tg) (cap := cap) hf h k a (b + 1) ((ph + 1) % 12) (by omega)
    have hc := h ph hp
    have ef : f = 0 ∨ f = 1 := by omega
    rw [vF, uF, h1, h2, h3, h4, hc]
    by_cases e : (f + ph) % 2 = 0
    · have e1 : (f + (ph + 1) % 12) % 2 = 1 := by omega
      have e2 : iT f ((ph + 1) % 12) = iT f ph := by
        unfold iT
        rcases ef with rfl | rfl
        · rw [if_pos rfl, if_pos rfl]; omega
        · rw [if_neg (by decide), if_neg (by decide)]; omega
      have e3 : jT f ((ph + 1) % 12) = (jT f ph + 1) % 6 := by
        unfold jT
        rcases ef with rfl | rfl
        · rw [if_pos rfl, if_pos rfl]; omega
        · rw [if_neg (by decide), if_neg (by decide)]; omega
      rw [e, e1, e2, e3, if_pos (show (0 : Nat) = 0 from rfl), if_pos (show (0 : Nat) = 0 from rfl)]
    · have e0 : (f + ph) % 2 = 1 := by omega
      have e1 : (f + (ph + 1) % 12) % 2 = 0 := by omega
      have e2 : iT f ((ph + 1) % 12) = (iT f ph + 1) % 6 := by
        unfold iT
        rcases ef with rfl | rfl
        · rw [if_pos rfl, if_pos rfl]; omega
        · rw [if_neg (by decide), if_neg (by decide)]; omega
      have e3 : jT f ((ph + 1) % 12) = jT f ph := by
        unfold jT
        rcases ef with rfl | rfl
        · rw [if_pos rfl, if_pos rfl]; omega
        · rw [if_neg (by decide), if_neg (by decide)]; omega
      rw [e0, e1, e2, e3, if_neg (show ¬ (1 : Nat) = 0 by decide), if_neg (show ¬ (1 : Nat) = 0 by decide)]
/-- equal skills, and the orders of the one are the counts of the other -/
def EC (A B : mx_Mem) : Prop := (∀ j, j < 48 → A.1 4 j = B.1 47 j ∧ A.1 7 j = B.1 47 (48 + j)) ∧ (∀ i, i < 6 → A.1 40 i = B.1 58 i ∧ A.1 41 i = B.1 58 (6 + i)) ∧ ∀ i, i < 12 → isP (B.1 58 i)
theorem sko_n (f : Nat → Int32) {q w : Nat} (hq : q < 12) (hw : w < 4) : sko f (nI q) (nI w) = f (q * 4 + w) := by
  unfold sko
  rw [show (4 : Int32) = nI 4 from rfl, pk_mul, nI_add, if_pos ⟨nI_pos' (by omega), nI_ge (b := 48) (by omega) (by decide)⟩, nI_clamp (by omega)]
theorem skE0 {A B : mx_Mem} (h : EC A B) {i w : Nat} (hi : i < 6) (hw : w < 4) : sko (A.1 4) (A.1 40 i) (nI w) = ms B 0 i w := by
  obtain ⟨h1, h2, h3⟩ := h
  obtain ⟨q, hq, e⟩ := isP_n (h3 i (by omega))
  rw [(h2 i hi).1, e, sko_n _ hq hw, (h1 _ (by omega)).1]
  unfold ms msk
  rw [show 6 * 0 + i = i by omega, e, nI_clamp (by omega), show (12 * 0 + q) * 4 + w = q * 4 + w by omega]
theorem skE1 {A B : mx_Mem} (h : EC A B) {i w : Nat} (hi : i < 6) (hw : w < 4) : sko (A.1 7) (A.1 41 i) (nI w) = ms B 1 i w := by
  obtain ⟨h1, h2, h3⟩ := h
  obtain ⟨q, hq, e⟩ := isP_n (h3 (6 + i) (by omega))
  rw [(h2 i hi).2, e, sko_n _ hq hw, (h1 _ (by omega)).2]
  unfold ms msk
  rw [show 6 * 1 + i = 6 + i by omega, e, nI_clamp (by omega), show (12 * 1 + q) * 4 + w = 48 + (q * 4 + w) by omega]
theorem thE0 {A B : mx_Mem} (h : EC A B) (r a b c : Nat) {w : Nat} (hw : w < 4) : th3 (A.1 4) (A.1 40) r a b c (nI w) = msm B 0 (r % 6) w a b c / 3 := by
  unfold th3 msm
  rw [skE0 h (by omega) hw, skE0 h (by omega) hw, skE0 h (by omega) hw, Int32.zero_add, show (a + r % 6) % 6 = (a + r) % 6 by omega, show (b + r % 6) % 6 = (b + r) % 6 by omega, show (c + r % 6) % 6 = (c + r) % 6 by omega]
theorem thE1 {A B : mx_Mem} (h : EC A B) (r a b c : Nat) {w : Nat} (hw : w < 4) : th3 (A.1 7) (A.1 41) r a b c (nI w) = msm B 1 (r % 6) w a b c / 3 := by
  unfold th3 msm
  rw [skE1 h (by omega) hw, skE1 h (by omega) hw, skE1 h (by omega) hw, Int32.zero_add, show (a + r % 6) % 6 = (a + r) % 6 by omega, show (b + r % 6) % 6 = (b + r) % 6 by omega, show (c + r % 6) % 6 = (c + r) % 6 by omega]
theorem rcE0 {A B : mx_Mem} (h : EC A B) (i j : Nat) : rcF (A.1 4) (A.1 7) (A.1 40) (A.1 41) i j = mrc B 0 (i % 6) (j % 6) := by
  unfold rcF mrc
  rw [show (0 : Int32) = nI 0 from rfl, show (1 : Int32) = nI 1 from rfl, show (2 : Int32) = nI 2 from rfl]
  rw [skE0 h (by omega) (by decide), thE1 h j 0 4 5 (by decide), thE1 h j 1 2 3 (by decide)]
  rw [show th3 (A.1 4) (A.1 40) i 1 2 3 3 = msm B 0 (i % 6) 3 1 2 3 / 3 from thE0 h i 1 2 3 (w := 3) (by decide)]
  rw [if_pos rfl, if_pos rfl, show (0 + i % 6) % 6 = i % 6 by omega]
theorem rcE1 {A B : mx_Mem} (h : EC A B) (i j : Nat) : rcF (A.1 7) (A.1 4) (A.1 41) (A.1 40) j i = mrc B 1 (i % 6) (j % 6) := by
  unfold rcF mrc
  rw [show (0 : Int32) = nI 0 from rfl, show (1 : Int32) = nI 1 from rfl, show (2 : Int32) = nI 2 from rfl]
  rw [skE1 h (by omega) (by decide), thE0 h i 0 4 5 (by decide), thE0 h i 1 2 3 (by decide)]
  rw [show th3 (A.1 7) (A.1 41) j 1 2 3 3 = msm B 1 (j % 6) 3 1 2 3 / 3 from thE1 h j 1 2 3 (w := 3) (by decide)]
  rw [if_neg (by decide), if_neg (by decide), show (0 + j % 6) % 6 = j % 6 by omega]
theorem phE {A B : mx_Mem} (h : EC A B) {f : Nat} (hf : f < 2) : ∀ ph, ph < 12 → phN A f ph = moN B ((f + ph) % 2) (iT f ph) (jT f ph) := by
  intro ph hp
  unfold phN moN phV
  dsimp only
  have ef : f = 0 ∨ f = 1 := by omega
  have key : ∀ i j, i % 6 = iT f ph → j % 6 = jT f ph → (if (ph + f) % 2 = 0 then rcF (A.1 4) (A.1 7) (A.1 40) (A.1 41) i j else rcF (A.1 7) (A.1 4) (A.1 41) (A.1 40) j i) = mrc B ((f + ph) % 2) (iT f ph) (jT f ph) := by
    intro i j h1 h2
    rw [← h1, ← h2]
    by_cases e : (ph + f) % 2 = 0
    · rw [if_pos e, show (f + ph) % 2 = 0 by omega]; exact rcE0 h i j
    · rw [if_neg e, show (f + ph) % 2 = 1 by omega]; exact rcE1 h i j
  rw [key]
  · unfold iT
    rcases ef with rfl | rfl
    · rw [if_pos rfl, if_pos rfl]; omega
    · rw [if_neg (by decide), if_neg (by decide)]
  · unfold jT
    rcases ef with rfl | rfl
    · rw [if_pos rfl, if_pos rfl]
    · rw [if_neg (by decide), if_neg (by decide)]; omega
theorem VU {A B : mx_Mem} (h : EC A B) {f : Nat} (hf : f < 2) (tg cap a b : Nat) {ph : Nat} (hp : ph < 12) : VV tg cap (phN A f) f a b ph = UU tg cap (moN B) a b ((f + ph) % 2) (iT f ph) (jT f ph) := vu hf (phE h hf) _ a b ph hp
theorem VU0 {A B : mx_Mem} (h : EC A B) {f : Nat} (hf : f < 2) (tg cap a b : Nat) : chV A f a b tg cap = UU tg cap (moN B) a b f 0 0 := by
  have := VU h hf tg cap a b (ph := 0) (by decide)
  unfold chV
  have ef : f = 0 ∨ f = 1 := by omega
  rw [this]
  rcases ef with rfl | rfl <;> rfl

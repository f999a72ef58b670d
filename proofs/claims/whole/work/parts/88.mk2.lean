/-! the building machine: rows of rows, constructors -/
theorem arrV_cg {c : ClassId} {n : Nat} {f g : Nat → Value} (h : ∀ j, j < n → f j = g j) : arrV c n f = arrV c n g := by
  unfold arrV
  rw [show (fun j : Fin n => f j.val) = (fun j : Fin n => g j.val) from funext fun j => h j.1 j.2]
def mk_sf (i : Nat) (e : mk_E) : mk_E := match e with
  | .inl (ty, n, .inl f) => .inl (ty, n, .inl f)
  | .inl (ty, n, .inr g) => .inl (ty, n, .inr (fun j => i + g j))
  | .inr (ci, fs) => .inr (ci, fs.map (mx_c (fun k => i + k)))
theorem mx_c_c (b i : Nat) (v : Value) : mx_c (fun k => b + k) (mx_c (fun k => i + k) v) = mx_c (fun k => b + i + k) v := by
  cases v with
  | ref k =>
    show Value.ref (b + (i + k)) = Value.ref (b + i + k)
    rw [Nat.add_assoc]
  | _ => rfl
theorem mk_sf_r (cA : FieldType → ClassId) (b i : Nat) (e : mk_E) : mk_r cA b (mk_sf i e) = mk_r cA (b + i) e := by
  rcases e with ⟨ty, n, f | g⟩ | ⟨ci, fs⟩
  · rfl
  · show Sum.inl (_, _, Sum.inr (Sum.inr (Sum.inr (Sum.inr (fun j => some (b + (i + g j))))))) = Sum.inl (_, _, Sum.inr (Sum.inr (Sum.inr (Sum.inr (fun j => some (b + i + g j))))))
    rw [show (fun j => some (b + (i + g j))) = (fun j => some (b + i + g j)) from funext fun j => by rw [Nat.add_assoc]]
  · show Sum.inr (_, (fs.map _).map _) = Sum.inr (_, fs.map _)
    rw [List.map_map, show (mx_c (fun k => b + k) ∘ mx_c (fun k => i + k)) = mx_c (fun k => b + i + k) from funext fun v => mx_c_c b i v]
def mk_G (D : va_G) (cA : FieldType → ClassId) (b : Nat) : mx_G := (b, 0, fun k => b + k, D, cA, 0, fun _ => 0)
def mk_Pc (G : mx_G) (ws : List mk_E) : Array Value → State → Prop := fun v U => v = #[Value.ref (mx_base G)] ∧ va_K (mx_D G) mx_cl (mx_tys G) U ∧ (U.heap.size = mx_base G + ws.length ∧ va_P (mx_D G) mx_cl (mk_at (mx_cA G) (mx_base G) ws) U.heap) ∧ mk_AO U
def mk_Qc (G : mx_G) (ws : List mk_E) : Array Value → State → Outcome → State → Prop := fun _ st oc t => oc = .returned none ∧ (t.heap.size = mx_base G + ws.length ∧ va_P (mx_D G) mx_cl (mk_at (mx_cA G) (mx_base G) ws) t.heap) ∧ va_F (mx_A G) st t
/-- the constructor y, from a fresh object e0 that is the last cell: the cells ws' from there on -/
def mk_Met (l : Launch) (y : MethodName) (cc : ByteArray) (maxL fr lo nc ns : Nat) (e0 : mk_E) (ws' : List mk_E) : Prop := ∀ (D : va_G) (cA : FieldType → ClassId) (b : Nat), Met l y (Cond.code y cc maxL none :: mx_gW) ({ frames := fr, cells := nc, slots := ns, locals := lo } : Room) (mk_Pc (mk_G D cA b) [e0]) (mk_Qc (mk_G D cA b) ws') nc ns (mx_A (mk_G D cA b))
def mk_RT (G : mx_G) (X : mk_X) (nc ns : Nat) (ws : List mk_E) : Prop := match X with
  | (_, _, _, _, s, _, args, below, meth, _, Q) => meth.sig.returnType = none ∧ meth.locks = false ∧ Q = MQ below (mk_Qc G ws) args s nc ns (mx_A G)
def mk_l (X : mk_X) : Launch := X.2.1
theorem mk_blind (G : mx_G) (ws : List mk_E) : FrameBlind (mk_Pc G ws) := fun a U g mk h => ⟨h.1, va_K.moved (u := U) (U := U.calling g mk a) (Vm.Alike.refl U.vm) h.2.1, h.2.2.1, over_moved (u := U) (E := U.calling g mk a) (Vm.Alike.refl U.vm) h.2.2.2⟩
set_option maxRecDepth 100000 in
theorem mk_of {l : Launch} {y : MethodName} {cc : ByteArray} {maxL fr lo nc ns : Nat} {e0 : mk_E} {ws' : List mk_E} (hy : plainName y.cls = true) (hy2 : y.name = "<init>") (h1 : 1 ≤ maxL) (body : ∀ (G : mx_G) (X : mk_X), mk_OK G X y.cls cc maxL → mk_IN X → mk_RM X fr lo nc ns → mk_RT G X nc ns ws' → mk_l X = l → mk_WW G X 0 0 0 (mx_L0 [.ref 0] maxL) [] [e0]) : mk_Met l y cc maxL fr lo nc ns e0 ws' := by
  intro D cA b
  refine Met.ofW (cc := cc) (maxL := maxL) (ret := none) hy rfl ?_
  intro p e s m args below meth c s₁ B hml hv
  obtain ⟨rfl, hK, ⟨hsz, hP⟩, hAO⟩ := hv
  have hts : ∀ w ∈ Cond.code y cc maxL none :: mx_gW, w.before _ s = true := atoms_spec B.pre
  have hg : ∀ w ∈ mx_gW, w.before _ s = true := fun w hw => hts w (List.mem_cons_of_mem _ hw)
  have hown : s.vm.findClass y.cls = some m.cls := findClass_of_methodNamed B.named
  have hin : meth.name = "<init>" := (name_of_methodNamed B.named B.method).1.trans hy2
  have hsz1 : s.heap.size = b + 1 := hsz
  have key := body (mk_G D cA b) (p, l, e, (headSpec (Cond.code y cc maxL none :: mx_gW) ({ frames := fr, cells := nc, slots := ns, locals := lo } : Room)).room, s, m, #[Value.ref b], below, meth, c, MQ below (mk_Qc (mk_G D cA b) ws') #[Value.ref b] s nc ns (mx_A (mk_G D cA b)))
    ⟨B.exec, B.bytes, hml, hown, hg, hK, rfl, (show b ≤ s.heap.size by omega), hAO⟩ hin ⟨rfl, rfl, rfl, rfl⟩ ⟨B.returns, B.notSynchronized, rfl⟩ rfl
  rw [lg_entry_eq]
  exact key s.heap [] _ (show b + 1 = s.heap.size + 0 by omega) hP va_S.rf (mx_entry (G := mk_G D cA b) (av := [.ref 0]) (n := maxL) h1)
section MKB
variable {G : mx_G} {X : mk_X} {own : String} {cc : ByteArray} {nL pc cells slots : Nat} {L S : List Value} {ws : List mk_E}
theorem mk_to {ws2 : List mk_E} (h : ws = ws2) (kk : mk_WW G X cells slots pc L S ws2) : mk_WW G X cells slots pc L S ws := by rw [h]; exact kk
theorem k_ret (hX : mk_OK G X own cc nL) {ns : Nat} (hT : mk_RT G X cells ns ws) (hs : Nat.ble slots ns = true) (hd : decode cc pc = .ok (.return_, 1)) : mk_WW G X cells slots pc L [] ws := by
  obtain ⟨p, l, e, R, s, m, args, below, meth, c, Q⟩ := X
  obtain ⟨hx, hb, hml, hown, hts, hK, had, hba, hAO⟩ := hX
  obtain ⟨h1, h2, h3⟩ := hT
  subst h3
  intro H locs ls hz hP hS hl
  refine W.widen (k := cells) (n := ns) (Nat.le_refl _) (Nat.le_of_ble_eq_true hs) ?_
  intro T hT X9
  have hsz : H.size = mx_base G + ws.length := mk_size X9 hT hz hP hba
  exact W.vret hx hb h1 (fun t ht hW => ⟨rfl, ⟨by rw [ht]; exact hsz, by rw [ht]; exact hP⟩, hS.F ht⟩) hS.2.2 hd h2 T hT X9
theorem k_init (q i : Nat) (hX : mk_OK G X own cc nL) {fr lo nc ns fr1 lo1 nc1 ns1 idx maxL : Nat} (hR : mk_RM X fr1 lo1 nc1 ns1) {y : MethodName} {cy : ByteArray} {e0 : mk_E} {ws' : List mk_E} (hM : mk_Met (mk_l X) y cy maxL fr lo nc ns e0 ws') (hd : decode cc pc = .ok (.invokespecial idx, 3)) (hc : mx_cd y cy maxL none 0) (hy : y.name = "<init>") (hli : Cond.methodLink own idx y ∈ mx_gW ∧ Cond.instanceMethod y ∈ mx_gW) (hw : ws[i]? = some e0) (hlen : ws.length = i + 1) (he : ∀ i, mk_sf i e0 = e0) (hnc : ws'.length = nc + 1) (hrs : mx_rs S = true) (hro : ((Nat.ble (fr + 1) fr1 && Nat.ble (8 + (maxL + 11) + lo) lo1) && (Nat.ble (cells + nc) nc1 && Nat.ble (slots + ns) ns1)) = true) (hnL : L.length = nL)
    (kk : mk_WW G X (cells + nc) (slots + ns) q L S (ws.take i ++ ws'.map (mk_sf i))) (hq : pc + 3 = q := by rfl) : mk_WW G X cells slots pc L (.ref i :: S) ws := by
  obtain ⟨p, l, e, R, s, m, args, below, meth, c, Q⟩ := X
  obtain ⟨base, n9, ad, D, cA, sN, sX⟩ := G
  obtain ⟨hx, hb, hml, hown, hts, hK, had, hba, hAO⟩ := hX
  obtain ⟨hR1, hR2, hR3, hR4⟩ := hR
  have had : ad = fun k => base + k := had
  subst had
  subst hq
  simp only [Bool.and_eq_true] at hro
  intro H locs ls hz hP hS hl T hT X9
  have hba : base ≤ s.heap.size := hba
  have hz : base + ws.length = s.heap.size + cells := hz
  have hP : va_P D mx_cl (mk_at cA base ws) H := hP
  have hsz : H.size = base + ws.length := mk_size X9 hT hz hP hba
  have hA : ∀ q : Nat, mx_A (mk_G D cA (base + i)) q → base ≤ q := fun q h => Nat.le_trans (Nat.le_add_right base i) h
  have hP1 : va_P D mx_cl (mk_at cA (base + i) [e0]) H := by
    intro k x hk
    obtain ⟨e9, h1, rfl⟩ := mk_got hk
    have h3 : k < 1 := (List.getElem?_eq_some_iff.mp h1).1
    rw [show k = 0 by omega] at h1 ⊢
    cases h1
    have h4 := hP _ _ (mk_get hw)
    rw [← he i, mk_sf_r] at h4
    exact h4
  have cb : CallB R s args own idx y cy maxL none (Cond.code y cy maxL none :: mx_gW) ({ frames := fr, cells := nc, slots := ns, locals := lo } : Room) nc ns 0 := callB_of 0 hts (mx_good hc.1) rfl rfl rfl (hts _ hc.2.1) (hts _ hli.1) ⟨hc.2.2.1.1, hc.2.2.1.2, hc.2.2.2⟩ ⟨by rw [hR1]; exact Nat.le_of_ble_eq_true hro.1.1, by rw [hR2]; exact Nat.le_of_ble_eq_true hro.1.2⟩
  obtain ⟨v, st₀, t, T', L', h0, X', hL, e1, e2, ⟨hv, ⟨hs9, hP9⟩, hF⟩, st⟩ := va_runI (g := F0 m pc ls ((Value.ref i :: S).map (mx_c (fun k => base + k)))) (rest := S.map (mx_c (fun k => base + k))) (b := base + i) (As := []) ⟨hx, hb, hml, hown, hts⟩ (hM D cA (base + i)) ⟨cb, hy, hts _ hli.2⟩
    ⟨mk_blind _ _, fun U hU hW => ⟨rfl, va_K.moved hW.alike hK, ⟨by rw [hU, hsz, hlen]; rfl, by rw [hU]; exact hP1⟩, over_moved hW.alike hAO⟩⟩ rfl rfl (hl.1.trans hnL) rfl (lv_room (mx_rsum (mk_G D cA base) hrs)) hd ⟨by rw [hR3]; exact Nat.le_of_ble_eq_true hro.2.1, by rw [hR4]; exact Nat.le_of_ble_eq_true hro.2.2⟩ T hT X9
  cases hv
  have hs9 : t.heap.size = base + i + ws'.length := hs9
  have hP9 : va_P D mx_cl (mk_at cA (base + i) ws') t.heap := hP9
  obtain ⟨hz2, hk2⟩ := hF
  rw [h0] at hz2 hk2
  have hi : (ws.take i).length = i := by rw [List.length_take]; omega
  have hP3 : va_P D mx_cl (mk_at cA base (ws.take i ++ ws'.map (mk_sf i))) T'.heap := by
    intro k x hk
    obtain ⟨e9, h1, rfl⟩ := mk_got hk
    rw [e1]
    by_cases hki : k < i
    · rw [List.getElem?_append_left (by omega), List.getElem?_take_of_lt hki] at h1
      have h4 := hP _ _ (mk_get h1)
      exact h4.kept (hk2 _ h4.lt (fun q => by have q9 : base + i ≤ base + k := q; omega))
    · rw [List.getElem?_append_right (by omega), hi, List.getElem?_map] at h1
      obtain ⟨e8, h5, rfl⟩ := Option.map_eq_some_iff.mp h1
      have h4 := hP9 _ _ (mk_get h5)
      rw [mk_sf_r, show base + k = base + i + (k - i) by omega]
      exact h4
  have hS3 : va_S (mx_A (base, n9, (fun k => base + k), D, cA, sN, sX)) s.heap T'.heap (locs ++ L') :=
    ⟨Nat.le_trans hS.1 (by rw [e1]; exact hz2), fun q h1 h2 => by rw [e1, hk2 q (Nat.lt_of_lt_of_le h1 hS.1) (fun z => h2 (hA q z))]; exact hS.2.1 q h1 h2, fun q hq => by
      rcases List.mem_append.mp hq with h | h
      · exact hS.2.2 q h
      · exact hA _ (hL q h)⟩
  obtain ⟨t2, a1, b1⟩ := kk T'.heap (locs ++ L') ls (show base + (ws.take i ++ ws'.map (mk_sf i)).length = s.heap.size + (cells + nc) by rw [List.length_append, hi, List.length_map, hnc]; omega) hP3 hS3 hl T' rfl X'
  exact ⟨t2, st t2 a1, b1⟩
theorem k_mna (q : Nat) (hX : mk_OK G X own cc nL) {fr lo nc ns idx : Nat} (hR : mk_RM X fr lo nc ns) (hd : decode cc pc = .ok (.multianewarray idx 2, 4)) (hli : Cond.classLink own idx ("[" ++ (FieldType.array .int).toString) ∈ mx_gW ∧ Cond.arrayClass .int ∈ mx_gW) (hby : (Nat.ble (cells + 3) nc && Nat.ble (slots + 746) ns) = true)
    (kk : mk_WW G X (cells + 3) (slots + 746) q L (.ref ws.length :: S) (ws ++ [.inl (.array .int, 2, .inr (fun j => ws.length + 1 + j)), .inl (.int, 372, .inl (fun _ => 0)), .inl (.int, 372, .inl (fun _ => 0))])) (hq : pc + 4 = q := by rfl) : mk_WW G X cells slots pc L (.int 372 :: .int 2 :: S) ws := by
  obtain ⟨p, l, e, R, s, m, args, below, meth, c, Q⟩ := X
  obtain ⟨base, n9, ad, D, cA, sN, sX⟩ := G
  obtain ⟨hx, hb, hml, hown, hts, hK, had, hba, hAO⟩ := hX
  obtain ⟨hR1, hR2, hR3, hR4⟩ := hR
  have had : ad = fun k => base + k := had
  subst had
  subst hq
  simp only [Bool.and_eq_true] at hby
  intro H locs ls hz hP hS hl T hT X9
  have hba : base ≤ s.heap.size := hba
  have hz : base + ws.length = s.heap.size + cells := hz
  have hP : va_P D mx_cl (mk_at cA base ws) H := hP
  have hsz : H.size = base + ws.length := mk_size X9 hT hz hP hba
  have n2 : (2 : Int32).toNatClampNeg = 2 := by decide
  have n3 : (372 : Int32).toNatClampNeg = 372 := by decide
  have b1 := Nat.le_of_ble_eq_true hby.1
  have b2 := Nat.le_of_ble_eq_true hby.2
  obtain ⟨vm₁, cB, comp, -, fA, fC, -, -, X', step⟩ := X9.multianewarray2F (ty := .int) (n := 2) (k := 372) (rest := S.map (mx_c (fun k => base + k))) hx hown (hts _ hli.1) (over_moved (Vm.Alike.refl s.vm) hAO) (hts _ hli.2) (g := F0 m pc ls ((Value.int 372 :: .int 2 :: S).map (mx_c (fun k => base + k)))) rfl (by rw [hb]; exact hd) rfl (by decide) (by decide) (by decide) (by decide) (by decide) (by decide) (by decide) (by rw [hR3, n2]; omega) (by rw [hR4, n2, n3]; omega)
  have ec : cA .int = comp := Option.some.inj ((hK.2 0 _ rfl).2.symm.trans fC)
  have eB : cA (.array .int) = cB := Option.some.inj ((hK.2 5 _ rfl).2.symm.trans fA)
  subst ec
  subst eB
  rw [n2, n3] at X' step
  generalize hF : Jvm.Free.Multi.fill (T.setVm vm₁) (cA (.array .int)) (cA .int) 2 372 (defaultValue .int) 2 = F at X' step
  have hTh : (T.setVm vm₁).heap = H := hT
  obtain ⟨f1, f2, -, -⟩ := Jvm.Free.Multi.fill_facts (T.setVm vm₁) (cA (.array .int)) (cA .int) 2 372 (defaultValue .int) 2
  rw [hF, hTh] at f1 f2
  have hold : ∀ x : Nat, x < H.size → F.heap[x]? = H[x]? := fun x hx => by
    have := Jvm.Free.Multi.fill_old (T.setVm vm₁) (cA (.array .int)) (cA .int) 2 372 (defaultValue .int) (a := x) (by rw [hTh]; exact hx) 2
    rw [hF, hTh] at this
    exact this
  have hz1 : Jvm.Free.Multi.innerC (cA .int) 372 (defaultValue .int) = vp_cell (cA .int) (372, .inl (fun _ => 0)) := arrV_new _ _ _
  have hrow : ∀ j : Nat, j < 2 → F.heap[H.size + 1 + j]? = some (vp_cell (cA .int) (372, .inl (fun _ => 0))) := fun j hj => by
    have := Jvm.Free.Multi.fill_inner (T.setVm vm₁) (cA (.array .int)) (cA .int) 2 372 (defaultValue .int) 2 j hj
    rw [hF, hTh, hz1] at this
    exact this
  have hout : Jvm.Free.Multi.outerC (cA (.array .int)) 2 H.size 2 = vp_cell (cA (.array .int)) (2, .inr (.inr (.inr (.inr (fun j => some (base + (ws.length + 1 + j))))))) := by
    rw [vr_outer, vp_cell_q]
    refine arrV_cg (fun j hj => ?_)
    rw [if_pos hj, hsz]
    congr 2
    omega
  rw [hout] at f2
  have hP3 : va_P D mx_cl (mk_at cA base (ws ++ [.inl (.array .int, 2, .inr (fun j => ws.length + 1 + j)), .inl (.int, 372, .inl (fun _ => 0)), .inl (.int, 372, .inl (fun _ => 0))])) F.heap := by
    intro k x hk
    obtain ⟨e9, h1, rfl⟩ := mk_got hk
    by_cases hki : k < ws.length
    · rw [List.getElem?_append_left hki] at h1
      have h4 := hP _ _ (mk_get h1)
      exact h4.kept (hold _ h4.lt)
    · rw [List.getElem?_append_right (by omega)] at h1
      have h3 : k - ws.length < 3 := (List.getElem?_eq_some_iff.mp h1).1
      rcases (show k - ws.length = 0 ∨ k - ws.length = 1 ∨ k - ws.length = 2 by omega) with h5 | h5 | h5
      · rw [h5] at h1
        cases h1
        rw [show base + k = H.size by omega]
        exact f2
      · rw [h5] at h1
        cases h1
        rw [show base + k = H.size + 1 + 0 by omega]
        exact hrow 0 (by decide)
      · rw [h5] at h1
        cases h1
        rw [show base + k = H.size + 1 + 1 by omega]
        exact hrow 1 (by decide)
  have e9 : (Value.ref T.heap.size) = mx_c (fun k => base + k) (.ref ws.length) := by rw [hT, hsz]; rfl
  have h9 := kk F.heap locs ls (show base + (ws ++ [_, _, _]).length = s.heap.size + (cells + 3) by rw [List.length_append]; show base + (ws.length + 3) = _; omega) hP3 (mk_S hS (by rw [f1]; omega) hold) hl F rfl X'
  obtain ⟨t2, a1, b1⟩ := h9
  refine ⟨t2, step t2 ?_, b1⟩
  rw [e9]
  exact a1
end MKB

/-! the constructors -/
theorem ob_i : Cond.instanceMethod objectInit ∈ mx_gW ∧ Cond.code objectInit ⟨#[0xb1]⟩ 1 none ∈ mx_gW := ⟨mx_in (by decide +kernel), mx_in (by decide +kernel)⟩
theorem ac_int : Cond.arrayClass .int ∈ mx_gW := mx_in (by decide +kernel)
theorem ac_boolean : Cond.arrayClass .boolean ∈ mx_gW := mx_in (by decide +kernel)
theorem ac_byte : Cond.arrayClass .byte ∈ mx_gW := mx_in (by decide +kernel)
theorem ac_char : Cond.arrayClass .char ∈ mx_gW := mx_in (by decide +kernel)
theorem ac_long : Cond.arrayClass .long ∈ mx_gW := mx_in (by decide +kernel)
section MKC
variable {G : mx_G} {X : mk_X} {own : String} {cc : ByteArray} {nL pc cells slots : Nat} {L S : List Value} {ws : List mk_E}
theorem k_new_int (q w n : Nat) (hX : mk_OK G X own cc nL) {fr lo nc ns : Nat} (hR : mk_RM X fr lo nc ns) {i : Int32} (hd : decode cc pc = .ok (.newarray .int, 2)) (hw : ws.length = w) (hn : (decide (i < 0) || decide (i.toNatClampNeg ≠ n)) = false) (hby : (Nat.ble (n * componentBytes .int) 536870912 && Nat.ble (cells + 1) nc && Nat.ble (slots + n) ns) = true)
    (kk : mk_WW G X (cells + 1) (slots + n) q L (.ref w :: S) (ws ++ [.inl (.int, n, .inl (fun _ => 0))])) (hq : pc + 2 = q := by rfl) : mk_WW G X cells slots pc L (.int i :: S) ws := by
  subst hw
  simp only [Bool.or_eq_false_iff, decide_eq_false_iff_not, ne_eq, Classical.not_not] at hn
  exact k_newa (t0 := 0) q hX hR hd rfl ac_int (fun _ => rfl) (fun _ _ h => h) (fun _ _ => rfl) hn.1 hn.2 hby kk hq
theorem k_new_boolean (q w n : Nat) (hX : mk_OK G X own cc nL) {fr lo nc ns : Nat} (hR : mk_RM X fr lo nc ns) {i : Int32} (hd : decode cc pc = .ok (.newarray .boolean, 2)) (hw : ws.length = w) (hn : (decide (i < 0) || decide (i.toNatClampNeg ≠ n)) = false) (hby : (Nat.ble (n * componentBytes .boolean) 536870912 && Nat.ble (cells + 1) nc && Nat.ble (slots + n) ns) = true)
    (kk : mk_WW G X (cells + 1) (slots + n) q L (.ref w :: S) (ws ++ [.inl (.boolean, n, .inl (fun _ => 0))])) (hq : pc + 2 = q := by rfl) : mk_WW G X cells slots pc L (.int i :: S) ws := by
  subst hw
  simp only [Bool.or_eq_false_iff, decide_eq_false_iff_not, ne_eq, Classical.not_not] at hn
  exact k_newa (t0 := 1) q hX hR hd rfl ac_boolean (fun _ => rfl) (fun _ _ h => h) (fun _ _ => rfl) hn.1 hn.2 hby kk hq
theorem k_new_byte (q w n : Nat) (hX : mk_OK G X own cc nL) {fr lo nc ns : Nat} (hR : mk_RM X fr lo nc ns) {i : Int32} (hd : decode cc pc = .ok (.newarray .byte, 2)) (hw : ws.length = w) (hn : (decide (i < 0) || decide (i.toNatClampNeg ≠ n)) = false) (hby : (Nat.ble (n * componentBytes .byte) 536870912 && Nat.ble (cells + 1) nc && Nat.ble (slots + n) ns) = true)
    (kk : mk_WW G X (cells + 1) (slots + n) q L (.ref w :: S) (ws ++ [.inl (.byte, n, .inl (fun _ => 0))])) (hq : pc + 2 = q := by rfl) : mk_WW G X cells slots pc L (.int i :: S) ws := by
  subst hw
  simp only [Bool.or_eq_false_iff, decide_eq_false_iff_not, ne_eq, Classical.not_not] at hn
  exact k_newa (t0 := 2) q hX hR hd rfl ac_byte (fun _ => rfl) (fun _ _ h => h) (fun _ _ => rfl) hn.1 hn.2 hby kk hq
theorem k_new_char (q w n : Nat) (hX : mk_OK G X own cc nL) {fr lo nc ns : Nat} (hR : mk_RM X fr lo nc ns) {i : Int32} (hd : decode cc pc = .ok (.newarray .char, 2)) (hw : ws.length = w) (hn : (decide (i < 0) || decide (i.toNatClampNeg ≠ n)) = false) (hby : (Nat.ble (n * componentBytes .char) 536870912 && Nat.ble (cells + 1) nc && Nat.ble (slots + n) ns) = true)
    (kk : mk_WW G X (cells + 1) (slots + n) q L (.ref w :: S) (ws ++ [.inl (.char, n, .inl (fun _ => 0))])) (hq : pc + 2 = q := by rfl) : mk_WW G X cells slots pc L (.int i :: S) ws := by
  subst hw
  simp only [Bool.or_eq_false_iff, decide_eq_false_iff_not, ne_eq, Classical.not_not] at hn
  exact k_newa (t0 := 3) q hX hR hd rfl ac_char (fun _ => rfl) (fun _ _ h => h) (fun _ _ => rfl) hn.1 hn.2 hby kk hq
theorem k_new_long (q w n : Nat) (hX : mk_OK G X own cc nL) {fr lo nc ns : Nat} (hR : mk_RM X fr lo nc ns) {i : Int32} (hd : decode cc pc = .ok (.newarray .long, 2)) (hw : ws.length = w) (hn : (decide (i < 0) || decide (i.toNatClampNeg ≠ n)) = false) (hby : (Nat.ble (n * componentBytes .long) 536870912 && Nat.ble (cells + 1) nc && Nat.ble (slots + n) ns) = true)
    (kk : mk_WW G X (cells + 1) (slots + n) q L (.ref w :: S) (ws ++ [.inl (.long, n, .inl (fun _ => 0))])) (hq : pc + 2 = q := by rfl) : mk_WW G X cells slots pc L (.int i :: S) ws := by
  subst hw
  simp only [Bool.or_eq_false_iff, decide_eq_false_iff_not, ne_eq, Classical.not_not] at hn
  exact k_newa (t0 := 4) q hX hR hd rfl ac_long (fun _ => rfl) (fun _ _ h => h) (fun _ _ => rfl) hn.1 hn.2 hby kk hq
theorem k_new1 (q w : Nat) (hX : mk_OK G X own cc nL) {fr lo nc ns idx ci N : Nat} (hR : mk_RM X fr lo nc ns) {C : String} {T : u_T} {ty : Nat → FieldType} {fs : List Value} (hd : decode cc pc = .ok (.new idx, 3)) (hck : mx_ck ci C T N) (hty : ∀ k, k < N → parseFieldDescriptor (T k).2.2.1 = some (ty k)) (hli : Cond.classLink own idx C ∈ mx_gW ∧ Cond.instantiable C N ∈ mx_gW ∧ Cond.initialized C ∈ mx_gW) (hfs : ∀ (ad : Nat → Nat) (j : Nat), j < N → defaultValue (ty j) = vp_V (fs.map (mx_c ad)) j) (hw : ws.length = w) (hby : (Nat.ble (cells + 1) nc && Nat.ble (slots + N) ns) = true)
    (kk : mk_WW G X (cells + 1) (slots + N) q L (.ref w :: S) (ws ++ [.inr (ci, fs)])) (hq : pc + 3 = q := by rfl) : mk_WW G X cells slots pc L S ws := by
  subst hw
  exact k_new q hX hR hd hck hty hli hfs hby kk hq
theorem k_mna1 (q w : Nat) (hX : mk_OK G X own cc nL) {fr lo nc ns idx : Nat} (hR : mk_RM X fr lo nc ns) (hd : decode cc pc = .ok (.multianewarray idx 2, 4)) (hli : Cond.classLink own idx ("[" ++ (FieldType.array .int).toString) ∈ mx_gW ∧ Cond.arrayClass .int ∈ mx_gW) (hw : ws.length = w) (hby : (Nat.ble (cells + 3) nc && Nat.ble (slots + 746) ns) = true)
    (kk : mk_WW G X (cells + 3) (slots + 746) q L (.ref w :: S) (ws ++ [.inl (.array .int, 2, .inr (fun j => w + 1 + j)), .inl (.int, 372, .inl (fun _ => 0)), .inl (.int, 372, .inl (fun _ => 0))])) (hq : pc + 4 = q := by rfl) : mk_WW G X cells slots pc L (.int 372 :: .int 2 :: S) ws := by
  subst hw
  exact k_mna q hX hR hd hli hby kk hq
end MKC
def fF (i : Nat) : Nat → Int32 := fun j => if j < i then 50 else 0
theorem fF0 : fF 0 = fun _ => 0 := funext fun j => if_neg (Nat.not_lt_zero j)
theorem fF1 (i : Nat) (h : i < 2 ^ 31) : upd (fF i) (nI i).toNatClampNeg 50 = fF (i + 1) := by
  rw [nI_clamp h]
  funext j
  unfold upd fF
  by_cases h1 : j = i
  · rw [if_pos h1, if_pos (by omega)]
  · rw [if_neg h1]
    by_cases h2 : j < i
    · rw [if_pos h2, if_pos (by omega)]
    · rw [if_neg h2, if_neg (by omega)]
theorem dfX0 : ∀ j, j < 5 → defaultValue (tyX0 j) = vp_V [.null, .null, .null, .null, .int 0] j := by decide +kernel
theorem dfX1 : ∀ j, j < 7 → defaultValue (tyX1 j) = vp_V [.int 0, .int 0, .int 0, .int 0, .int 0, .int 0, .int 0] j := by decide +kernel
theorem dfX2 : ∀ j, j < 12 → defaultValue (tyX2 j) = vp_V [.null, .null, .null, .null, .int 0, .int 0, .int 0, .int 0, .int 0, .int 0, .int 0, .int 0] j := by decide +kernel
theorem dfX3 : ∀ j, j < 1 → defaultValue (tyX3 j) = vp_V [.null] j := by decide +kernel
theorem dfX4 : ∀ j, j < 4 → defaultValue (tyX4 j) = vp_V [.null, .null, .int 0, .int 0] j := by decide +kernel
theorem dfX5 : ∀ j, j < 2 → defaultValue (tyX5 j) = vp_V [.null, .null] j := by decide +kernel
theorem dfX6 : ∀ j, j < 2 → defaultValue (tyX6 j) = vp_V [.null, .int 0] j := by decide +kernel
theorem dfX7 : ∀ j, j < 15 → defaultValue (tyX7 j) = vp_V [.null, .null, .null, .null, .null, .null, .null, .null, .null, .null, .null, .null, .null, .int 0, .int 0] j := by decide +kernel
theorem dfX8 : ∀ j, j < 18 → defaultValue (tyX8 j) = vp_V [.null, .null, .null, .null, .null, .null, .null, .null, .null, .null, .int 0, .int 0, .int 0, .int 0, .null, .null, .null, .null] j := by decide +kernel
theorem inX0 : Cond.instantiable RX0 5 ∈ mx_gW ∧ Cond.initialized RX0 ∈ mx_gW := ⟨mx_in (by decide +kernel), mx_in (by decide +kernel)⟩
theorem inX1 : Cond.instantiable RX1 7 ∈ mx_gW ∧ Cond.initialized RX1 ∈ mx_gW := ⟨mx_in (by decide +kernel), mx_in (by decide +kernel)⟩
theorem inX2 : Cond.instantiable RX2 12 ∈ mx_gW ∧ Cond.initialized RX2 ∈ mx_gW := ⟨mx_in (by decide +kernel), mx_in (by decide +kernel)⟩
theorem inX3 : Cond.instantiable RX3 1 ∈ mx_gW ∧ Cond.initialized RX3 ∈ mx_gW := ⟨mx_in (by decide +kernel), mx_in (by decide +kernel)⟩
theorem inX4 : Cond.instantiable RX4 4 ∈ mx_gW ∧ Cond.initialized RX4 ∈ mx_gW := ⟨mx_in (by decide +kernel), mx_in (by decide +kernel)⟩
theorem inX5 : Cond.instantiable RX5 2 ∈ mx_gW ∧ Cond.initialized RX5 ∈ mx_gW := ⟨mx_in (by decide +kernel), mx_in (by decide +kernel)⟩
theorem inX6 : Cond.instantiable RX6 2 ∈ mx_gW ∧ Cond.initialized RX6 ∈ mx_gW := ⟨mx_in (by decide +kernel), mx_in (by decide +kernel)⟩
theorem inX7 : Cond.instantiable RX7 15 ∈ mx_gW ∧ Cond.initialized RX7 ∈ mx_gW := ⟨mx_in (by decide +kernel), mx_in (by decide +kernel)⟩
theorem inX8 : Cond.instantiable RX8 18 ∈ mx_gW ∧ Cond.initialized RX8 ∈ mx_gW := ⟨mx_in (by decide +kernel), mx_in (by decide +kernel)⟩
def wX3 : List mk_E := [.inr (3, [.ref 1]), .inl (.int, 6, .inl (upd (upd (upd (upd (upd (upd (fun _ => 0) 0 25) 1 30) 2 15) 3 2) 4 6) 5 2))]
set_option maxRecDepth 100000 in
set_option maxHeartbeats 4000000 in
theorem mX3_init {l : Launch} : mk_Met l yX3_init cX3_init 1 1 31 1 6 (.inr (3, [.null])) wX3 := by
  refine mk_of (by decide +kernel) rfl (by decide) ?_
  intro G X hX hI hR hT hlX
  refine k_aload_n 1 hX dX3_init_0 rfl ?_
  refine k_obj 4 hX hR dX3_init_1 ⟨mx_in (by decide +kernel), ob_i.1, ob_i.2⟩ rfl rfl rfl ?_
  refine k_aload_n 5 hX dX3_init_4 rfl ?_
  refine k_bipush (v := 6) 7 hX dX3_init_5 rfl ?_
  refine k_new_int 9 1 6 hX hR dX3_init_7 rfl rfl rfl ?_
  refine mk_to (ws2 := [.inr (3, [.null]), .inl (.int, 6, .inl (fun _ => 0))]) (by rfl) ?_
  refine k_dup 10 hX dX3_init_9 rfl ?_
  refine k_iconst (v := 0) 11 hX dX3_init_10 rfl ?_
  refine k_bipush (v := 25) 13 hX dX3_init_11 rfl ?_
  refine k_iast 14 hX dX3_init_13 rfl (vpK rfl) ?_
  refine mk_to (ws2 := [.inr (3, [.null]), .inl (.int, 6, .inl (upd (fun _ => 0) 0 25))]) (by rfl) ?_
  refine k_dup 15 hX dX3_init_14 rfl ?_
  refine k_iconst (v := 1) 16 hX dX3_init_15 rfl ?_
  refine k_bipush (v := 30) 18 hX dX3_init_16 rfl ?_
  refine k_iast 19 hX dX3_init_18 rfl (vpK rfl) ?_
  refine mk_to (ws2 := [.inr (3, [.null]), .inl (.int, 6, .inl (upd (upd (fun _ => 0) 0 25) 1 30))]) (by rfl) ?_
  refine k_dup 20 hX dX3_init_19 rfl ?_
  refine k_iconst (v := 2) 21 hX dX3_init_20 rfl ?_
  refine k_bipush (v := 15) 23 hX dX3_init_21 rfl ?_
  refine k_iast 24 hX dX3_init_23 rfl (vpK rfl) ?_
  refine mk_to (ws2 := [.inr (3, [.null]), .inl (.int, 6, .inl (upd (upd (upd (fun _ => 0) 0 25) 1 30) 2 15))]) (by rfl) ?_
  refine k_dup 25 hX dX3_init_24 rfl ?_
  refine k_iconst (v := 3) 26 hX dX3_init_25 rfl ?_
  refine k_iconst (v := 2) 27 hX dX3_init_26 rfl ?_
  refine k_iast 28 hX dX3_init_27 rfl (vpK rfl) ?_
  refine mk_to (ws2 := [.inr (3, [.null]), .inl (.int, 6, .inl (upd (upd (upd (upd (fun _ => 0) 0 25) 1 30) 2 15) 3 2))]) (by rfl) ?_
  refine k_dup 29 hX dX3_init_28 rfl ?_
  refine k_iconst (v := 4) 30 hX dX3_init_29 rfl ?_
  refine k_bipush (v := 6) 32 hX dX3_init_30 rfl ?_
  refine k_iast 33 hX dX3_init_32 rfl (vpK rfl) ?_
  refine mk_to (ws2 := [.inr (3, [.null]), .inl (.int, 6, .inl (upd (upd (upd (upd (upd (fun _ => 0) 0 25) 1 30) 2 15) 3 2) 4 6))]) (by rfl) ?_
  refine k_dup 34 hX dX3_init_33 rfl ?_
  refine k_iconst (v := 5) 35 hX dX3_init_34 rfl ?_
  refine k_iconst (v := 2) 36 hX dX3_init_35 rfl ?_
  refine k_iast 37 hX dX3_init_36 rfl (vpK rfl) ?_
  refine mk_to (ws2 := [.inr (3, [.null]), .inl (.int, 6, .inl (upd (upd (upd (upd (upd (upd (fun _ => 0) 0 25) 1 30) 2 15) 3 2) 4 6) 5 2))]) (by rfl) ?_
  refine k_putF (j := 0) (ty := (.array .int)) 40 hX hI dX3_init_37 mx_ck3 (by decide) (mx_in (by decide +kernel)) rfl rfl (by decide +kernel) rfl (fun _ => ⟨rfl, rfl⟩) (by decide) ?_
  refine mk_to (ws2 := [.inr (3, [.ref 1]), .inl (.int, 6, .inl (upd (upd (upd (upd (upd (upd (fun _ => 0) 0 25) 1 30) 2 15) 3 2) 4 6) 5 2))]) (by rfl) ?_
  exact k_ret hX hT rfl dX3_init_40
def wX2 : List mk_E := [.inr (2, [.ref 1, .ref 2, .ref 3, .ref 4, .int (-1), .int (-1), .int 0, .int 0, .int 0, .int 0, .int 0, .int 0]), .inl (.int, 6, .inl (fun _ => 0)), .inl (.int, 12, .inl (fun _ => 0)), .inl (.int, 12, .inl (fun _ => 0)), .inl (.int, 12, .inl (fun _ => 0))]
set_option maxRecDepth 100000 in
set_option maxHeartbeats 4000000 in
theorem mX2_init {l : Launch} : mk_Met l yX2_init cX2_init 1 1 31 4 42 (.inr (2, [.null, .null, .null, .null, .int 0, .int 0, .int 0, .int 0, .int 0, .int 0, .int 0, .int 0])) wX2 := by
  refine mk_of (by decide +kernel) rfl (by decide) ?_
  intro G X hX hI hR hT hlX
  refine k_aload_n 1 hX dX2_init_0 rfl ?_
  refine k_obj 4 hX hR dX2_init_1 ⟨mx_in (by decide +kernel), ob_i.1, ob_i.2⟩ rfl rfl rfl ?_
  refine k_aload_n 5 hX dX2_init_4 rfl ?_
  refine k_bipush (v := 6) 7 hX dX2_init_5 rfl ?_
  refine k_new_int 9 1 6 hX hR dX2_init_7 rfl rfl rfl ?_
  refine mk_to (ws2 := [.inr (2, [.null, .null, .null, .null, .int 0, .int 0, .int 0, .int 0, .int 0, .int 0, .int 0, .int 0]), .inl (.int, 6, .inl (fun _ => 0))]) (by rfl) ?_
  refine k_putF (j := 0) (ty := (.array .int)) 12 hX hI dX2_init_9 mx_ck2 (by decide) (mx_in (by decide +kernel)) rfl rfl (by decide +kernel) rfl (fun _ => ⟨rfl, rfl⟩) (by decide) ?_
  refine mk_to (ws2 := [.inr (2, [.ref 1, .null, .null, .null, .int 0, .int 0, .int 0, .int 0, .int 0, .int 0, .int 0, .int 0]), .inl (.int, 6, .inl (fun _ => 0))]) (by rfl) ?_
  refine k_aload_n 13 hX dX2_init_12 rfl ?_
  refine k_bipush (v := 12) 15 hX dX2_init_13 rfl ?_
  refine k_new_int 17 2 12 hX hR dX2_init_15 rfl rfl rfl ?_
  refine mk_to (ws2 := [.inr (2, [.ref 1, .null, .null, .null, .int 0, .int 0, .int 0, .int 0, .int 0, .int 0, .int 0, .int 0]), .inl (.int, 6, .inl (fun _ => 0)), .inl (.int, 12, .inl (fun _ => 0))]) (by rfl) ?_
  refine k_putF (j := 1) (ty := (.array .int)) 20 hX hI dX2_init_17 mx_ck2 (by decide) (mx_in (by decide +kernel)) rfl rfl (by decide +kernel) rfl (fun _ => ⟨rfl, rfl⟩) (by decide) ?_
  refine mk_to (ws2 := [.inr (2, [.ref 1, .ref 2, .null, .null, .int 0, .int 0, .int 0, .int 0, .int 0, .int 0, .int 0, .int 0]), .inl (.int, 6, .inl (fun _ => 0)), .inl (.int, 12, .inl (fun _ => 0))]) (by rfl) ?_
  refine k_aload_n 21 hX dX2_init_20 rfl ?_
  refine k_bipush (v := 12) 23 hX dX2_init_21 rfl ?_
  refine k_new_int 25 3 12 hX hR dX2_init_23 rfl rfl rfl ?_
  refine mk_to (ws2 := [.inr (2, [.ref 1, .ref 2, .null, .null, .int 0, .int 0, .int 0, .int 0, .int 0, .int 0, .int 0, .int 0]), .inl (.int, 6, .inl (fun _ => 0)), .inl (.int, 12, .inl (fun _ => 0)), .inl (.int, 12, .inl (fun _ => 0))]) (by rfl) ?_
  refine k_putF (j := 2) (ty := (.array .int)) 28 hX hI dX2_init_25 mx_ck2 (by decide) (mx_in (by decide +kernel)) rfl rfl (by decide +kernel) rfl (fun _ => ⟨rfl, rfl⟩) (by decide) ?_
  refine mk_to (ws2 := [.inr (2, [.ref 1, .ref 2, .ref 3, .null, .int 0, .int 0, .int 0, .int 0, .int 0, .int 0, .int 0, .int 0]), .inl (.int, 6, .inl (fun _ => 0)), .inl (.int, 12, .inl (fun _ => 0)), .inl (.int, 12, .inl (fun _ => 0))]) (by rfl) ?_
  refine k_aload_n 29 hX dX2_init_28 rfl ?_
  refine k_bipush (v := 12) 31 hX dX2_init_29 rfl ?_
  refine k_new_int 33 4 12 hX hR dX2_init_31 rfl rfl rfl ?_
  refine mk_to (ws2 := [.inr (2, [.ref 1, .ref 2, .ref 3, .null, .int 0, .int 0, .int 0, .int 0, .int 0, .int 0, .int 0, .int 0]), .inl (.int, 6, .inl (fun _ => 0)), .inl (.int, 12, .inl (fun _ => 0)), .inl (.int, 12, .inl (fun _ => 0)), .inl (.int, 12, .inl (fun _ => 0))]) (by rfl) ?_
  refine k_putF (j := 3) (ty := (.array .int)) 36 hX hI dX2_init_33 mx_ck2 (by decide) (mx_in (by decide +kernel)) rfl rfl (by decide +kernel) rfl (fun _ => ⟨rfl, rfl⟩) (by decide) ?_
  refine mk_to (ws2 := [.inr (2, [.ref 1, .ref 2, .ref 3, .ref 4, .int 0, .int 0, .int 0, .int 0, .int 0, .int 0, .int 0, .int 0]), .inl (.int, 6, .inl (fun _ => 0)), .inl (.int, 12, .inl (fun _ => 0)), .inl (.int, 12, .inl (fun _ => 0)), .inl (.int, 12, .inl (fun _ => 0))]) (by rfl) ?_
  refine k_aload_n 37 hX dX2_init_36 rfl ?_
  refine k_iconst (v := (-1)) 38 hX dX2_init_37 rfl ?_
  refine k_put (j := 4) (ty := .int) 41 hX dX2_init_38 mx_ck2 (by decide) (mx_in (by decide +kernel)) rfl (by decide +kernel) rfl (fun _ => ⟨rfl, rfl⟩) (by decide) ?_
  refine mk_to (ws2 := [.inr (2, [.ref 1, .ref 2, .ref 3, .ref 4, .int (-1), .int 0, .int 0, .int 0, .int 0, .int 0, .int 0, .int 0]), .inl (.int, 6, .inl (fun _ => 0)), .inl (.int, 12, .inl (fun _ => 0)), .inl (.int, 12, .inl (fun _ => 0)), .inl (.int, 12, .inl (fun _ => 0))]) (by rfl) ?_
  refine k_aload_n 42 hX dX2_init_41 rfl ?_
  refine k_iconst (v := (-1)) 43 hX dX2_init_42 rfl ?_
  refine k_put (j := 5) (ty := .int) 46 hX dX2_init_43 mx_ck2 (by decide) (mx_in (by decide +kernel)) rfl (by decide +kernel) rfl (fun _ => ⟨rfl, rfl⟩) (by decide) ?_
  refine mk_to (ws2 := [.inr (2, [.ref 1, .ref 2, .ref 3, .ref 4, .int (-1), .int (-1), .int 0, .int 0, .int 0, .int 0, .int 0, .int 0]), .inl (.int, 6, .inl (fun _ => 0)), .inl (.int, 12, .inl (fun _ => 0)), .inl (.int, 12, .inl (fun _ => 0)), .inl (.int, 12, .inl (fun _ => 0))]) (by rfl) ?_
  refine k_aload_n 47 hX dX2_init_46 rfl ?_
  refine k_iconst (v := 0) 48 hX dX2_init_47 rfl ?_
  refine k_put (j := 6) (ty := .boolean) 51 hX dX2_init_48 mx_ck2 (by decide) (mx_in (by decide +kernel)) rfl (by decide +kernel) rfl (fun _ => ⟨rfl, rfl⟩) (by decide) ?_
  refine mk_to (ws2 := [.inr (2, [.ref 1, .ref 2, .ref 3, .ref 4, .int (-1), .int (-1), .int 0, .int 0, .int 0, .int 0, .int 0, .int 0]), .inl (.int, 6, .inl (fun _ => 0)), .inl (.int, 12, .inl (fun _ => 0)), .inl (.int, 12, .inl (fun _ => 0)), .inl (.int, 12, .inl (fun _ => 0))]) (by rfl) ?_
  refine k_aload_n 52 hX dX2_init_51 rfl ?_
  refine k_iconst (v := 0) 53 hX dX2_init_52 rfl ?_
  refine k_put (j := 7) (ty := .int) 56 hX dX2_init_53 mx_ck2 (by decide) (mx_in (by decide +kernel)) rfl (by decide +kernel) rfl (fun _ => ⟨rfl, rfl⟩) (by decide) ?_
  refine mk_to (ws2 := [.inr (2, [.ref 1, .ref 2, .ref 3, .ref 4, .int (-1), .int (-1), .int 0, .int 0, .int 0, .int 0, .int 0, .int 0]), .inl (.int, 6, .inl (fun _ => 0)), .inl (.int, 12, .inl (fun _ => 0)), .inl (.int, 12, .inl (fun _ => 0)), .inl (.int, 12, .inl (fun _ => 0))]) (by rfl) ?_
  refine k_aload_n 57 hX dX2_init_56 rfl ?_
  refine k_iconst (v := 0) 58 hX dX2_init_57 rfl ?_
  refine k_put (j := 8) (ty := .int) 61 hX dX2_init_58 mx_ck2 (by decide) (mx_in (by decide +kernel)) rfl (by decide +kernel) rfl (fun _ => ⟨rfl, rfl⟩) (by decide) ?_
  refine mk_to (ws2 := [.inr (2, [.ref 1, .ref 2, .ref 3, .ref 4, .int (-1), .int (-1), .int 0, .int 0, .int 0, .int 0, .int 0, .int 0]), .inl (.int, 6, .inl (fun _ => 0)), .inl (.int, 12, .inl (fun _ => 0)), .inl (.int, 12, .inl (fun _ => 0)), .inl (.int, 12, .inl (fun _ => 0))]) (by rfl) ?_
  refine k_aload_n 62 hX dX2_init_61 rfl ?_
  refine k_iconst (v := 0) 63 hX dX2_init_62 rfl ?_
  refine k_put (j := 9) (ty := .int) 66 hX dX2_init_63 mx_ck2 (by decide) (mx_in (by decide +kernel)) rfl (by decide +kernel) rfl (fun _ => ⟨rfl, rfl⟩) (by decide) ?_
  refine mk_to (ws2 := [.inr (2, [.ref 1, .ref 2, .ref 3, .ref 4, .int (-1), .int (-1), .int 0, .int 0, .int 0, .int 0, .int 0, .int 0]), .inl (.int, 6, .inl (fun _ => 0)), .inl (.int, 12, .inl (fun _ => 0)), .inl (.int, 12, .inl (fun _ => 0)), .inl (.int, 12, .inl (fun _ => 0))]) (by rfl) ?_
  refine k_aload_n 67 hX dX2_init_66 rfl ?_
  refine k_iconst (v := 0) 68 hX dX2_init_67 rfl ?_
  refine k_put (j := 10) (ty := .int) 71 hX dX2_init_68 mx_ck2 (by decide) (mx_in (by decide +kernel)) rfl (by decide +kernel) rfl (fun _ => ⟨rfl, rfl⟩) (by decide) ?_
  refine mk_to (ws2 := [.inr (2, [.ref 1, .ref 2, .ref 3, .ref 4, .int (-1), .int (-1), .int 0, .int 0, .int 0, .int 0, .int 0, .int 0]), .inl (.int, 6, .inl (fun _ => 0)), .inl (.int, 12, .inl (fun _ => 0)), .inl (.int, 12, .inl (fun _ => 0)), .inl (.int, 12, .inl (fun _ => 0))]) (by rfl) ?_
  refine k_aload_n 72 hX dX2_init_71 rfl ?_
  refine k_iconst (v := 0) 73 hX dX2_init_72 rfl ?_
  refine k_put (j := 11) (ty := .int) 76 hX dX2_init_73 mx_ck2 (by decide) (mx_in (by decide +kernel)) rfl (by decide +kernel) rfl (fun _ => ⟨rfl, rfl⟩) (by decide) ?_
  refine mk_to (ws2 := [.inr (2, [.ref 1, .ref 2, .ref 3, .ref 4, .int (-1), .int (-1), .int 0, .int 0, .int 0, .int 0, .int 0, .int 0]), .inl (.int, 6, .inl (fun _ => 0)), .inl (.int, 12, .inl (fun _ => 0)), .inl (.int, 12, .inl (fun _ => 0)), .inl (.int, 12, .inl (fun _ => 0))]) (by rfl) ?_
  exact k_ret hX hT rfl dX2_init_76
def wX1 : List mk_E := [.inr (1, [.int (-1), .int 0, .int (-1), .int 0, .int 0, .int (-1), .int (-1)])]
set_option maxRecDepth 100000 in
set_option maxHeartbeats 4000000 in
theorem mX1_init {l : Launch} : mk_Met l yX1_init cX1_init 1 1 31 0 0 (.inr (1, [.int 0, .int 0, .int 0, .int 0, .int 0, .int 0, .int 0])) wX1 := by
  refine mk_of (by decide +kernel) rfl (by decide) ?_
  intro G X hX hI hR hT hlX
  refine k_aload_n 1 hX dX1_init_0 rfl ?_
  refine k_obj 4 hX hR dX1_init_1 ⟨mx_in (by decide +kernel), ob_i.1, ob_i.2⟩ rfl rfl rfl ?_
  refine k_aload_n 5 hX dX1_init_4 rfl ?_
  refine k_iconst (v := (-1)) 6 hX dX1_init_5 rfl ?_
  refine k_put (j := 0) (ty := .int) 9 hX dX1_init_6 mx_ck1 (by decide) (mx_in (by decide +kernel)) rfl (by decide +kernel) rfl (fun _ => ⟨rfl, rfl⟩) (by decide) ?_
  refine mk_to (ws2 := [.inr (1, [.int (-1), .int 0, .int 0, .int 0, .int 0, .int 0, .int 0])]) (by rfl) ?_
  refine k_aload_n 10 hX dX1_init_9 rfl ?_
  refine k_iconst (v := 0) 11 hX dX1_init_10 rfl ?_
  refine k_put (j := 1) (ty := .boolean) 14 hX dX1_init_11 mx_ck1 (by decide) (mx_in (by decide +kernel)) rfl (by decide +kernel) rfl (fun _ => ⟨rfl, rfl⟩) (by decide) ?_
  refine mk_to (ws2 := [.inr (1, [.int (-1), .int 0, .int 0, .int 0, .int 0, .int 0, .int 0])]) (by rfl) ?_
  refine k_aload_n 15 hX dX1_init_14 rfl ?_
  refine k_iconst (v := (-1)) 16 hX dX1_init_15 rfl ?_
  refine k_put (j := 2) (ty := .int) 19 hX dX1_init_16 mx_ck1 (by decide) (mx_in (by decide +kernel)) rfl (by decide +kernel) rfl (fun _ => ⟨rfl, rfl⟩) (by decide) ?_
  refine mk_to (ws2 := [.inr (1, [.int (-1), .int 0, .int (-1), .int 0, .int 0, .int 0, .int 0])]) (by rfl) ?_
  refine k_aload_n 20 hX dX1_init_19 rfl ?_
  refine k_iconst (v := 0) 21 hX dX1_init_20 rfl ?_
  refine k_put (j := 3) (ty := .int) 24 hX dX1_init_21 mx_ck1 (by decide) (mx_in (by decide +kernel)) rfl (by decide +kernel) rfl (fun _ => ⟨rfl, rfl⟩) (by decide) ?_
  refine mk_to (ws2 := [.inr (1, [.int (-1), .int 0, .int (-1), .int 0, .int 0, .int 0, .int 0])]) (by rfl) ?_
  refine k_aload_n 25 hX dX1_init_24 rfl ?_
  refine k_iconst (v := 0) 26 hX dX1_init_25 rfl ?_
  refine k_put (j := 4) (ty := .int) 29 hX dX1_init_26 mx_ck1 (by decide) (mx_in (by decide +kernel)) rfl (by decide +kernel) rfl (fun _ => ⟨rfl, rfl⟩) (by decide) ?_
  refine mk_to (ws2 := [.inr (1, [.int (-1), .int 0, .int (-1), .int 0, .int 0, .int 0, .int 0])]) (by rfl) ?_
  refine k_aload_n 30 hX dX1_init_29 rfl ?_
  refine k_iconst (v := (-1)) 31 hX dX1_init_30 rfl ?_
  refine k_put (j := 5) (ty := .int) 34 hX dX1_init_31 mx_ck1 (by decide) (mx_in (by decide +kernel)) rfl (by decide +kernel) rfl (fun _ => ⟨rfl, rfl⟩) (by decide) ?_
  refine mk_to (ws2 := [.inr (1, [.int (-1), .int 0, .int (-1), .int 0, .int 0, .int (-1), .int 0])]) (by rfl) ?_
  refine k_aload_n 35 hX dX1_init_34 rfl ?_
  refine k_iconst (v := (-1)) 36 hX dX1_init_35 rfl ?_
  refine k_put (j := 6) (ty := .int) 39 hX dX1_init_36 mx_ck1 (by decide) (mx_in (by decide +kernel)) rfl (by decide +kernel) rfl (fun _ => ⟨rfl, rfl⟩) (by decide) ?_
  refine mk_to (ws2 := [.inr (1, [.int (-1), .int 0, .int (-1), .int 0, .int 0, .int (-1), .int (-1)])]) (by rfl) ?_
  exact k_ret hX hT rfl dX1_init_39
def wX5 : List mk_E := [.inr (5, [.ref 1, .ref 2]), .inl (.int, 6, .inl (fun _ => 0)), .inl (.int, 6, .inl (fun _ => 0))]
set_option maxRecDepth 100000 in
set_option maxHeartbeats 4000000 in
theorem mX5_init {l : Launch} : mk_Met l yX5_init cX5_init 1 1 31 2 12 (.inr (5, [.null, .null])) wX5 := by
  refine mk_of (by decide +kernel) rfl (by decide) ?_
  intro G X hX hI hR hT hlX
  refine k_aload_n 1 hX dX5_init_0 rfl ?_
  refine k_obj 4 hX hR dX5_init_1 ⟨mx_in (by decide +kernel), ob_i.1, ob_i.2⟩ rfl rfl rfl ?_
  refine k_aload_n 5 hX dX5_init_4 rfl ?_
  refine k_bipush (v := 6) 7 hX dX5_init_5 rfl ?_
  refine k_new_int 9 1 6 hX hR dX5_init_7 rfl rfl rfl ?_
  refine mk_to (ws2 := [.inr (5, [.null, .null]), .inl (.int, 6, .inl (fun _ => 0))]) (by rfl) ?_
  refine k_putF (j := 0) (ty := (.array .int)) 12 hX hI dX5_init_9 mx_ck5 (by decide) (mx_in (by decide +kernel)) rfl rfl (by decide +kernel) rfl (fun _ => ⟨rfl, rfl⟩) (by decide) ?_
  refine mk_to (ws2 := [.inr (5, [.ref 1, .null]), .inl (.int, 6, .inl (fun _ => 0))]) (by rfl) ?_
  refine k_aload_n 13 hX dX5_init_12 rfl ?_
  refine k_bipush (v := 6) 15 hX dX5_init_13 rfl ?_
  refine k_new_int 17 2 6 hX hR dX5_init_15 rfl rfl rfl ?_
  refine mk_to (ws2 := [.inr (5, [.ref 1, .null]), .inl (.int, 6, .inl (fun _ => 0)), .inl (.int, 6, .inl (fun _ => 0))]) (by rfl) ?_
  refine k_putF (j := 1) (ty := (.array .int)) 20 hX hI dX5_init_17 mx_ck5 (by decide) (mx_in (by decide +kernel)) rfl rfl (by decide +kernel) rfl (fun _ => ⟨rfl, rfl⟩) (by decide) ?_
  refine mk_to (ws2 := [.inr (5, [.ref 1, .ref 2]), .inl (.int, 6, .inl (fun _ => 0)), .inl (.int, 6, .inl (fun _ => 0))]) (by rfl) ?_
  exact k_ret hX hT rfl dX5_init_20
def wX6 : List mk_E := [.inr (6, [.ref 1, .int 0]), .inl (.char, 100, .inl (fun _ => 0))]
set_option maxRecDepth 100000 in
set_option maxHeartbeats 4000000 in
theorem mX6_init {l : Launch} : mk_Met l yX6_init cX6_init 1 1 31 1 100 (.inr (6, [.null, .int 0])) wX6 := by
  refine mk_of (by decide +kernel) rfl (by decide) ?_
  intro G X hX hI hR hT hlX
  refine k_aload_n 1 hX dX6_init_0 rfl ?_
  refine k_obj 4 hX hR dX6_init_1 ⟨mx_in (by decide +kernel), ob_i.1, ob_i.2⟩ rfl rfl rfl ?_
  refine k_aload_n 5 hX dX6_init_4 rfl ?_
  refine k_bipush (v := 100) 7 hX dX6_init_5 rfl ?_
  refine k_new_char 9 1 100 hX hR dX6_init_7 rfl rfl rfl ?_
  refine mk_to (ws2 := [.inr (6, [.null, .int 0]), .inl (.char, 100, .inl (fun _ => 0))]) (by rfl) ?_
  refine k_putF (j := 0) (ty := (.array .char)) 12 hX hI dX6_init_9 mx_ck6 (by decide) (mx_in (by decide +kernel)) rfl rfl (by decide +kernel) rfl (fun _ => ⟨rfl, rfl⟩) (by decide) ?_
  refine mk_to (ws2 := [.inr (6, [.ref 1, .int 0]), .inl (.char, 100, .inl (fun _ => 0))]) (by rfl) ?_
  refine k_aload_n 13 hX dX6_init_12 rfl ?_
  refine k_iconst (v := 0) 14 hX dX6_init_13 rfl ?_
  refine k_put (j := 1) (ty := .int) 17 hX dX6_init_14 mx_ck6 (by decide) (mx_in (by decide +kernel)) rfl (by decide +kernel) rfl (fun _ => ⟨rfl, rfl⟩) (by decide) ?_
  refine mk_to (ws2 := [.inr (6, [.ref 1, .int 0]), .inl (.char, 100, .inl (fun _ => 0))]) (by rfl) ?_
  exact k_ret hX hT rfl dX6_init_17
def wX0 : List mk_E := [.inr (0, [.ref 1, .ref 2, .ref 3, .ref 4, .int 0]), .inl (.int, 6, .inl (fun _ => 0)), .inl (.int, 6, .inl (fun _ => 0)), .inl (.int, 12, .inl (fun _ => 0)), .inl (.array .int, 2, .inr (fun j => 4 + 1 + j)), .inl (.int, 372, .inl (fun _ => 0)), .inl (.int, 372, .inl (fun _ => 0))]
set_option maxRecDepth 100000 in
set_option maxHeartbeats 4000000 in
theorem mX0_init {l : Launch} : mk_Met l yX0_init cX0_init 1 1 31 6 770 (.inr (0, [.null, .null, .null, .null, .int 0])) wX0 := by
  refine mk_of (by decide +kernel) rfl (by decide) ?_
  intro G X hX hI hR hT hlX
  refine k_aload_n 1 hX dX0_init_0 rfl ?_
  refine k_obj 4 hX hR dX0_init_1 ⟨mx_in (by decide +kernel), ob_i.1, ob_i.2⟩ rfl rfl rfl ?_
  refine k_aload_n 5 hX dX0_init_4 rfl ?_
  refine k_bipush (v := 6) 7 hX dX0_init_5 rfl ?_
  refine k_new_int 9 1 6 hX hR dX0_init_7 rfl rfl rfl ?_
  refine mk_to (ws2 := [.inr (0, [.null, .null, .null, .null, .int 0]), .inl (.int, 6, .inl (fun _ => 0))]) (by rfl) ?_
  refine k_putF (j := 0) (ty := (.array .int)) 12 hX hI dX0_init_9 mx_ck0 (by decide) (mx_in (by decide +kernel)) rfl rfl (by decide +kernel) rfl (fun _ => ⟨rfl, rfl⟩) (by decide) ?_
  refine mk_to (ws2 := [.inr (0, [.ref 1, .null, .null, .null, .int 0]), .inl (.int, 6, .inl (fun _ => 0))]) (by rfl) ?_
  refine k_aload_n 13 hX dX0_init_12 rfl ?_
  refine k_bipush (v := 6) 15 hX dX0_init_13 rfl ?_
  refine k_new_int 17 2 6 hX hR dX0_init_15 rfl rfl rfl ?_
  refine mk_to (ws2 := [.inr (0, [.ref 1, .null, .null, .null, .int 0]), .inl (.int, 6, .inl (fun _ => 0)), .inl (.int, 6, .inl (fun _ => 0))]) (by rfl) ?_
  refine k_putF (j := 1) (ty := (.array .int)) 20 hX hI dX0_init_17 mx_ck0 (by decide) (mx_in (by decide +kernel)) rfl rfl (by decide +kernel) rfl (fun _ => ⟨rfl, rfl⟩) (by decide) ?_
  refine mk_to (ws2 := [.inr (0, [.ref 1, .ref 2, .null, .null, .int 0]), .inl (.int, 6, .inl (fun _ => 0)), .inl (.int, 6, .inl (fun _ => 0))]) (by rfl) ?_
  refine k_aload_n 21 hX dX0_init_20 rfl ?_
  refine k_bipush (v := 12) 23 hX dX0_init_21 rfl ?_
  refine k_new_int 25 3 12 hX hR dX0_init_23 rfl rfl rfl ?_
  refine mk_to (ws2 := [.inr (0, [.ref 1, .ref 2, .null, .null, .int 0]), .inl (.int, 6, .inl (fun _ => 0)), .inl (.int, 6, .inl (fun _ => 0)), .inl (.int, 12, .inl (fun _ => 0))]) (by rfl) ?_
  refine k_putF (j := 2) (ty := (.array .int)) 28 hX hI dX0_init_25 mx_ck0 (by decide) (mx_in (by decide +kernel)) rfl rfl (by decide +kernel) rfl (fun _ => ⟨rfl, rfl⟩) (by decide) ?_
  refine mk_to (ws2 := [.inr (0, [.ref 1, .ref 2, .ref 3, .null, .int 0]), .inl (.int, 6, .inl (fun _ => 0)), .inl (.int, 6, .inl (fun _ => 0)), .inl (.int, 12, .inl (fun _ => 0))]) (by rfl) ?_
  refine k_aload_n 29 hX dX0_init_28 rfl ?_
  refine k_iconst (v := 2) 30 hX dX0_init_29 rfl ?_
  refine k_sipush (v := 372) 33 hX dX0_init_30 rfl ?_
  refine k_mna1 37 4 hX hR dX0_init_33 ⟨mx_in (by decide +kernel), ac_int⟩ rfl rfl ?_
  refine mk_to (ws2 := [.inr (0, [.ref 1, .ref 2, .ref 3, .null, .int 0]), .inl (.int, 6, .inl (fun _ => 0)), .inl (.int, 6, .inl (fun _ => 0)), .inl (.int, 12, .inl (fun _ => 0)), .inl (.array .int, 2, .inr (fun j => 4 + 1 + j)), .inl (.int, 372, .inl (fun _ => 0)), .inl (.int, 372, .inl (fun _ => 0))]) (by rfl) ?_
  refine k_putF (j := 3) (ty := (.array (.array .int))) 40 hX hI dX0_init_37 mx_ck0 (by decide) (mx_in (by decide +kernel)) rfl rfl (by decide +kernel) rfl (fun _ => ⟨rfl, rfl⟩) (by decide) ?_
  refine mk_to (ws2 := [.inr (0, [.ref 1, .ref 2, .ref 3, .ref 4, .int 0]), .inl (.int, 6, .inl (fun _ => 0)), .inl (.int, 6, .inl (fun _ => 0)), .inl (.int, 12, .inl (fun _ => 0)), .inl (.array .int, 2, .inr (fun j => 4 + 1 + j)), .inl (.int, 372, .inl (fun _ => 0)), .inl (.int, 372, .inl (fun _ => 0))]) (by rfl) ?_
  refine k_aload_n 41 hX dX0_init_40 rfl ?_
  refine k_iconst (v := 0) 42 hX dX0_init_41 rfl ?_
  refine k_put (j := 4) (ty := .int) 45 hX dX0_init_42 mx_ck0 (by decide) (mx_in (by decide +kernel)) rfl (by decide +kernel) rfl (fun _ => ⟨rfl, rfl⟩) (by decide) ?_
  refine mk_to (ws2 := [.inr (0, [.ref 1, .ref 2, .ref 3, .ref 4, .int 0]), .inl (.int, 6, .inl (fun _ => 0)), .inl (.int, 6, .inl (fun _ => 0)), .inl (.int, 12, .inl (fun _ => 0)), .inl (.array .int, 2, .inr (fun j => 4 + 1 + j)), .inl (.int, 372, .inl (fun _ => 0)), .inl (.int, 372, .inl (fun _ => 0))]) (by rfl) ?_
  exact k_ret hX hT rfl dX0_init_45
def wX4 : List mk_E := [.inr (4, [.ref 1, .ref 2, .int (-1), .int 0]), .inl (.int, 48, .inl (fF 48)), .inl (.int, 6, .inl (fun _ => 0))]
set_option maxRecDepth 100000 in
set_option maxHeartbeats 4000000 in
theorem mX4_init {l : Launch} : mk_Met l yX4_init cX4_init 2 1 31 2 54 (.inr (4, [.null, .null, .int 0, .int 0])) wX4 := by
  refine mk_of (by decide +kernel) rfl (by decide) ?_
  intro G X hX hI hR hT hlX
  refine k_aload_n 1 hX dX4_init_0 rfl ?_
  refine k_obj 4 hX hR dX4_init_1 ⟨mx_in (by decide +kernel), ob_i.1, ob_i.2⟩ rfl rfl rfl ?_
  refine k_aload_n 5 hX dX4_init_4 rfl ?_
  refine k_bipush (v := 48) 7 hX dX4_init_5 rfl ?_
  refine k_new_int 9 1 48 hX hR dX4_init_7 rfl rfl rfl ?_
  refine mk_to (ws2 := [.inr (4, [.null, .null, .int 0, .int 0]), .inl (.int, 48, .inl (fun _ => 0))]) (by rfl) ?_
  refine k_putF (j := 0) (ty := (.array .int)) 12 hX hI dX4_init_9 mx_ck4 (by decide) (mx_in (by decide +kernel)) rfl rfl (by decide +kernel) rfl (fun _ => ⟨rfl, rfl⟩) (by decide) ?_
  refine mk_to (ws2 := [.inr (4, [.ref 1, .null, .int 0, .int 0]), .inl (.int, 48, .inl (fun _ => 0))]) (by rfl) ?_
  refine k_iconst (v := 0) 13 hX dX4_init_12 rfl ?_
  refine k_istore_n 14 hX dX4_init_13 rfl ?_
  have loop : ∀ (d i : Nat), i + d = 48 → mk_WW G X 1 48 14 [.ref 0, .int (nI i)] [] [.inr (4, [.ref 1, .null, .int 0, .int 0]), .inl (.int, 48, .inl (fF i))] := by
    intro d
    induction d with
    | zero =>
      intro i hi
      have e : i = 48 := by omega
      subst e
      refine k_iload_n 15 hX dX4_init_14 rfl ?_
      refine k_aload_n 16 hX dX4_init_15 rfl ?_
      refine k_get (j := 0) 19 hX dX4_init_16 mx_ck4 (by decide) (mx_in (by decide +kernel)) rfl rfl ?_
      refine k_alen (t0 := 0) 20 hX dX4_init_19 rfl rfl ?_
      refine k_icmp_ge 23 37 hX dX4_init_20 (fun _ => ?_) (fun c9 => absurd (nI_le (Nat.le_refl 48) (by decide)) c9)
      refine k_aload_n 38 hX dX4_init_37 rfl ?_
      refine k_bipush (v := 6) 40 hX dX4_init_38 rfl ?_
      refine k_new_int 42 2 6 hX hR dX4_init_40 rfl rfl rfl ?_
      refine mk_to (ws2 := [.inr (4, [.ref 1, .null, .int 0, .int 0]), .inl (.int, 48, .inl (fF 48)), .inl (.int, 6, .inl (fun _ => 0))]) (by rfl) ?_
      refine k_putF (j := 1) (ty := (.array .int)) 45 hX hI dX4_init_42 mx_ck4 (by decide) (mx_in (by decide +kernel)) rfl rfl (by decide +kernel) rfl (fun _ => ⟨rfl, rfl⟩) (by decide) ?_
      refine mk_to (ws2 := [.inr (4, [.ref 1, .ref 2, .int 0, .int 0]), .inl (.int, 48, .inl (fF 48)), .inl (.int, 6, .inl (fun _ => 0))]) (by rfl) ?_
      refine k_aload_n 46 hX dX4_init_45 rfl ?_
      refine k_iconst (v := (-1)) 47 hX dX4_init_46 rfl ?_
      refine k_put (j := 2) (ty := .int) 50 hX dX4_init_47 mx_ck4 (by decide) (mx_in (by decide +kernel)) rfl (by decide +kernel) rfl (fun _ => ⟨rfl, rfl⟩) (by decide) ?_
      refine mk_to (ws2 := [.inr (4, [.ref 1, .ref 2, .int (-1), .int 0]), .inl (.int, 48, .inl (fF 48)), .inl (.int, 6, .inl (fun _ => 0))]) (by rfl) ?_
      refine k_aload_n 51 hX dX4_init_50 rfl ?_
      refine k_iconst (v := 0) 52 hX dX4_init_51 rfl ?_
      refine k_put (j := 3) (ty := .boolean) 55 hX dX4_init_52 mx_ck4 (by decide) (mx_in (by decide +kernel)) rfl (by decide +kernel) rfl (fun _ => ⟨rfl, rfl⟩) (by decide) ?_
      refine mk_to (ws2 := [.inr (4, [.ref 1, .ref 2, .int (-1), .int 0]), .inl (.int, 48, .inl (fF 48)), .inl (.int, 6, .inl (fun _ => 0))]) (by rfl) ?_
      exact k_ret hX hT rfl dX4_init_55
    | succ d ih =>
      intro i hi
      refine k_iload_n 15 hX dX4_init_14 rfl ?_
      refine k_aload_n 16 hX dX4_init_15 rfl ?_
      refine k_get (j := 0) 19 hX dX4_init_16 mx_ck4 (by decide) (mx_in (by decide +kernel)) rfl rfl ?_
      refine k_alen (t0 := 0) 20 hX dX4_init_19 rfl rfl ?_
      refine k_icmp_ge 23 37 hX dX4_init_20 (fun c9 => absurd c9 (nI_ge (by omega) (by decide))) (fun _ => ?_)
      refine k_aload_n 24 hX dX4_init_23 rfl ?_
      refine k_get (j := 0) 27 hX dX4_init_24 mx_ck4 (by decide) (mx_in (by decide +kernel)) rfl rfl ?_
      refine k_iload_n 28 hX dX4_init_27 rfl ?_
      refine k_bipush (v := 50) 30 hX dX4_init_28 rfl ?_
      refine k_iast 31 hX dX4_init_30 rfl (vp_in_nI (by omega) (by decide)) ?_
      rw [fF1 i (by omega)]
      refine k_iinc (v := 1) 34 hX dX4_init_31 rfl rfl rfl ?_
      refine k_goto 14 hX dX4_init_34 ?_
      rw [nI_1]
      exact ih (i + 1) (by omega)
  have h0 := loop 48 0 rfl
  rw [fF0] at h0
  exact h0
def cT1 : List mk_E := [] ++ wX3.map (mk_sf 1)
def cT2 : List mk_E := cT1 ++ wX4.map (mk_sf 3)
def cT3 : List mk_E := cT2 ++ wX4.map (mk_sf 6)
def cT4 : List mk_E := cT3 ++ wX2.map (mk_sf 9)
def cT5 : List mk_E := cT4 ++ wX2.map (mk_sf 14)
def cT6 : List mk_E := cT5 ++ wX1.map (mk_sf 19)
def cT7 : List mk_E := cT6 ++ wX2.map (mk_sf 20)
def cT8 : List mk_E := cT7 ++ wX2.map (mk_sf 25)
def cT9 : List mk_E := cT8 ++ wX1.map (mk_sf 30)
def cT10 : List mk_E := cT9 ++ wX5.map (mk_sf 31)
def cT11 : List mk_E := cT10 ++ wX5.map (mk_sf 34)
def cT12 : List mk_E := cT11 ++ wX6.map (mk_sf 37)
def cT13 : List mk_E := cT12 ++ wX0.map (mk_sf 39)
def wX7 : List mk_E := .inr (7, [.ref 1, .ref 3, .ref 6, .ref 9, .ref 14, .ref 19, .ref 20, .ref 25, .ref 30, .ref 31, .ref 34, .ref 37, .ref 39, .int 0, .int 0]) :: cT13
set_option maxRecDepth 100000 in
set_option maxHeartbeats 4000000 in
theorem mX7_init {l : Launch} : mk_Met l yX7_init cX7_init 1 2 60 45 1258 (.inr (7, [.null, .null, .null, .null, .null, .null, .null, .null, .null, .null, .null, .null, .null, .int 0, .int 0])) wX7 := by
  refine mk_of (by decide +kernel) rfl (by decide) ?_
  intro G X hX hI hR hT hlX
  subst hlX
  refine k_aload_n 1 hX dX7_init_0 rfl ?_
  refine k_obj 4 hX hR dX7_init_1 ⟨mx_in (by decide +kernel), ob_i.1, ob_i.2⟩ rfl rfl rfl ?_
  refine k_aload_n 5 hX dX7_init_4 rfl ?_
  refine k_new1 (fs := [.null]) 8 1 hX hR dX7_init_5 mx_ck3 tyX3_ok ⟨mx_in (by decide +kernel), inX3.1, inX3.2⟩ (fun ad j hj => dfX3 j hj) rfl rfl ?_
  refine mk_to (ws2 := ((.inr (7, [.null, .null, .null, .null, .null, .null, .null, .null, .null, .null, .null, .null, .null, .int 0, .int 0]) :: []) ++ [.inr (3, [.null])])) (by rfl) ?_
  refine k_dup 9 hX dX7_init_8 rfl ?_
  refine k_init 12 1 hX hR mX3_init dX7_init_9 kX3_init rfl ⟨mx_in (by decide +kernel), mx_in (by decide +kernel)⟩ rfl rfl (fun _ => rfl) rfl rfl rfl rfl ?_
  refine mk_to (ws2 := (.inr (7, [.null, .null, .null, .null, .null, .null, .null, .null, .null, .null, .null, .null, .null, .int 0, .int 0]) :: cT1)) (by rfl) ?_
  refine k_putF (j := 0) (ty := (.object "SixWhoTurn$Numbers")) 15 hX hI dX7_init_12 mx_ck7 (by decide) (mx_in (by decide +kernel)) rfl rfl (by decide +kernel) rfl (fun _ => ⟨rfl, rfl⟩) (by decide) ?_
  refine mk_to (ws2 := (.inr (7, [.ref 1, .null, .null, .null, .null, .null, .null, .null, .null, .null, .null, .null, .null, .int 0, .int 0]) :: cT1)) (by rfl) ?_
  refine k_aload_n 16 hX dX7_init_15 rfl ?_
  refine k_new1 (fs := [.null, .null, .int 0, .int 0]) 19 3 hX hR dX7_init_16 mx_ck4 tyX4_ok ⟨mx_in (by decide +kernel), inX4.1, inX4.2⟩ (fun ad j hj => dfX4 j hj) rfl rfl ?_
  refine mk_to (ws2 := ((.inr (7, [.ref 1, .null, .null, .null, .null, .null, .null, .null, .null, .null, .null, .null, .null, .int 0, .int 0]) :: cT1) ++ [.inr (4, [.null, .null, .int 0, .int 0])])) (by rfl) ?_
  refine k_dup 20 hX dX7_init_19 rfl ?_
  refine k_init 23 3 hX hR mX4_init dX7_init_20 kX4_init rfl ⟨mx_in (by decide +kernel), mx_in (by decide +kernel)⟩ rfl rfl (fun _ => rfl) rfl rfl rfl rfl ?_
  refine mk_to (ws2 := (.inr (7, [.ref 1, .null, .null, .null, .null, .null, .null, .null, .null, .null, .null, .null, .null, .int 0, .int 0]) :: cT2)) (by rfl) ?_
  refine k_putF (j := 1) (ty := (.object "SixWhoTurn$Squad")) 26 hX hI dX7_init_23 mx_ck7 (by decide) (mx_in (by decide +kernel)) rfl rfl (by decide +kernel) rfl (fun _ => ⟨rfl, rfl⟩) (by decide) ?_
  refine mk_to (ws2 := (.inr (7, [.ref 1, .ref 3, .null, .null, .null, .null, .null, .null, .null, .null, .null, .null, .null, .int 0, .int 0]) :: cT2)) (by rfl) ?_
  refine k_aload_n 27 hX dX7_init_26 rfl ?_
  refine k_new1 (fs := [.null, .null, .int 0, .int 0]) 30 6 hX hR dX7_init_27 mx_ck4 tyX4_ok ⟨mx_in (by decide +kernel), inX4.1, inX4.2⟩ (fun ad j hj => dfX4 j hj) rfl rfl ?_
  refine mk_to (ws2 := ((.inr (7, [.ref 1, .ref 3, .null, .null, .null, .null, .null, .null, .null, .null, .null, .null, .null, .int 0, .int 0]) :: cT2) ++ [.inr (4, [.null, .null, .int 0, .int 0])])) (by rfl) ?_
  refine k_dup 31 hX dX7_init_30 rfl ?_
  refine k_init 34 6 hX hR mX4_init dX7_init_31 kX4_init rfl ⟨mx_in (by decide +kernel), mx_in (by decide +kernel)⟩ rfl rfl (fun _ => rfl) rfl rfl rfl rfl ?_
  refine mk_to (ws2 := (.inr (7, [.ref 1, .ref 3, .null, .null, .null, .null, .null, .null, .null, .null, .null, .null, .null, .int 0, .int 0]) :: cT3)) (by rfl) ?_
  refine k_putF (j := 2) (ty := (.object "SixWhoTurn$Squad")) 37 hX hI dX7_init_34 mx_ck7 (by decide) (mx_in (by decide +kernel)) rfl rfl (by decide +kernel) rfl (fun _ => ⟨rfl, rfl⟩) (by decide) ?_
  refine mk_to (ws2 := (.inr (7, [.ref 1, .ref 3, .ref 6, .null, .null, .null, .null, .null, .null, .null, .null, .null, .null, .int 0, .int 0]) :: cT3)) (by rfl) ?_
  refine k_aload_n 38 hX dX7_init_37 rfl ?_
  refine k_new1 (fs := [.null, .null, .null, .null, .int 0, .int 0, .int 0, .int 0, .int 0, .int 0, .int 0, .int 0]) 41 9 hX hR dX7_init_38 mx_ck2 tyX2_ok ⟨mx_in (by decide +kernel), inX2.1, inX2.2⟩ (fun ad j hj => dfX2 j hj) rfl rfl ?_
  refine mk_to (ws2 := ((.inr (7, [.ref 1, .ref 3, .ref 6, .null, .null, .null, .null, .null, .null, .null, .null, .null, .null, .int 0, .int 0]) :: cT3) ++ [.inr (2, [.null, .null, .null, .null, .int 0, .int 0, .int 0, .int 0, .int 0, .int 0, .int 0, .int 0])])) (by rfl) ?_
  refine k_dup 42 hX dX7_init_41 rfl ?_
  refine k_init 45 9 hX hR mX2_init dX7_init_42 kX2_init rfl ⟨mx_in (by decide +kernel), mx_in (by decide +kernel)⟩ rfl rfl (fun _ => rfl) rfl rfl rfl rfl ?_
  refine mk_to (ws2 := (.inr (7, [.ref 1, .ref 3, .ref 6, .null, .null, .null, .null, .null, .null, .null, .null, .null, .null, .int 0, .int 0]) :: cT4)) (by rfl) ?_
  refine k_putF (j := 3) (ty := (.object "SixWhoTurn$Court")) 48 hX hI dX7_init_45 mx_ck7 (by decide) (mx_in (by decide +kernel)) rfl rfl (by decide +kernel) rfl (fun _ => ⟨rfl, rfl⟩) (by decide) ?_
  refine mk_to (ws2 := (.inr (7, [.ref 1, .ref 3, .ref 6, .ref 9, .null, .null, .null, .null, .null, .null, .null, .null, .null, .int 0, .int 0]) :: cT4)) (by rfl) ?_
  refine k_aload_n 49 hX dX7_init_48 rfl ?_
  refine k_new1 (fs := [.null, .null, .null, .null, .int 0, .int 0, .int 0, .int 0, .int 0, .int 0, .int 0, .int 0]) 52 14 hX hR dX7_init_49 mx_ck2 tyX2_ok ⟨mx_in (by decide +kernel), inX2.1, inX2.2⟩ (fun ad j hj => dfX2 j hj) rfl rfl ?_
  refine mk_to (ws2 := ((.inr (7, [.ref 1, .ref 3, .ref 6, .ref 9, .null, .null, .null, .null, .null, .null, .null, .null, .null, .int 0, .int 0]) :: cT4) ++ [.inr (2, [.null, .null, .null, .null, .int 0, .int 0, .int 0, .int 0, .int 0, .int 0, .int 0, .int 0])])) (by rfl) ?_
  refine k_dup 53 hX dX7_init_52 rfl ?_
  refine k_init 56 14 hX hR mX2_init dX7_init_53 kX2_init rfl ⟨mx_in (by decide +kernel), mx_in (by decide +kernel)⟩ rfl rfl (fun _ => rfl) rfl rfl rfl rfl ?_
  refine mk_to (ws2 := (.inr (7, [.ref 1, .ref 3, .ref 6, .ref 9, .null, .null, .null, .null, .null, .null, .null, .null, .null, .int 0, .int 0]) :: cT5)) (by rfl) ?_
  refine k_putF (j := 4) (ty := (.object "SixWhoTurn$Court")) 59 hX hI dX7_init_56 mx_ck7 (by decide) (mx_in (by decide +kernel)) rfl rfl (by decide +kernel) rfl (fun _ => ⟨rfl, rfl⟩) (by decide) ?_
  refine mk_to (ws2 := (.inr (7, [.ref 1, .ref 3, .ref 6, .ref 9, .ref 14, .null, .null, .null, .null, .null, .null, .null, .null, .int 0, .int 0]) :: cT5)) (by rfl) ?_
  refine k_aload_n 60 hX dX7_init_59 rfl ?_
  refine k_new1 (fs := [.int 0, .int 0, .int 0, .int 0, .int 0, .int 0, .int 0]) 63 19 hX hR dX7_init_60 mx_ck1 tyX1_ok ⟨mx_in (by decide +kernel), inX1.1, inX1.2⟩ (fun ad j hj => dfX1 j hj) rfl rfl ?_
  refine mk_to (ws2 := ((.inr (7, [.ref 1, .ref 3, .ref 6, .ref 9, .ref 14, .null, .null, .null, .null, .null, .null, .null, .null, .int 0, .int 0]) :: cT5) ++ [.inr (1, [.int 0, .int 0, .int 0, .int 0, .int 0, .int 0, .int 0])])) (by rfl) ?_
  refine k_dup 64 hX dX7_init_63 rfl ?_
  refine k_init 67 19 hX hR mX1_init dX7_init_64 kX1_init rfl ⟨mx_in (by decide +kernel), mx_in (by decide +kernel)⟩ rfl rfl (fun _ => rfl) rfl rfl rfl rfl ?_
  refine mk_to (ws2 := (.inr (7, [.ref 1, .ref 3, .ref 6, .ref 9, .ref 14, .null, .null, .null, .null, .null, .null, .null, .null, .int 0, .int 0]) :: cT6)) (by rfl) ?_
  refine k_putF (j := 5) (ty := (.object "SixWhoTurn$Course")) 70 hX hI dX7_init_67 mx_ck7 (by decide) (mx_in (by decide +kernel)) rfl rfl (by decide +kernel) rfl (fun _ => ⟨rfl, rfl⟩) (by decide) ?_
  refine mk_to (ws2 := (.inr (7, [.ref 1, .ref 3, .ref 6, .ref 9, .ref 14, .ref 19, .null, .null, .null, .null, .null, .null, .null, .int 0, .int 0]) :: cT6)) (by rfl) ?_
  refine k_aload_n 71 hX dX7_init_70 rfl ?_
  refine k_new1 (fs := [.null, .null, .null, .null, .int 0, .int 0, .int 0, .int 0, .int 0, .int 0, .int 0, .int 0]) 74 20 hX hR dX7_init_71 mx_ck2 tyX2_ok ⟨mx_in (by decide +kernel), inX2.1, inX2.2⟩ (fun ad j hj => dfX2 j hj) rfl rfl ?_
  refine mk_to (ws2 := ((.inr (7, [.ref 1, .ref 3, .ref 6, .ref 9, .ref 14, .ref 19, .null, .null, .null, .null, .null, .null, .null, .int 0, .int 0]) :: cT6) ++ [.inr (2, [.null, .null, .null, .null, .int 0, .int 0, .int 0, .int 0, .int 0, .int 0, .int 0, .int 0])])) (by rfl) ?_
  refine k_dup 75 hX dX7_init_74 rfl ?_
  refine k_init 78 20 hX hR mX2_init dX7_init_75 kX2_init rfl ⟨mx_in (by decide +kernel), mx_in (by decide +kernel)⟩ rfl rfl (fun _ => rfl) rfl rfl rfl rfl ?_
  refine mk_to (ws2 := (.inr (7, [.ref 1, .ref 3, .ref 6, .ref 9, .ref 14, .ref 19, .null, .null, .null, .null, .null, .null, .null, .int 0, .int 0]) :: cT7)) (by rfl) ?_
  refine k_putF (j := 6) (ty := (.object "SixWhoTurn$Court")) 81 hX hI dX7_init_78 mx_ck7 (by decide) (mx_in (by decide +kernel)) rfl rfl (by decide +kernel) rfl (fun _ => ⟨rfl, rfl⟩) (by decide) ?_
  refine mk_to (ws2 := (.inr (7, [.ref 1, .ref 3, .ref 6, .ref 9, .ref 14, .ref 19, .ref 20, .null, .null, .null, .null, .null, .null, .int 0, .int 0]) :: cT7)) (by rfl) ?_
  refine k_aload_n 82 hX dX7_init_81 rfl ?_
  refine k_new1 (fs := [.null, .null, .null, .null, .int 0, .int 0, .int 0, .int 0, .int 0, .int 0, .int 0, .int 0]) 85 25 hX hR dX7_init_82 mx_ck2 tyX2_ok ⟨mx_in (by decide +kernel), inX2.1, inX2.2⟩ (fun ad j hj => dfX2 j hj) rfl rfl ?_
  refine mk_to (ws2 := ((.inr (7, [.ref 1, .ref 3, .ref 6, .ref 9, .ref 14, .ref 19, .ref 20, .null, .null, .null, .null, .null, .null, .int 0, .int 0]) :: cT7) ++ [.inr (2, [.null, .null, .null, .null, .int 0, .int 0, .int 0, .int 0, .int 0, .int 0, .int 0, .int 0])])) (by rfl) ?_
  refine k_dup 86 hX dX7_init_85 rfl ?_
  refine k_init 89 25 hX hR mX2_init dX7_init_86 kX2_init rfl ⟨mx_in (by decide +kernel), mx_in (by decide +kernel)⟩ rfl rfl (fun _ => rfl) rfl rfl rfl rfl ?_
  refine mk_to (ws2 := (.inr (7, [.ref 1, .ref 3, .ref 6, .ref 9, .ref 14, .ref 19, .ref 20, .null, .null, .null, .null, .null, .null, .int 0, .int 0]) :: cT8)) (by rfl) ?_
  refine k_putF (j := 7) (ty := (.object "SixWhoTurn$Court")) 92 hX hI dX7_init_89 mx_ck7 (by decide) (mx_in (by decide +kernel)) rfl rfl (by decide +kernel) rfl (fun _ => ⟨rfl, rfl⟩) (by decide) ?_
  refine mk_to (ws2 := (.inr (7, [.ref 1, .ref 3, .ref 6, .ref 9, .ref 14, .ref 19, .ref 20, .ref 25, .null, .null, .null, .null, .null, .int 0, .int 0]) :: cT8)) (by rfl) ?_
  refine k_aload_n 93 hX dX7_init_92 rfl ?_
  refine k_new1 (fs := [.int 0, .int 0, .int 0, .int 0, .int 0, .int 0, .int 0]) 96 30 hX hR dX7_init_93 mx_ck1 tyX1_ok ⟨mx_in (by decide +kernel), inX1.1, inX1.2⟩ (fun ad j hj => dfX1 j hj) rfl rfl ?_
  refine mk_to (ws2 := ((.inr (7, [.ref 1, .ref 3, .ref 6, .ref 9, .ref 14, .ref 19, .ref 20, .ref 25, .null, .null, .null, .null, .null, .int 0, .int 0]) :: cT8) ++ [.inr (1, [.int 0, .int 0, .int 0, .int 0, .int 0, .int 0, .int 0])])) (by rfl) ?_
  refine k_dup 97 hX dX7_init_96 rfl ?_
  refine k_init 100 30 hX hR mX1_init dX7_init_97 kX1_init rfl ⟨mx_in (by decide +kernel), mx_in (by decide +kernel)⟩ rfl rfl (fun _ => rfl) rfl rfl rfl rfl ?_
  refine mk_to (ws2 := (.inr (7, [.ref 1, .ref 3, .ref 6, .ref 9, .ref 14, .ref 19, .ref 20, .ref 25, .null, .null, .null, .null, .null, .int 0, .int 0]) :: cT9)) (by rfl) ?_
  refine k_putF (j := 8) (ty := (.object "SixWhoTurn$Course")) 103 hX hI dX7_init_100 mx_ck7 (by decide) (mx_in (by decide +kernel)) rfl rfl (by decide +kernel) rfl (fun _ => ⟨rfl, rfl⟩) (by decide) ?_
  refine mk_to (ws2 := (.inr (7, [.ref 1, .ref 3, .ref 6, .ref 9, .ref 14, .ref 19, .ref 20, .ref 25, .ref 30, .null, .null, .null, .null, .int 0, .int 0]) :: cT9)) (by rfl) ?_
  refine k_aload_n 104 hX dX7_init_103 rfl ?_
  refine k_new1 (fs := [.null, .null]) 107 31 hX hR dX7_init_104 mx_ck5 tyX5_ok ⟨mx_in (by decide +kernel), inX5.1, inX5.2⟩ (fun ad j hj => dfX5 j hj) rfl rfl ?_
  refine mk_to (ws2 := ((.inr (7, [.ref 1, .ref 3, .ref 6, .ref 9, .ref 14, .ref 19, .ref 20, .ref 25, .ref 30, .null, .null, .null, .null, .int 0, .int 0]) :: cT9) ++ [.inr (5, [.null, .null])])) (by rfl) ?_
  refine k_dup 108 hX dX7_init_107 rfl ?_
  refine k_init 111 31 hX hR mX5_init dX7_init_108 kX5_init rfl ⟨mx_in (by decide +kernel), mx_in (by decide +kernel)⟩ rfl rfl (fun _ => rfl) rfl rfl rfl rfl ?_
  refine mk_to (ws2 := (.inr (7, [.ref 1, .ref 3, .ref 6, .ref 9, .ref 14, .ref 19, .ref 20, .ref 25, .ref 30, .null, .null, .null, .null, .int 0, .int 0]) :: cT10)) (by rfl) ?_
  refine k_putF (j := 9) (ty := (.object "SixWhoTurn$Stance")) 114 hX hI dX7_init_111 mx_ck7 (by decide) (mx_in (by decide +kernel)) rfl rfl (by decide +kernel) rfl (fun _ => ⟨rfl, rfl⟩) (by decide) ?_
  refine mk_to (ws2 := (.inr (7, [.ref 1, .ref 3, .ref 6, .ref 9, .ref 14, .ref 19, .ref 20, .ref 25, .ref 30, .ref 31, .null, .null, .null, .int 0, .int 0]) :: cT10)) (by rfl) ?_
  refine k_aload_n 115 hX dX7_init_114 rfl ?_
  refine k_new1 (fs := [.null, .null]) 118 34 hX hR dX7_init_115 mx_ck5 tyX5_ok ⟨mx_in (by decide +kernel), inX5.1, inX5.2⟩ (fun ad j hj => dfX5 j hj) rfl rfl ?_
  refine mk_to (ws2 := ((.inr (7, [.ref 1, .ref 3, .ref 6, .ref 9, .ref 14, .ref 19, .ref 20, .ref 25, .ref 30, .ref 31, .null, .null, .null, .int 0, .int 0]) :: cT10) ++ [.inr (5, [.null, .null])])) (by rfl) ?_
  refine k_dup 119 hX dX7_init_118 rfl ?_
  refine k_init 122 34 hX hR mX5_init dX7_init_119 kX5_init rfl ⟨mx_in (by decide +kernel), mx_in (by decide +kernel)⟩ rfl rfl (fun _ => rfl) rfl rfl rfl rfl ?_
  refine mk_to (ws2 := (.inr (7, [.ref 1, .ref 3, .ref 6, .ref 9, .ref 14, .ref 19, .ref 20, .ref 25, .ref 30, .ref 31, .null, .null, .null, .int 0, .int 0]) :: cT11)) (by rfl) ?_
  refine k_putF (j := 10) (ty := (.object "SixWhoTurn$Stance")) 125 hX hI dX7_init_122 mx_ck7 (by decide) (mx_in (by decide +kernel)) rfl rfl (by decide +kernel) rfl (fun _ => ⟨rfl, rfl⟩) (by decide) ?_
  refine mk_to (ws2 := (.inr (7, [.ref 1, .ref 3, .ref 6, .ref 9, .ref 14, .ref 19, .ref 20, .ref 25, .ref 30, .ref 31, .ref 34, .null, .null, .int 0, .int 0]) :: cT11)) (by rfl) ?_
  refine k_aload_n 126 hX dX7_init_125 rfl ?_
  refine k_new1 (fs := [.null, .int 0]) 129 37 hX hR dX7_init_126 mx_ck6 tyX6_ok ⟨mx_in (by decide +kernel), inX6.1, inX6.2⟩ (fun ad j hj => dfX6 j hj) rfl rfl ?_
  refine mk_to (ws2 := ((.inr (7, [.ref 1, .ref 3, .ref 6, .ref 9, .ref 14, .ref 19, .ref 20, .ref 25, .ref 30, .ref 31, .ref 34, .null, .null, .int 0, .int 0]) :: cT11) ++ [.inr (6, [.null, .int 0])])) (by rfl) ?_
  refine k_dup 130 hX dX7_init_129 rfl ?_
  refine k_init 133 37 hX hR mX6_init dX7_init_130 kX6_init rfl ⟨mx_in (by decide +kernel), mx_in (by decide +kernel)⟩ rfl rfl (fun _ => rfl) rfl rfl rfl rfl ?_
  refine mk_to (ws2 := (.inr (7, [.ref 1, .ref 3, .ref 6, .ref 9, .ref 14, .ref 19, .ref 20, .ref 25, .ref 30, .ref 31, .ref 34, .null, .null, .int 0, .int 0]) :: cT12)) (by rfl) ?_
  refine k_putF (j := 11) (ty := (.object "SixWhoTurn$Text")) 136 hX hI dX7_init_133 mx_ck7 (by decide) (mx_in (by decide +kernel)) rfl rfl (by decide +kernel) rfl (fun _ => ⟨rfl, rfl⟩) (by decide) ?_
  refine mk_to (ws2 := (.inr (7, [.ref 1, .ref 3, .ref 6, .ref 9, .ref 14, .ref 19, .ref 20, .ref 25, .ref 30, .ref 31, .ref 34, .ref 37, .null, .int 0, .int 0]) :: cT12)) (by rfl) ?_
  refine k_aload_n 137 hX dX7_init_136 rfl ?_
  refine k_new1 (fs := [.null, .null, .null, .null, .int 0]) 140 39 hX hR dX7_init_137 mx_ck0 tyX0_ok ⟨mx_in (by decide +kernel), inX0.1, inX0.2⟩ (fun ad j hj => dfX0 j hj) rfl rfl ?_
  refine mk_to (ws2 := ((.inr (7, [.ref 1, .ref 3, .ref 6, .ref 9, .ref 14, .ref 19, .ref 20, .ref 25, .ref 30, .ref 31, .ref 34, .ref 37, .null, .int 0, .int 0]) :: cT12) ++ [.inr (0, [.null, .null, .null, .null, .int 0])])) (by rfl) ?_
  refine k_dup 141 hX dX7_init_140 rfl ?_
  refine k_init 144 39 hX hR mX0_init dX7_init_141 kX0_init rfl ⟨mx_in (by decide +kernel), mx_in (by decide +kernel)⟩ rfl rfl (fun _ => rfl) rfl rfl rfl rfl ?_
  refine mk_to (ws2 := (.inr (7, [.ref 1, .ref 3, .ref 6, .ref 9, .ref 14, .ref 19, .ref 20, .ref 25, .ref 30, .ref 31, .ref 34, .ref 37, .null, .int 0, .int 0]) :: cT13)) (by rfl) ?_
  refine k_putF (j := 12) (ty := (.object "SixWhoTurn$Chances")) 147 hX hI dX7_init_144 mx_ck7 (by decide) (mx_in (by decide +kernel)) rfl rfl (by decide +kernel) rfl (fun _ => ⟨rfl, rfl⟩) (by decide) ?_
  refine mk_to (ws2 := (.inr (7, [.ref 1, .ref 3, .ref 6, .ref 9, .ref 14, .ref 19, .ref 20, .ref 25, .ref 30, .ref 31, .ref 34, .ref 37, .ref 39, .int 0, .int 0]) :: cT13)) (by rfl) ?_
  refine k_aload_n 148 hX dX7_init_147 rfl ?_
  refine k_iconst (v := 0) 149 hX dX7_init_148 rfl ?_
  refine k_put (j := 13) (ty := .int) 152 hX dX7_init_149 mx_ck7 (by decide) (mx_in (by decide +kernel)) rfl (by decide +kernel) rfl (fun _ => ⟨rfl, rfl⟩) (by decide) ?_
  refine mk_to (ws2 := (.inr (7, [.ref 1, .ref 3, .ref 6, .ref 9, .ref 14, .ref 19, .ref 20, .ref 25, .ref 30, .ref 31, .ref 34, .ref 37, .ref 39, .int 0, .int 0]) :: cT13)) (by rfl) ?_
  refine k_aload_n 153 hX dX7_init_152 rfl ?_
  refine k_iconst (v := 0) 154 hX dX7_init_153 rfl ?_
  refine k_put (j := 14) (ty := .int) 157 hX dX7_init_154 mx_ck7 (by decide) (mx_in (by decide +kernel)) rfl (by decide +kernel) rfl (fun _ => ⟨rfl, rfl⟩) (by decide) ?_
  refine mk_to (ws2 := (.inr (7, [.ref 1, .ref 3, .ref 6, .ref 9, .ref 14, .ref 19, .ref 20, .ref 25, .ref 30, .ref 31, .ref 34, .ref 37, .ref 39, .int 0, .int 0]) :: cT13)) (by rfl) ?_
  exact k_ret hX hT rfl dX7_init_157

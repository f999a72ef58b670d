/-! the model's constructor, as far as its cells are made -/
def wX8 : List mk_E := [.inr (8, [.ref 1, .ref 2, .ref 3, .ref 4, .ref 5, .ref 6, .ref 7, .ref 8, .ref 9, .ref 10, .int 0, .int 0, .int 0, .int 0, .ref 11, .ref 12, .ref 13, .ref 14]), .inl (.int, 96, .inl (fF 96)), .inl (.int, 2, .inl (upd (upd (fun _ => 0) 0 (-1)) 1 (-1))), .inl (.int, 6, .inl (upd (upd (upd (upd (upd (upd (fun _ => 0) 0 25) 1 30) 2 15) 3 2) 4 6) 5 2)), .inl (.int, 12, .inl (fun _ => 0)), .inl (.boolean, 2, .inl (fun _ => 0)), .inl (.int, 106, .inl (upd (upd (upd (upd (fun _ => 0) 0 (-1)) 2 (-1)) 4 (-1)) 5 (-1))), .inl (.int, 106, .inl (fun _ => 0)), .inl (.int, 12, .inl (fun _ => 0)), .inl (.int, 12, .inl (fun _ => 0)), .inl (.byte, 100, .inl (fun _ => 0)), .inl (.int, 6, .inl (fun _ => 0)), .inl (.int, 12, .inl (fun _ => 0)), .inl (.int, 72, .inl (fun _ => 0)), .inl (.long, 69192, .inl (fun _ => 0))]
set_option maxRecDepth 100000 in
set_option maxHeartbeats 4000000 in
theorem mX8_mk {G : mx_G} {X : mk_X} (hX : mk_OK G X RX8 cX8_init 3) (hI : mk_IN X) {fr lo : Nat} (hR : mk_RM X fr lo 14 69736) (hfl : (Nat.ble 1 fr && Nat.ble 20 lo) = true) (kk : mk_WW G X 14 69736 203 [.ref 0, .int (nI 96), .null] [] wX8) : mk_WW G X 0 0 0 [.ref 0, .null, .null] [] [.inr (8, [.null, .null, .null, .null, .null, .null, .null, .null, .null, .null, .int 0, .int 0, .int 0, .int 0, .null, .null, .null, .null])] := by
  have loop : ∀ (d i : Nat), i + d = 96 → mk_WW G X 14 69736 152 [.ref 0, .int (nI i), .null] [] [.inr (8, [.ref 1, .ref 2, .ref 3, .ref 4, .ref 5, .ref 6, .ref 7, .ref 8, .ref 9, .ref 10, .int 0, .int 0, .int 0, .int 0, .ref 11, .ref 12, .ref 13, .ref 14]), .inl (.int, 96, .inl (fF i)), .inl (.int, 2, .inl (upd (upd (fun _ => 0) 0 (-1)) 1 (-1))), .inl (.int, 6, .inl (upd (upd (upd (upd (upd (upd (fun _ => 0) 0 25) 1 30) 2 15) 3 2) 4 6) 5 2)), .inl (.int, 12, .inl (fun _ => 0)), .inl (.boolean, 2, .inl (fun _ => 0)), .inl (.int, 106, .inl (fun _ => 0)), .inl (.int, 106, .inl (fun _ => 0)), .inl (.int, 12, .inl (fun _ => 0)), .inl (.int, 12, .inl (fun _ => 0)), .inl (.byte, 100, .inl (fun _ => 0)), .inl (.int, 6, .inl (fun _ => 0)), .inl (.int, 12, .inl (fun _ => 0)), .inl (.int, 72, .inl (fun _ => 0)), .inl (.long, 69192, .inl (fun _ => 0))] := by
    intro d
    induction d with
    | zero =>
      intro i hi
      have e : i = 96 := by omega
      subst e
      refine k_iload_n 153 hX dX8_init_152 rfl ?_
      refine k_aload_n 154 hX dX8_init_153 rfl ?_
      refine k_get (j := 0) 157 hX dX8_init_154 mx_ck8 (by decide) (mx_in (by decide +kernel)) rfl rfl ?_
      refine k_alen (t0 := 0) 158 hX dX8_init_157 rfl rfl ?_
      refine k_icmp_ge 161 175 hX dX8_init_158 (fun _ => ?_) (fun c9 => absurd (nI_le (Nat.le_refl 96) (by decide)) c9)
      refine k_aload_n 176 hX dX8_init_175 rfl ?_
      refine k_get (j := 5) 179 hX dX8_init_176 mx_ck8 (by decide) (mx_in (by decide +kernel)) rfl rfl ?_
      refine k_iconst (v := 0) 180 hX dX8_init_179 rfl ?_
      refine k_iconst (v := (-1)) 181 hX dX8_init_180 rfl ?_
      refine k_iast 182 hX dX8_init_181 rfl (vpK rfl) ?_
      refine mk_to (ws2 := [.inr (8, [.ref 1, .ref 2, .ref 3, .ref 4, .ref 5, .ref 6, .ref 7, .ref 8, .ref 9, .ref 10, .int 0, .int 0, .int 0, .int 0, .ref 11, .ref 12, .ref 13, .ref 14]), .inl (.int, 96, .inl (fF 96)), .inl (.int, 2, .inl (upd (upd (fun _ => 0) 0 (-1)) 1 (-1))), .inl (.int, 6, .inl (upd (upd (upd (upd (upd (upd (fun _ => 0) 0 25) 1 30) 2 15) 3 2) 4 6) 5 2)), .inl (.int, 12, .inl (fun _ => 0)), .inl (.boolean, 2, .inl (fun _ => 0)), .inl (.int, 106, .inl (upd (fun _ => 0) 0 (-1))), .inl (.int, 106, .inl (fun _ => 0)), .inl (.int, 12, .inl (fun _ => 0)), .inl (.int, 12, .inl (fun _ => 0)), .inl (.byte, 100, .inl (fun _ => 0)), .inl (.int, 6, .inl (fun _ => 0)), .inl (.int, 12, .inl (fun _ => 0)), .inl (.int, 72, .inl (fun _ => 0)), .inl (.long, 69192, .inl (fun _ => 0))]) (by rfl) ?_
      refine k_aload_n 183 hX dX8_init_182 rfl ?_
      refine k_get (j := 5) 186 hX dX8_init_183 mx_ck8 (by decide) (mx_in (by decide +kernel)) rfl rfl ?_
      refine k_iconst (v := 2) 187 hX dX8_init_186 rfl ?_
      refine k_iconst (v := (-1)) 188 hX dX8_init_187 rfl ?_
      refine k_iast 189 hX dX8_init_188 rfl (vpK rfl) ?_
      refine mk_to (ws2 := [.inr (8, [.ref 1, .ref 2, .ref 3, .ref 4, .ref 5, .ref 6, .ref 7, .ref 8, .ref 9, .ref 10, .int 0, .int 0, .int 0, .int 0, .ref 11, .ref 12, .ref 13, .ref 14]), .inl (.int, 96, .inl (fF 96)), .inl (.int, 2, .inl (upd (upd (fun _ => 0) 0 (-1)) 1 (-1))), .inl (.int, 6, .inl (upd (upd (upd (upd (upd (upd (fun _ => 0) 0 25) 1 30) 2 15) 3 2) 4 6) 5 2)), .inl (.int, 12, .inl (fun _ => 0)), .inl (.boolean, 2, .inl (fun _ => 0)), .inl (.int, 106, .inl (upd (upd (fun _ => 0) 0 (-1)) 2 (-1))), .inl (.int, 106, .inl (fun _ => 0)), .inl (.int, 12, .inl (fun _ => 0)), .inl (.int, 12, .inl (fun _ => 0)), .inl (.byte, 100, .inl (fun _ => 0)), .inl (.int, 6, .inl (fun _ => 0)), .inl (.int, 12, .inl (fun _ => 0)), .inl (.int, 72, .inl (fun _ => 0)), .inl (.long, 69192, .inl (fun _ => 0))]) (by rfl) ?_
      refine k_aload_n 190 hX dX8_init_189 rfl ?_
      refine k_get (j := 5) 193 hX dX8_init_190 mx_ck8 (by decide) (mx_in (by decide +kernel)) rfl rfl ?_
      refine k_iconst (v := 4) 194 hX dX8_init_193 rfl ?_
      refine k_iconst (v := (-1)) 195 hX dX8_init_194 rfl ?_
      refine k_iast 196 hX dX8_init_195 rfl (vpK rfl) ?_
      refine mk_to (ws2 := [.inr (8, [.ref 1, .ref 2, .ref 3, .ref 4, .ref 5, .ref 6, .ref 7, .ref 8, .ref 9, .ref 10, .int 0, .int 0, .int 0, .int 0, .ref 11, .ref 12, .ref 13, .ref 14]), .inl (.int, 96, .inl (fF 96)), .inl (.int, 2, .inl (upd (upd (fun _ => 0) 0 (-1)) 1 (-1))), .inl (.int, 6, .inl (upd (upd (upd (upd (upd (upd (fun _ => 0) 0 25) 1 30) 2 15) 3 2) 4 6) 5 2)), .inl (.int, 12, .inl (fun _ => 0)), .inl (.boolean, 2, .inl (fun _ => 0)), .inl (.int, 106, .inl (upd (upd (upd (fun _ => 0) 0 (-1)) 2 (-1)) 4 (-1))), .inl (.int, 106, .inl (fun _ => 0)), .inl (.int, 12, .inl (fun _ => 0)), .inl (.int, 12, .inl (fun _ => 0)), .inl (.byte, 100, .inl (fun _ => 0)), .inl (.int, 6, .inl (fun _ => 0)), .inl (.int, 12, .inl (fun _ => 0)), .inl (.int, 72, .inl (fun _ => 0)), .inl (.long, 69192, .inl (fun _ => 0))]) (by rfl) ?_
      refine k_aload_n 197 hX dX8_init_196 rfl ?_
      refine k_get (j := 5) 200 hX dX8_init_197 mx_ck8 (by decide) (mx_in (by decide +kernel)) rfl rfl ?_
      refine k_iconst (v := 5) 201 hX dX8_init_200 rfl ?_
      refine k_iconst (v := (-1)) 202 hX dX8_init_201 rfl ?_
      refine k_iast 203 hX dX8_init_202 rfl (vpK rfl) ?_
      refine mk_to (ws2 := [.inr (8, [.ref 1, .ref 2, .ref 3, .ref 4, .ref 5, .ref 6, .ref 7, .ref 8, .ref 9, .ref 10, .int 0, .int 0, .int 0, .int 0, .ref 11, .ref 12, .ref 13, .ref 14]), .inl (.int, 96, .inl (fF 96)), .inl (.int, 2, .inl (upd (upd (fun _ => 0) 0 (-1)) 1 (-1))), .inl (.int, 6, .inl (upd (upd (upd (upd (upd (upd (fun _ => 0) 0 25) 1 30) 2 15) 3 2) 4 6) 5 2)), .inl (.int, 12, .inl (fun _ => 0)), .inl (.boolean, 2, .inl (fun _ => 0)), .inl (.int, 106, .inl (upd (upd (upd (upd (fun _ => 0) 0 (-1)) 2 (-1)) 4 (-1)) 5 (-1))), .inl (.int, 106, .inl (fun _ => 0)), .inl (.int, 12, .inl (fun _ => 0)), .inl (.int, 12, .inl (fun _ => 0)), .inl (.byte, 100, .inl (fun _ => 0)), .inl (.int, 6, .inl (fun _ => 0)), .inl (.int, 12, .inl (fun _ => 0)), .inl (.int, 72, .inl (fun _ => 0)), .inl (.long, 69192, .inl (fun _ => 0))]) (by rfl) ?_
      exact kk
    | succ d ih =>
      intro i hi
      refine k_iload_n 153 hX dX8_init_152 rfl ?_
      refine k_aload_n 154 hX dX8_init_153 rfl ?_
      refine k_get (j := 0) 157 hX dX8_init_154 mx_ck8 (by decide) (mx_in (by decide +kernel)) rfl rfl ?_
      refine k_alen (t0 := 0) 158 hX dX8_init_157 rfl rfl ?_
      refine k_icmp_ge 161 175 hX dX8_init_158 (fun c9 => absurd c9 (nI_ge (by omega) (by decide))) (fun _ => ?_)
      refine k_aload_n 162 hX dX8_init_161 rfl ?_
      refine k_get (j := 0) 165 hX dX8_init_162 mx_ck8 (by decide) (mx_in (by decide +kernel)) rfl rfl ?_
      refine k_iload_n 166 hX dX8_init_165 rfl ?_
      refine k_bipush (v := 50) 168 hX dX8_init_166 rfl ?_
      refine k_iast 169 hX dX8_init_168 rfl (vp_in_nI (by omega) (by decide)) ?_
      rw [fF1 i (by omega)]
      refine k_iinc (v := 1) 172 hX dX8_init_169 rfl rfl rfl ?_
      refine k_goto 152 hX dX8_init_172 ?_
      rw [nI_1]
      exact ih (i + 1) (by omega)
  have h0 := loop 96 0 rfl
  rw [fF0] at h0
  refine k_aload_n 1 hX dX8_init_0 rfl ?_
  refine k_obj 4 hX hR dX8_init_1 ⟨mx_in (by decide +kernel), ob_i.1, ob_i.2⟩ rfl hfl rfl ?_
  refine k_aload_n 5 hX dX8_init_4 rfl ?_
  refine k_bipush (v := 96) 7 hX dX8_init_5 rfl ?_
  refine k_new_int 9 1 96 hX hR dX8_init_7 rfl rfl rfl ?_
  refine mk_to (ws2 := [.inr (8, [.null, .null, .null, .null, .null, .null, .null, .null, .null, .null, .int 0, .int 0, .int 0, .int 0, .null, .null, .null, .null]), .inl (.int, 96, .inl (fun _ => 0))]) (by rfl) ?_
  refine k_putF (j := 0) (ty := (.array .int)) 12 hX hI dX8_init_9 mx_ck8 (by decide) (mx_in (by decide +kernel)) rfl rfl (by decide +kernel) rfl (fun _ => ⟨rfl, rfl⟩) (by decide) ?_
  refine mk_to (ws2 := [.inr (8, [.ref 1, .null, .null, .null, .null, .null, .null, .null, .null, .null, .int 0, .int 0, .int 0, .int 0, .null, .null, .null, .null]), .inl (.int, 96, .inl (fun _ => 0))]) (by rfl) ?_
  refine k_aload_n 13 hX dX8_init_12 rfl ?_
  refine k_iconst (v := 2) 14 hX dX8_init_13 rfl ?_
  refine k_new_int 16 2 2 hX hR dX8_init_14 rfl rfl rfl ?_
  refine mk_to (ws2 := [.inr (8, [.ref 1, .null, .null, .null, .null, .null, .null, .null, .null, .null, .int 0, .int 0, .int 0, .int 0, .null, .null, .null, .null]), .inl (.int, 96, .inl (fun _ => 0)), .inl (.int, 2, .inl (fun _ => 0))]) (by rfl) ?_
  refine k_dup 17 hX dX8_init_16 rfl ?_
  refine k_iconst (v := 0) 18 hX dX8_init_17 rfl ?_
  refine k_iconst (v := (-1)) 19 hX dX8_init_18 rfl ?_
  refine k_iast 20 hX dX8_init_19 rfl (vpK rfl) ?_
  refine mk_to (ws2 := [.inr (8, [.ref 1, .null, .null, .null, .null, .null, .null, .null, .null, .null, .int 0, .int 0, .int 0, .int 0, .null, .null, .null, .null]), .inl (.int, 96, .inl (fun _ => 0)), .inl (.int, 2, .inl (upd (fun _ => 0) 0 (-1)))]) (by rfl) ?_
  refine k_dup 21 hX dX8_init_20 rfl ?_
  refine k_iconst (v := 1) 22 hX dX8_init_21 rfl ?_
  refine k_iconst (v := (-1)) 23 hX dX8_init_22 rfl ?_
  refine k_iast 24 hX dX8_init_23 rfl (vpK rfl) ?_
  refine mk_to (ws2 := [.inr (8, [.ref 1, .null, .null, .null, .null, .null, .null, .null, .null, .null, .int 0, .int 0, .int 0, .int 0, .null, .null, .null, .null]), .inl (.int, 96, .inl (fun _ => 0)), .inl (.int, 2, .inl (upd (upd (fun _ => 0) 0 (-1)) 1 (-1)))]) (by rfl) ?_
  refine k_putF (j := 1) (ty := (.array .int)) 27 hX hI dX8_init_24 mx_ck8 (by decide) (mx_in (by decide +kernel)) rfl rfl (by decide +kernel) rfl (fun _ => ⟨rfl, rfl⟩) (by decide) ?_
  refine mk_to (ws2 := [.inr (8, [.ref 1, .ref 2, .null, .null, .null, .null, .null, .null, .null, .null, .int 0, .int 0, .int 0, .int 0, .null, .null, .null, .null]), .inl (.int, 96, .inl (fun _ => 0)), .inl (.int, 2, .inl (upd (upd (fun _ => 0) 0 (-1)) 1 (-1)))]) (by rfl) ?_
  refine k_aload_n 28 hX dX8_init_27 rfl ?_
  refine k_bipush (v := 6) 30 hX dX8_init_28 rfl ?_
  refine k_new_int 32 3 6 hX hR dX8_init_30 rfl rfl rfl ?_
  refine mk_to (ws2 := [.inr (8, [.ref 1, .ref 2, .null, .null, .null, .null, .null, .null, .null, .null, .int 0, .int 0, .int 0, .int 0, .null, .null, .null, .null]), .inl (.int, 96, .inl (fun _ => 0)), .inl (.int, 2, .inl (upd (upd (fun _ => 0) 0 (-1)) 1 (-1))), .inl (.int, 6, .inl (fun _ => 0))]) (by rfl) ?_
  refine k_dup 33 hX dX8_init_32 rfl ?_
  refine k_iconst (v := 0) 34 hX dX8_init_33 rfl ?_
  refine k_bipush (v := 25) 36 hX dX8_init_34 rfl ?_
  refine k_iast 37 hX dX8_init_36 rfl (vpK rfl) ?_
  refine mk_to (ws2 := [.inr (8, [.ref 1, .ref 2, .null, .null, .null, .null, .null, .null, .null, .null, .int 0, .int 0, .int 0, .int 0, .null, .null, .null, .null]), .inl (.int, 96, .inl (fun _ => 0)), .inl (.int, 2, .inl (upd (upd (fun _ => 0) 0 (-1)) 1 (-1))), .inl (.int, 6, .inl (upd (fun _ => 0) 0 25))]) (by rfl) ?_
  refine k_dup 38 hX dX8_init_37 rfl ?_
  refine k_iconst (v := 1) 39 hX dX8_init_38 rfl ?_
  refine k_bipush (v := 30) 41 hX dX8_init_39 rfl ?_
  refine k_iast 42 hX dX8_init_41 rfl (vpK rfl) ?_
  refine mk_to (ws2 := [.inr (8, [.ref 1, .ref 2, .null, .null, .null, .null, .null, .null, .null, .null, .int 0, .int 0, .int 0, .int 0, .null, .null, .null, .null]), .inl (.int, 96, .inl (fun _ => 0)), .inl (.int, 2, .inl (upd (upd (fun _ => 0) 0 (-1)) 1 (-1))), .inl (.int, 6, .inl (upd (upd (fun _ => 0) 0 25) 1 30))]) (by rfl) ?_
  refine k_dup 43 hX dX8_init_42 rfl ?_
  refine k_iconst (v := 2) 44 hX dX8_init_43 rfl ?_
  refine k_bipush (v := 15) 46 hX dX8_init_44 rfl ?_
  refine k_iast 47 hX dX8_init_46 rfl (vpK rfl) ?_
  refine mk_to (ws2 := [.inr (8, [.ref 1, .ref 2, .null, .null, .null, .null, .null, .null, .null, .null, .int 0, .int 0, .int 0, .int 0, .null, .null, .null, .null]), .inl (.int, 96, .inl (fun _ => 0)), .inl (.int, 2, .inl (upd (upd (fun _ => 0) 0 (-1)) 1 (-1))), .inl (.int, 6, .inl (upd (upd (upd (fun _ => 0) 0 25) 1 30) 2 15))]) (by rfl) ?_
  refine k_dup 48 hX dX8_init_47 rfl ?_
  refine k_iconst (v := 3) 49 hX dX8_init_48 rfl ?_
  refine k_iconst (v := 2) 50 hX dX8_init_49 rfl ?_
  refine k_iast 51 hX dX8_init_50 rfl (vpK rfl) ?_
  refine mk_to (ws2 := [.inr (8, [.ref 1, .ref 2, .null, .null, .null, .null, .null, .null, .null, .null, .int 0, .int 0, .int 0, .int 0, .null, .null, .null, .null]), .inl (.int, 96, .inl (fun _ => 0)), .inl (.int, 2, .inl (upd (upd (fun _ => 0) 0 (-1)) 1 (-1))), .inl (.int, 6, .inl (upd (upd (upd (upd (fun _ => 0) 0 25) 1 30) 2 15) 3 2))]) (by rfl) ?_
  refine k_dup 52 hX dX8_init_51 rfl ?_
  refine k_iconst (v := 4) 53 hX dX8_init_52 rfl ?_
  refine k_bipush (v := 6) 55 hX dX8_init_53 rfl ?_
  refine k_iast 56 hX dX8_init_55 rfl (vpK rfl) ?_
  refine mk_to (ws2 := [.inr (8, [.ref 1, .ref 2, .null, .null, .null, .null, .null, .null, .null, .null, .int 0, .int 0, .int 0, .int 0, .null, .null, .null, .null]), .inl (.int, 96, .inl (fun _ => 0)), .inl (.int, 2, .inl (upd (upd (fun _ => 0) 0 (-1)) 1 (-1))), .inl (.int, 6, .inl (upd (upd (upd (upd (upd (fun _ => 0) 0 25) 1 30) 2 15) 3 2) 4 6))]) (by rfl) ?_
  refine k_dup 57 hX dX8_init_56 rfl ?_
  refine k_iconst (v := 5) 58 hX dX8_init_57 rfl ?_
  refine k_iconst (v := 2) 59 hX dX8_init_58 rfl ?_
  refine k_iast 60 hX dX8_init_59 rfl (vpK rfl) ?_
  refine mk_to (ws2 := [.inr (8, [.ref 1, .ref 2, .null, .null, .null, .null, .null, .null, .null, .null, .int 0, .int 0, .int 0, .int 0, .null, .null, .null, .null]), .inl (.int, 96, .inl (fun _ => 0)), .inl (.int, 2, .inl (upd (upd (fun _ => 0) 0 (-1)) 1 (-1))), .inl (.int, 6, .inl (upd (upd (upd (upd (upd (upd (fun _ => 0) 0 25) 1 30) 2 15) 3 2) 4 6) 5 2))]) (by rfl) ?_
  refine k_putF (j := 2) (ty := (.array .int)) 63 hX hI dX8_init_60 mx_ck8 (by decide) (mx_in (by decide +kernel)) rfl rfl (by decide +kernel) rfl (fun _ => ⟨rfl, rfl⟩) (by decide) ?_
  refine mk_to (ws2 := [.inr (8, [.ref 1, .ref 2, .ref 3, .null, .null, .null, .null, .null, .null, .null, .int 0, .int 0, .int 0, .int 0, .null, .null, .null, .null]), .inl (.int, 96, .inl (fun _ => 0)), .inl (.int, 2, .inl (upd (upd (fun _ => 0) 0 (-1)) 1 (-1))), .inl (.int, 6, .inl (upd (upd (upd (upd (upd (upd (fun _ => 0) 0 25) 1 30) 2 15) 3 2) 4 6) 5 2))]) (by rfl) ?_
  refine k_aload_n 64 hX dX8_init_63 rfl ?_
  refine k_bipush (v := 12) 66 hX dX8_init_64 rfl ?_
  refine k_new_int 68 4 12 hX hR dX8_init_66 rfl rfl rfl ?_
  refine mk_to (ws2 := [.inr (8, [.ref 1, .ref 2, .ref 3, .null, .null, .null, .null, .null, .null, .null, .int 0, .int 0, .int 0, .int 0, .null, .null, .null, .null]), .inl (.int, 96, .inl (fun _ => 0)), .inl (.int, 2, .inl (upd (upd (fun _ => 0) 0 (-1)) 1 (-1))), .inl (.int, 6, .inl (upd (upd (upd (upd (upd (upd (fun _ => 0) 0 25) 1 30) 2 15) 3 2) 4 6) 5 2)), .inl (.int, 12, .inl (fun _ => 0))]) (by rfl) ?_
  refine k_putF (j := 3) (ty := (.array .int)) 71 hX hI dX8_init_68 mx_ck8 (by decide) (mx_in (by decide +kernel)) rfl rfl (by decide +kernel) rfl (fun _ => ⟨rfl, rfl⟩) (by decide) ?_
  refine mk_to (ws2 := [.inr (8, [.ref 1, .ref 2, .ref 3, .ref 4, .null, .null, .null, .null, .null, .null, .int 0, .int 0, .int 0, .int 0, .null, .null, .null, .null]), .inl (.int, 96, .inl (fun _ => 0)), .inl (.int, 2, .inl (upd (upd (fun _ => 0) 0 (-1)) 1 (-1))), .inl (.int, 6, .inl (upd (upd (upd (upd (upd (upd (fun _ => 0) 0 25) 1 30) 2 15) 3 2) 4 6) 5 2)), .inl (.int, 12, .inl (fun _ => 0))]) (by rfl) ?_
  refine k_aload_n 72 hX dX8_init_71 rfl ?_
  refine k_iconst (v := 2) 73 hX dX8_init_72 rfl ?_
  refine k_new_boolean 75 5 2 hX hR dX8_init_73 rfl rfl rfl ?_
  refine mk_to (ws2 := [.inr (8, [.ref 1, .ref 2, .ref 3, .ref 4, .null, .null, .null, .null, .null, .null, .int 0, .int 0, .int 0, .int 0, .null, .null, .null, .null]), .inl (.int, 96, .inl (fun _ => 0)), .inl (.int, 2, .inl (upd (upd (fun _ => 0) 0 (-1)) 1 (-1))), .inl (.int, 6, .inl (upd (upd (upd (upd (upd (upd (fun _ => 0) 0 25) 1 30) 2 15) 3 2) 4 6) 5 2)), .inl (.int, 12, .inl (fun _ => 0)), .inl (.boolean, 2, .inl (fun _ => 0))]) (by rfl) ?_
  refine k_putF (j := 4) (ty := (.array .boolean)) 78 hX hI dX8_init_75 mx_ck8 (by decide) (mx_in (by decide +kernel)) rfl rfl (by decide +kernel) rfl (fun _ => ⟨rfl, rfl⟩) (by decide) ?_
  refine mk_to (ws2 := [.inr (8, [.ref 1, .ref 2, .ref 3, .ref 4, .ref 5, .null, .null, .null, .null, .null, .int 0, .int 0, .int 0, .int 0, .null, .null, .null, .null]), .inl (.int, 96, .inl (fun _ => 0)), .inl (.int, 2, .inl (upd (upd (fun _ => 0) 0 (-1)) 1 (-1))), .inl (.int, 6, .inl (upd (upd (upd (upd (upd (upd (fun _ => 0) 0 25) 1 30) 2 15) 3 2) 4 6) 5 2)), .inl (.int, 12, .inl (fun _ => 0)), .inl (.boolean, 2, .inl (fun _ => 0))]) (by rfl) ?_
  refine k_aload_n 79 hX dX8_init_78 rfl ?_
  refine k_bipush (v := 106) 81 hX dX8_init_79 rfl ?_
  refine k_new_int 83 6 106 hX hR dX8_init_81 rfl rfl rfl ?_
  refine mk_to (ws2 := [.inr (8, [.ref 1, .ref 2, .ref 3, .ref 4, .ref 5, .null, .null, .null, .null, .null, .int 0, .int 0, .int 0, .int 0, .null, .null, .null, .null]), .inl (.int, 96, .inl (fun _ => 0)), .inl (.int, 2, .inl (upd (upd (fun _ => 0) 0 (-1)) 1 (-1))), .inl (.int, 6, .inl (upd (upd (upd (upd (upd (upd (fun _ => 0) 0 25) 1 30) 2 15) 3 2) 4 6) 5 2)), .inl (.int, 12, .inl (fun _ => 0)), .inl (.boolean, 2, .inl (fun _ => 0)), .inl (.int, 106, .inl (fun _ => 0))]) (by rfl) ?_
  refine k_putF (j := 5) (ty := (.array .int)) 86 hX hI dX8_init_83 mx_ck8 (by decide) (mx_in (by decide +kernel)) rfl rfl (by decide +kernel) rfl (fun _ => ⟨rfl, rfl⟩) (by decide) ?_
  refine mk_to (ws2 := [.inr (8, [.ref 1, .ref 2, .ref 3, .ref 4, .ref 5, .ref 6, .null, .null, .null, .null, .int 0, .int 0, .int 0, .int 0, .null, .null, .null, .null]), .inl (.int, 96, .inl (fun _ => 0)), .inl (.int, 2, .inl (upd (upd (fun _ => 0) 0 (-1)) 1 (-1))), .inl (.int, 6, .inl (upd (upd (upd (upd (upd (upd (fun _ => 0) 0 25) 1 30) 2 15) 3 2) 4 6) 5 2)), .inl (.int, 12, .inl (fun _ => 0)), .inl (.boolean, 2, .inl (fun _ => 0)), .inl (.int, 106, .inl (fun _ => 0))]) (by rfl) ?_
  refine k_aload_n 87 hX dX8_init_86 rfl ?_
  refine k_bipush (v := 106) 89 hX dX8_init_87 rfl ?_
  refine k_new_int 91 7 106 hX hR dX8_init_89 rfl rfl rfl ?_
  refine mk_to (ws2 := [.inr (8, [.ref 1, .ref 2, .ref 3, .ref 4, .ref 5, .ref 6, .null, .null, .null, .null, .int 0, .int 0, .int 0, .int 0, .null, .null, .null, .null]), .inl (.int, 96, .inl (fun _ => 0)), .inl (.int, 2, .inl (upd (upd (fun _ => 0) 0 (-1)) 1 (-1))), .inl (.int, 6, .inl (upd (upd (upd (upd (upd (upd (fun _ => 0) 0 25) 1 30) 2 15) 3 2) 4 6) 5 2)), .inl (.int, 12, .inl (fun _ => 0)), .inl (.boolean, 2, .inl (fun _ => 0)), .inl (.int, 106, .inl (fun _ => 0)), .inl (.int, 106, .inl (fun _ => 0))]) (by rfl) ?_
  refine k_putF (j := 6) (ty := (.array .int)) 94 hX hI dX8_init_91 mx_ck8 (by decide) (mx_in (by decide +kernel)) rfl rfl (by decide +kernel) rfl (fun _ => ⟨rfl, rfl⟩) (by decide) ?_
  refine mk_to (ws2 := [.inr (8, [.ref 1, .ref 2, .ref 3, .ref 4, .ref 5, .ref 6, .ref 7, .null, .null, .null, .int 0, .int 0, .int 0, .int 0, .null, .null, .null, .null]), .inl (.int, 96, .inl (fun _ => 0)), .inl (.int, 2, .inl (upd (upd (fun _ => 0) 0 (-1)) 1 (-1))), .inl (.int, 6, .inl (upd (upd (upd (upd (upd (upd (fun _ => 0) 0 25) 1 30) 2 15) 3 2) 4 6) 5 2)), .inl (.int, 12, .inl (fun _ => 0)), .inl (.boolean, 2, .inl (fun _ => 0)), .inl (.int, 106, .inl (fun _ => 0)), .inl (.int, 106, .inl (fun _ => 0))]) (by rfl) ?_
  refine k_aload_n 95 hX dX8_init_94 rfl ?_
  refine k_bipush (v := 12) 97 hX dX8_init_95 rfl ?_
  refine k_new_int 99 8 12 hX hR dX8_init_97 rfl rfl rfl ?_
  refine mk_to (ws2 := [.inr (8, [.ref 1, .ref 2, .ref 3, .ref 4, .ref 5, .ref 6, .ref 7, .null, .null, .null, .int 0, .int 0, .int 0, .int 0, .null, .null, .null, .null]), .inl (.int, 96, .inl (fun _ => 0)), .inl (.int, 2, .inl (upd (upd (fun _ => 0) 0 (-1)) 1 (-1))), .inl (.int, 6, .inl (upd (upd (upd (upd (upd (upd (fun _ => 0) 0 25) 1 30) 2 15) 3 2) 4 6) 5 2)), .inl (.int, 12, .inl (fun _ => 0)), .inl (.boolean, 2, .inl (fun _ => 0)), .inl (.int, 106, .inl (fun _ => 0)), .inl (.int, 106, .inl (fun _ => 0)), .inl (.int, 12, .inl (fun _ => 0))]) (by rfl) ?_
  refine k_putF (j := 7) (ty := (.array .int)) 102 hX hI dX8_init_99 mx_ck8 (by decide) (mx_in (by decide +kernel)) rfl rfl (by decide +kernel) rfl (fun _ => ⟨rfl, rfl⟩) (by decide) ?_
  refine mk_to (ws2 := [.inr (8, [.ref 1, .ref 2, .ref 3, .ref 4, .ref 5, .ref 6, .ref 7, .ref 8, .null, .null, .int 0, .int 0, .int 0, .int 0, .null, .null, .null, .null]), .inl (.int, 96, .inl (fun _ => 0)), .inl (.int, 2, .inl (upd (upd (fun _ => 0) 0 (-1)) 1 (-1))), .inl (.int, 6, .inl (upd (upd (upd (upd (upd (upd (fun _ => 0) 0 25) 1 30) 2 15) 3 2) 4 6) 5 2)), .inl (.int, 12, .inl (fun _ => 0)), .inl (.boolean, 2, .inl (fun _ => 0)), .inl (.int, 106, .inl (fun _ => 0)), .inl (.int, 106, .inl (fun _ => 0)), .inl (.int, 12, .inl (fun _ => 0))]) (by rfl) ?_
  refine k_aload_n 103 hX dX8_init_102 rfl ?_
  refine k_bipush (v := 12) 105 hX dX8_init_103 rfl ?_
  refine k_new_int 107 9 12 hX hR dX8_init_105 rfl rfl rfl ?_
  refine mk_to (ws2 := [.inr (8, [.ref 1, .ref 2, .ref 3, .ref 4, .ref 5, .ref 6, .ref 7, .ref 8, .null, .null, .int 0, .int 0, .int 0, .int 0, .null, .null, .null, .null]), .inl (.int, 96, .inl (fun _ => 0)), .inl (.int, 2, .inl (upd (upd (fun _ => 0) 0 (-1)) 1 (-1))), .inl (.int, 6, .inl (upd (upd (upd (upd (upd (upd (fun _ => 0) 0 25) 1 30) 2 15) 3 2) 4 6) 5 2)), .inl (.int, 12, .inl (fun _ => 0)), .inl (.boolean, 2, .inl (fun _ => 0)), .inl (.int, 106, .inl (fun _ => 0)), .inl (.int, 106, .inl (fun _ => 0)), .inl (.int, 12, .inl (fun _ => 0)), .inl (.int, 12, .inl (fun _ => 0))]) (by rfl) ?_
  refine k_putF (j := 8) (ty := (.array .int)) 110 hX hI dX8_init_107 mx_ck8 (by decide) (mx_in (by decide +kernel)) rfl rfl (by decide +kernel) rfl (fun _ => ⟨rfl, rfl⟩) (by decide) ?_
  refine mk_to (ws2 := [.inr (8, [.ref 1, .ref 2, .ref 3, .ref 4, .ref 5, .ref 6, .ref 7, .ref 8, .ref 9, .null, .int 0, .int 0, .int 0, .int 0, .null, .null, .null, .null]), .inl (.int, 96, .inl (fun _ => 0)), .inl (.int, 2, .inl (upd (upd (fun _ => 0) 0 (-1)) 1 (-1))), .inl (.int, 6, .inl (upd (upd (upd (upd (upd (upd (fun _ => 0) 0 25) 1 30) 2 15) 3 2) 4 6) 5 2)), .inl (.int, 12, .inl (fun _ => 0)), .inl (.boolean, 2, .inl (fun _ => 0)), .inl (.int, 106, .inl (fun _ => 0)), .inl (.int, 106, .inl (fun _ => 0)), .inl (.int, 12, .inl (fun _ => 0)), .inl (.int, 12, .inl (fun _ => 0))]) (by rfl) ?_
  refine k_aload_n 111 hX dX8_init_110 rfl ?_
  refine k_bipush (v := 100) 113 hX dX8_init_111 rfl ?_
  refine k_new_byte 115 10 100 hX hR dX8_init_113 rfl rfl rfl ?_
  refine mk_to (ws2 := [.inr (8, [.ref 1, .ref 2, .ref 3, .ref 4, .ref 5, .ref 6, .ref 7, .ref 8, .ref 9, .null, .int 0, .int 0, .int 0, .int 0, .null, .null, .null, .null]), .inl (.int, 96, .inl (fun _ => 0)), .inl (.int, 2, .inl (upd (upd (fun _ => 0) 0 (-1)) 1 (-1))), .inl (.int, 6, .inl (upd (upd (upd (upd (upd (upd (fun _ => 0) 0 25) 1 30) 2 15) 3 2) 4 6) 5 2)), .inl (.int, 12, .inl (fun _ => 0)), .inl (.boolean, 2, .inl (fun _ => 0)), .inl (.int, 106, .inl (fun _ => 0)), .inl (.int, 106, .inl (fun _ => 0)), .inl (.int, 12, .inl (fun _ => 0)), .inl (.int, 12, .inl (fun _ => 0)), .inl (.byte, 100, .inl (fun _ => 0))]) (by rfl) ?_
  refine k_putF (j := 9) (ty := (.array .byte)) 118 hX hI dX8_init_115 mx_ck8 (by decide) (mx_in (by decide +kernel)) rfl rfl (by decide +kernel) rfl (fun _ => ⟨rfl, rfl⟩) (by decide) ?_
  refine mk_to (ws2 := [.inr (8, [.ref 1, .ref 2, .ref 3, .ref 4, .ref 5, .ref 6, .ref 7, .ref 8, .ref 9, .ref 10, .int 0, .int 0, .int 0, .int 0, .null, .null, .null, .null]), .inl (.int, 96, .inl (fun _ => 0)), .inl (.int, 2, .inl (upd (upd (fun _ => 0) 0 (-1)) 1 (-1))), .inl (.int, 6, .inl (upd (upd (upd (upd (upd (upd (fun _ => 0) 0 25) 1 30) 2 15) 3 2) 4 6) 5 2)), .inl (.int, 12, .inl (fun _ => 0)), .inl (.boolean, 2, .inl (fun _ => 0)), .inl (.int, 106, .inl (fun _ => 0)), .inl (.int, 106, .inl (fun _ => 0)), .inl (.int, 12, .inl (fun _ => 0)), .inl (.int, 12, .inl (fun _ => 0)), .inl (.byte, 100, .inl (fun _ => 0))]) (by rfl) ?_
  refine k_aload_n 119 hX dX8_init_118 rfl ?_
  refine k_bipush (v := 6) 121 hX dX8_init_119 rfl ?_
  refine k_new_int 123 11 6 hX hR dX8_init_121 rfl rfl rfl ?_
  refine mk_to (ws2 := [.inr (8, [.ref 1, .ref 2, .ref 3, .ref 4, .ref 5, .ref 6, .ref 7, .ref 8, .ref 9, .ref 10, .int 0, .int 0, .int 0, .int 0, .null, .null, .null, .null]), .inl (.int, 96, .inl (fun _ => 0)), .inl (.int, 2, .inl (upd (upd (fun _ => 0) 0 (-1)) 1 (-1))), .inl (.int, 6, .inl (upd (upd (upd (upd (upd (upd (fun _ => 0) 0 25) 1 30) 2 15) 3 2) 4 6) 5 2)), .inl (.int, 12, .inl (fun _ => 0)), .inl (.boolean, 2, .inl (fun _ => 0)), .inl (.int, 106, .inl (fun _ => 0)), .inl (.int, 106, .inl (fun _ => 0)), .inl (.int, 12, .inl (fun _ => 0)), .inl (.int, 12, .inl (fun _ => 0)), .inl (.byte, 100, .inl (fun _ => 0)), .inl (.int, 6, .inl (fun _ => 0))]) (by rfl) ?_
  refine k_putF (j := 14) (ty := (.array .int)) 126 hX hI dX8_init_123 mx_ck8 (by decide) (mx_in (by decide +kernel)) rfl rfl (by decide +kernel) rfl (fun _ => ⟨rfl, rfl⟩) (by decide) ?_
  refine mk_to (ws2 := [.inr (8, [.ref 1, .ref 2, .ref 3, .ref 4, .ref 5, .ref 6, .ref 7, .ref 8, .ref 9, .ref 10, .int 0, .int 0, .int 0, .int 0, .ref 11, .null, .null, .null]), .inl (.int, 96, .inl (fun _ => 0)), .inl (.int, 2, .inl (upd (upd (fun _ => 0) 0 (-1)) 1 (-1))), .inl (.int, 6, .inl (upd (upd (upd (upd (upd (upd (fun _ => 0) 0 25) 1 30) 2 15) 3 2) 4 6) 5 2)), .inl (.int, 12, .inl (fun _ => 0)), .inl (.boolean, 2, .inl (fun _ => 0)), .inl (.int, 106, .inl (fun _ => 0)), .inl (.int, 106, .inl (fun _ => 0)), .inl (.int, 12, .inl (fun _ => 0)), .inl (.int, 12, .inl (fun _ => 0)), .inl (.byte, 100, .inl (fun _ => 0)), .inl (.int, 6, .inl (fun _ => 0))]) (by rfl) ?_
  refine k_aload_n 127 hX dX8_init_126 rfl ?_
  refine k_bipush (v := 12) 129 hX dX8_init_127 rfl ?_
  refine k_new_int 131 12 12 hX hR dX8_init_129 rfl rfl rfl ?_
  refine mk_to (ws2 := [.inr (8, [.ref 1, .ref 2, .ref 3, .ref 4, .ref 5, .ref 6, .ref 7, .ref 8, .ref 9, .ref 10, .int 0, .int 0, .int 0, .int 0, .ref 11, .null, .null, .null]), .inl (.int, 96, .inl (fun _ => 0)), .inl (.int, 2, .inl (upd (upd (fun _ => 0) 0 (-1)) 1 (-1))), .inl (.int, 6, .inl (upd (upd (upd (upd (upd (upd (fun _ => 0) 0 25) 1 30) 2 15) 3 2) 4 6) 5 2)), .inl (.int, 12, .inl (fun _ => 0)), .inl (.boolean, 2, .inl (fun _ => 0)), .inl (.int, 106, .inl (fun _ => 0)), .inl (.int, 106, .inl (fun _ => 0)), .inl (.int, 12, .inl (fun _ => 0)), .inl (.int, 12, .inl (fun _ => 0)), .inl (.byte, 100, .inl (fun _ => 0)), .inl (.int, 6, .inl (fun _ => 0)), .inl (.int, 12, .inl (fun _ => 0))]) (by rfl) ?_
  refine k_putF (j := 15) (ty := (.array .int)) 134 hX hI dX8_init_131 mx_ck8 (by decide) (mx_in (by decide +kernel)) rfl rfl (by decide +kernel) rfl (fun _ => ⟨rfl, rfl⟩) (by decide) ?_
  refine mk_to (ws2 := [.inr (8, [.ref 1, .ref 2, .ref 3, .ref 4, .ref 5, .ref 6, .ref 7, .ref 8, .ref 9, .ref 10, .int 0, .int 0, .int 0, .int 0, .ref 11, .ref 12, .null, .null]), .inl (.int, 96, .inl (fun _ => 0)), .inl (.int, 2, .inl (upd (upd (fun _ => 0) 0 (-1)) 1 (-1))), .inl (.int, 6, .inl (upd (upd (upd (upd (upd (upd (fun _ => 0) 0 25) 1 30) 2 15) 3 2) 4 6) 5 2)), .inl (.int, 12, .inl (fun _ => 0)), .inl (.boolean, 2, .inl (fun _ => 0)), .inl (.int, 106, .inl (fun _ => 0)), .inl (.int, 106, .inl (fun _ => 0)), .inl (.int, 12, .inl (fun _ => 0)), .inl (.int, 12, .inl (fun _ => 0)), .inl (.byte, 100, .inl (fun _ => 0)), .inl (.int, 6, .inl (fun _ => 0)), .inl (.int, 12, .inl (fun _ => 0))]) (by rfl) ?_
  refine k_aload_n 135 hX dX8_init_134 rfl ?_
  refine k_bipush (v := 72) 137 hX dX8_init_135 rfl ?_
  refine k_new_int 139 13 72 hX hR dX8_init_137 rfl rfl rfl ?_
  refine mk_to (ws2 := [.inr (8, [.ref 1, .ref 2, .ref 3, .ref 4, .ref 5, .ref 6, .ref 7, .ref 8, .ref 9, .ref 10, .int 0, .int 0, .int 0, .int 0, .ref 11, .ref 12, .null, .null]), .inl (.int, 96, .inl (fun _ => 0)), .inl (.int, 2, .inl (upd (upd (fun _ => 0) 0 (-1)) 1 (-1))), .inl (.int, 6, .inl (upd (upd (upd (upd (upd (upd (fun _ => 0) 0 25) 1 30) 2 15) 3 2) 4 6) 5 2)), .inl (.int, 12, .inl (fun _ => 0)), .inl (.boolean, 2, .inl (fun _ => 0)), .inl (.int, 106, .inl (fun _ => 0)), .inl (.int, 106, .inl (fun _ => 0)), .inl (.int, 12, .inl (fun _ => 0)), .inl (.int, 12, .inl (fun _ => 0)), .inl (.byte, 100, .inl (fun _ => 0)), .inl (.int, 6, .inl (fun _ => 0)), .inl (.int, 12, .inl (fun _ => 0)), .inl (.int, 72, .inl (fun _ => 0))]) (by rfl) ?_
  refine k_putF (j := 16) (ty := (.array .int)) 142 hX hI dX8_init_139 mx_ck8 (by decide) (mx_in (by decide +kernel)) rfl rfl (by decide +kernel) rfl (fun _ => ⟨rfl, rfl⟩) (by decide) ?_
  refine mk_to (ws2 := [.inr (8, [.ref 1, .ref 2, .ref 3, .ref 4, .ref 5, .ref 6, .ref 7, .ref 8, .ref 9, .ref 10, .int 0, .int 0, .int 0, .int 0, .ref 11, .ref 12, .ref 13, .null]), .inl (.int, 96, .inl (fun _ => 0)), .inl (.int, 2, .inl (upd (upd (fun _ => 0) 0 (-1)) 1 (-1))), .inl (.int, 6, .inl (upd (upd (upd (upd (upd (upd (fun _ => 0) 0 25) 1 30) 2 15) 3 2) 4 6) 5 2)), .inl (.int, 12, .inl (fun _ => 0)), .inl (.boolean, 2, .inl (fun _ => 0)), .inl (.int, 106, .inl (fun _ => 0)), .inl (.int, 106, .inl (fun _ => 0)), .inl (.int, 12, .inl (fun _ => 0)), .inl (.int, 12, .inl (fun _ => 0)), .inl (.byte, 100, .inl (fun _ => 0)), .inl (.int, 6, .inl (fun _ => 0)), .inl (.int, 12, .inl (fun _ => 0)), .inl (.int, 72, .inl (fun _ => 0))]) (by rfl) ?_
  refine k_aload_n 143 hX dX8_init_142 rfl ?_
  refine k_ldc (v := 69192) 145 hX dX8_init_143 (mx_in (by decide +kernel)) ?_
  refine k_new_long 147 14 69192 hX hR dX8_init_145 rfl rfl rfl ?_
  refine mk_to (ws2 := [.inr (8, [.ref 1, .ref 2, .ref 3, .ref 4, .ref 5, .ref 6, .ref 7, .ref 8, .ref 9, .ref 10, .int 0, .int 0, .int 0, .int 0, .ref 11, .ref 12, .ref 13, .null]), .inl (.int, 96, .inl (fun _ => 0)), .inl (.int, 2, .inl (upd (upd (fun _ => 0) 0 (-1)) 1 (-1))), .inl (.int, 6, .inl (upd (upd (upd (upd (upd (upd (fun _ => 0) 0 25) 1 30) 2 15) 3 2) 4 6) 5 2)), .inl (.int, 12, .inl (fun _ => 0)), .inl (.boolean, 2, .inl (fun _ => 0)), .inl (.int, 106, .inl (fun _ => 0)), .inl (.int, 106, .inl (fun _ => 0)), .inl (.int, 12, .inl (fun _ => 0)), .inl (.int, 12, .inl (fun _ => 0)), .inl (.byte, 100, .inl (fun _ => 0)), .inl (.int, 6, .inl (fun _ => 0)), .inl (.int, 12, .inl (fun _ => 0)), .inl (.int, 72, .inl (fun _ => 0)), .inl (.long, 69192, .inl (fun _ => 0))]) (by rfl) ?_
  refine k_putF (j := 17) (ty := (.array .long)) 150 hX hI dX8_init_147 mx_ck8 (by decide) (mx_in (by decide +kernel)) rfl rfl (by decide +kernel) rfl (fun _ => ⟨rfl, rfl⟩) (by decide) ?_
  refine mk_to (ws2 := [.inr (8, [.ref 1, .ref 2, .ref 3, .ref 4, .ref 5, .ref 6, .ref 7, .ref 8, .ref 9, .ref 10, .int 0, .int 0, .int 0, .int 0, .ref 11, .ref 12, .ref 13, .ref 14]), .inl (.int, 96, .inl (fun _ => 0)), .inl (.int, 2, .inl (upd (upd (fun _ => 0) 0 (-1)) 1 (-1))), .inl (.int, 6, .inl (upd (upd (upd (upd (upd (upd (fun _ => 0) 0 25) 1 30) 2 15) 3 2) 4 6) 5 2)), .inl (.int, 12, .inl (fun _ => 0)), .inl (.boolean, 2, .inl (fun _ => 0)), .inl (.int, 106, .inl (fun _ => 0)), .inl (.int, 106, .inl (fun _ => 0)), .inl (.int, 12, .inl (fun _ => 0)), .inl (.int, 12, .inl (fun _ => 0)), .inl (.byte, 100, .inl (fun _ => 0)), .inl (.int, 6, .inl (fun _ => 0)), .inl (.int, 12, .inl (fun _ => 0)), .inl (.int, 72, .inl (fun _ => 0)), .inl (.long, 69192, .inl (fun _ => 0))]) (by rfl) ?_
  refine k_iconst (v := 0) 151 hX dX8_init_150 rfl ?_
  refine k_istore_n 152 hX dX8_init_151 rfl ?_
  exact h0

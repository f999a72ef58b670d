/-! while no set is on; the shape of a pair of calls -/
set_option maxRecDepth 100000 in
set_option maxHeartbeats 4000000 in
theorem tX8_doFree_off_0 {l : Launch} {G : mx_G} {p : Int32} {M : mx_Mem} (ho : ¬ M.1 52 1 = 1) : mx_Met l G yX8_doFree cX8_doFree 4 ((some FieldType.int)) 2 45 [.ref 46, .int 0, .int p] M (mx_F (some (.int (-1))) M) := by
  refine mx_enter (own := RX8) (L := [.ref 46, .int 0, .int p, .null]) (by decide +kernel) rfl rfl rfl ?_
  intro X hlX hX hR hT
  refine r_aload_n 1 hX dX8_doFree_0 rfl ?_
  refine r_cV0F 4 hX hR tX8_isOn dX8_doFree_1 kX8_isOn lX8_82 rfl rfl rfl rfl rfl rfl ?_
  refine r_Beq 7 28 hX dX8_doFree_4 (fun c1 => ?_) (fun c1 => absurd c1 ho)
  refine r_iconst 29 hX dX8_doFree_28 (v := -1) (by decide) ?_
  refine r_iret hX hT dX8_doFree_29 ?_
  exact ⟨rfl, rfl⟩
set_option maxRecDepth 100000 in
set_option maxHeartbeats 4000000 in
theorem tX8_free_off_0 {l : Launch} {G : mx_G} {p : Int32} {M : mx_Mem} (ho : ¬ M.1 52 1 = 1) : mx_Met l G yX8_free cX8_free 3 ((some FieldType.int)) 3 68 [.ref 46, .int 0, .int p] M (mx_F (some (.int (-1))) (mI M 46 13 0)) := by
  refine mx_enter (own := RX8) (L := [.ref 46, .int 0, .int p]) (by decide +kernel) rfl rfl rfl ?_
  intro X hlX hX hR hT
  refine r_aload_n 1 hX dX8_free_0 rfl ?_
  refine r_iconst 2 hX dX8_free_1 (v := 0) (by decide) ?_
  refine r_putI 5 hX dX8_free_2 fX8_63 fp8_13 rfl rfl rfl ?_
  refine r_iload_n 6 hX dX8_free_5 rfl ?_
  refine r_cS1F 9 hX hR tX8_isTeam_0 dX8_free_6 kX8_isTeam lX8_71 rfl rfl rfl ?_
  refine r_if_eq 12 21 hX dX8_free_9 (fun c => absurd c (by decide)) (fun _ => ?_)
  refine r_aload_n 13 hX dX8_free_12 rfl ?_
  refine r_iload_n 14 hX dX8_free_13 rfl ?_
  refine r_iload_n 15 hX dX8_free_14 rfl ?_
  refine r_cV2F 18 hX hR (tX8_doFree_off_0 ho) dX8_free_15 kX8_doFree lX8_126 rfl rfl rfl rfl rfl rfl ?_
  refine r_goto 22 hX dX8_free_18 ?_
  refine r_iret hX hT dX8_free_22 ?_
  exact ⟨rfl, rfl⟩
set_option maxRecDepth 100000 in
set_option maxHeartbeats 4000000 in
theorem tX8_doFree_off_1 {l : Launch} {G : mx_G} {p : Int32} {M : mx_Mem} (ho : ¬ M.1 52 1 = 1) : mx_Met l G yX8_doFree cX8_doFree 4 ((some FieldType.int)) 2 45 [.ref 46, .int 1, .int p] M (mx_F (some (.int (-1))) M) := by
  refine mx_enter (own := RX8) (L := [.ref 46, .int 1, .int p, .null]) (by decide +kernel) rfl rfl rfl ?_
  intro X hlX hX hR hT
  refine r_aload_n 1 hX dX8_doFree_0 rfl ?_
  refine r_cV0F 4 hX hR tX8_isOn dX8_doFree_1 kX8_isOn lX8_82 rfl rfl rfl rfl rfl rfl ?_
  refine r_Beq 7 28 hX dX8_doFree_4 (fun c1 => ?_) (fun c1 => absurd c1 ho)
  refine r_iconst 29 hX dX8_doFree_28 (v := -1) (by decide) ?_
  refine r_iret hX hT dX8_doFree_29 ?_
  exact ⟨rfl, rfl⟩
set_option maxRecDepth 100000 in
set_option maxHeartbeats 4000000 in
theorem tX8_free_off_1 {l : Launch} {G : mx_G} {p : Int32} {M : mx_Mem} (ho : ¬ M.1 52 1 = 1) : mx_Met l G yX8_free cX8_free 3 ((some FieldType.int)) 3 68 [.ref 46, .int 1, .int p] M (mx_F (some (.int (-1))) (mI M 46 13 0)) := by
  refine mx_enter (own := RX8) (L := [.ref 46, .int 1, .int p]) (by decide +kernel) rfl rfl rfl ?_
  intro X hlX hX hR hT
  refine r_aload_n 1 hX dX8_free_0 rfl ?_
  refine r_iconst 2 hX dX8_free_1 (v := 0) (by decide) ?_
  refine r_putI 5 hX dX8_free_2 fX8_63 fp8_13 rfl rfl rfl ?_
  refine r_iload_n 6 hX dX8_free_5 rfl ?_
  refine r_cS1F 9 hX hR tX8_isTeam_1 dX8_free_6 kX8_isTeam lX8_71 rfl rfl rfl ?_
  refine r_if_eq 12 21 hX dX8_free_9 (fun c => absurd c (by decide)) (fun _ => ?_)
  refine r_aload_n 13 hX dX8_free_12 rfl ?_
  refine r_iload_n 14 hX dX8_free_13 rfl ?_
  refine r_iload_n 15 hX dX8_free_14 rfl ?_
  refine r_cV2F 18 hX hR (tX8_doFree_off_1 ho) dX8_free_15 kX8_doFree lX8_126 rfl rfl rfl rfl rfl rfl ?_
  refine r_goto 22 hX dX8_free_18 ?_
  refine r_iret hX hT dX8_free_22 ?_
  exact ⟨rfl, rfl⟩
set_option maxRecDepth 100000 in
set_option maxHeartbeats 4000000 in
theorem tX7_wrong_off {l : Launch} {G : mx_G} {k : Int32} {M : mx_Mem} (ho : M.1 19 1 = 0) : mx_Met l G yX7_wrong cX7_wrong 2 ((some FieldType.int)) 3 70 [.ref 0, .int k] M (mx_F (some (.int (-1))) M) := by
  refine mx_enter (own := RX7) (L := [.ref 0, .int k]) (by decide +kernel) rfl rfl rfl ?_
  intro X hlX hX hR hT
  refine r_aload_n 1 hX dX7_wrong_0 rfl ?_
  refine r_getR 4 hX dX7_wrong_1 fX7_39 rfl rfl rfl ?_
  refine r_getI 7 hX dX7_wrong_4 fX7_102 rfl rfl rfl ?_
  refine r_if_eq 10 25 hX dX7_wrong_7 (fun c1 => ?_) (fun c1 => absurd ho c1)
  refine r_iconst 26 hX dX7_wrong_25 (v := -1) (by decide) ?_
  refine r_iret hX hT dX7_wrong_26 ?_
  exact ⟨rfl, rfl⟩
set_option maxRecDepth 100000 in
set_option maxHeartbeats 4000000 in
theorem tX8_wrong_off {l : Launch} {G : mx_G} {k : Int32} {M : mx_Mem} (ho : ¬ M.1 52 1 = 1) : mx_Met l G yX8_wrong cX8_wrong 3 ((some FieldType.int)) 4 85 [.ref 46, .int k] M (mx_F (some (.int (-1))) (mI M 46 13 0)) := by
  refine mx_enter (own := RX8) (L := [.ref 46, .int k, .null]) (by decide +kernel) rfl rfl rfl ?_
  intro X hlX hX hR hT
  refine r_aload_n 1 hX dX8_wrong_0 rfl ?_
  refine r_iconst 2 hX dX8_wrong_1 (v := 0) (by decide) ?_
  refine r_putI 5 hX dX8_wrong_2 fX8_63 fp8_13 rfl rfl rfl ?_
  refine r_aload_n 6 hX dX8_wrong_5 rfl ?_
  refine r_cV0F 9 hX hR tX8_isOn dX8_wrong_6 kX8_isOn lX8_82 rfl rfl rfl rfl rfl rfl ?_
  refine r_Bne 12 14 hX dX8_wrong_9 (fun c1 => absurd c1 ho) (fun c1 => ?_)
  refine r_iconst 13 hX dX8_wrong_12 (v := -1) (by decide) ?_
  refine r_iret hX hT dX8_wrong_13 ?_
  exact ⟨rfl, rfl⟩
/-- a call of the class and the same call of the model: the same answer, and the coupling is kept -/
def PR (l : Launch) (G : mx_G) (n : Nat) (y1 : MethodName) (c1 : ByteArray) (m1 : Nat) (r1 : Option FieldType) (f1 o1 : Nat) (a1 : List Value) (y2 : MethodName) (c2 : ByteArray) (m2 : Nat) (r2 : Option FieldType) (f2 o2 : Nat) (a2 : List Value) (M : mx_Mem) : Prop := ∃ (v : Int32) (QC : mx_Mem → Prop), mx_Met l G y1 c1 m1 r1 f1 o1 a1 M (fun r M1 => r = some (.int v) ∧ QC M1) ∧ ∀ M1, QC M1 → mx_Met l G y2 c2 m2 r2 f2 o2 a2 M1 (fun r M2 => r = some (.int v) ∧ RR (n + 1) M2 M2)
theorem RR_ml {n : Nat} {A M M1 : mx_Mem} (h : RR n A M) (hk : ∀ k, 46 ≤ k → k < 61 → M1.1 k = M.1 k) : RR n A M1 :=
  RR_cg h (fun _ _ => rfl) (fun _ _ _ => ⟨rfl, rfl⟩) (fun _ _ => ⟨rfl, rfl⟩) (fun _ _ _ _ => rfl) (fun _ _ => rfl) h.2.1.2.1.1.2.1 (fun k _ => hk k (by omega) (by omega)) (fun j _ => by rw [hk 46 (by omega) (by omega)]) (fun j _ => by rw [hk 52 (by omega) (by omega)])
theorem RR_dg {n : Nat} {A B : mx_Mem} (h : RR n A B) (hk : ∀ k, k < 46 → B.1 k = A.1 k) : RR (n + 1) B B := by
  refine RR_up ?_ (Nat.le_succ n)
  refine RR_cg h (fun k _ => hk k (by omega)) (fun j _ _ => ⟨by rw [hk 9 (by omega)], by rw [hk 14 (by omega)]⟩) (fun j _ => ⟨by rw [hk 10 (by omega)], by rw [hk 15 (by omega)]⟩) (fun k _ j _ => by rw [hk k (by omega)]) (fun j _ => by rw [hk 19 (by omega)]) ?_ (fun _ _ => rfl) (fun _ _ => rfl) (fun _ _ => rfl)
  rw [hk 30 (by omega), hk 20 (by omega), hk 25 (by omega)]
  exact h.2.1.2.1.1.2.1
section
variable {l : Launch} {G : mx_G} {n : Nat} {y1 : MethodName} {c1 : ByteArray} {m1 : Nat} {r1 : Option FieldType} {f1 o1 : Nat} {a1 : List Value} {y2 : MethodName} {c2 : ByteArray} {m2 : Nat} {r2 : Option FieldType} {f2 o2 : Nat} {a2 : List Value} {M A1 B1 : mx_Mem}
/-- both ends are known exactly -/
theorem PR_F {v v' : Int32} (hC : mx_Met l G y1 c1 m1 r1 f1 o1 a1 M (mx_F (some (.int v)) A1)) (hM : mx_Met l G y2 c2 m2 r2 f2 o2 a2 A1 (mx_F (some (.int v')) B1)) (hv : v = v') (h : RR n A1 B1) (hk : ∀ k, k < 46 → B1.1 k = A1.1 k) : PR l G n y1 c1 m1 r1 f1 o1 a1 y2 c2 m2 r2 f2 o2 a2 M := by
  refine ⟨v, fun M1 => M1 = A1, mx_mono hC (fun r M' q => q), ?_⟩
  rintro M1 rfl
  exact mx_mono hM (fun r M' q => ⟨by rw [q.1, hv], by rw [q.2]; exact RR_dg h hk⟩)
/-- the same, where the set's count grows -/
theorem PR_B {v v' : Int32} (hC : mx_Met l G y1 c1 m1 r1 f1 o1 a1 M (mx_F (some (.int v)) A1)) (hM : mx_Met l G y2 c2 m2 r2 f2 o2 a2 A1 (mx_F (some (.int v')) B1)) (hv : v = v') (h : RR (n + 1) A1 B1) (hk : ∀ k, k < 46 → B1.1 k = A1.1 k) : PR l G n y1 c1 m1 r1 f1 o1 a1 y2 c2 m2 r2 f2 o2 a2 M := by
  refine ⟨v, fun M1 => M1 = A1, mx_mono hC (fun r M' q => q), ?_⟩
  rintro M1 rfl
  refine mx_mono hM (fun r M' q => ⟨by rw [q.1, hv], ?_⟩)
  rw [q.2]
  refine RR_cg h (fun k _ => hk k (by omega)) (fun j _ _ => ⟨by rw [hk 9 (by omega)], by rw [hk 14 (by omega)]⟩) (fun j _ => ⟨by rw [hk 10 (by omega)], by rw [hk 15 (by omega)]⟩) (fun k _ j _ => by rw [hk k (by omega)]) (fun j _ => by rw [hk 19 (by omega)]) ?_ (fun _ _ => rfl) (fun _ _ => rfl) (fun _ _ => rfl)
  rw [hk 30 (by omega), hk 20 (by omega), hk 25 (by omega)]
  exact h.2.1.2.1.1.2.1
/-- nothing changes but what the model knows of throws -/
theorem PR_S {v v' : Int32} (h : RR n M M) (hC : mx_Met l G y1 c1 m1 r1 f1 o1 a1 M (mx_F (some (.int v)) M)) (hM : mx_Met l G y2 c2 m2 r2 f2 o2 a2 M (mx_F (some (.int v')) (mI M 46 13 0))) (hv : v = v') : PR l G n y1 c1 m1 r1 f1 o1 a1 y2 c2 m2 r2 f2 o2 a2 M :=
  PR_F hC hM hv (RR_th h 0) (fun k hk => funext fun j => mI_ne _ _ _ _ (by omega))
end

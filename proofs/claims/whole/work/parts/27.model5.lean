/-! the model: line-ups, a set's beginning, texts, sheets -/
def six6 (M : mx_Mem) (a b c d e f : Int32) : mx_Mem := mI (mI (mI (mI (mI (mI (th0 M) 57 0 a) 57 1 b) 57 2 c) 57 3 d) 57 4 e) 57 5 f
def mluC (M : mx_Mem) (z a b c d e f : Int32) : Prop := (¬ M.1 52 1 = 1 ∧ M.1 52 4 = -1) ∧ ((isP a ∧ isP b ∧ isP c) ∧ isP d ∧ isP e ∧ isP f) ∧ ((a ≠ z ∧ b ≠ z ∧ c ≠ z) ∧ d ≠ z ∧ e ≠ z ∧ f ≠ z) ∧ (a ≠ b) ∧ (a ≠ c ∧ b ≠ c) ∧ (a ≠ d ∧ b ≠ d ∧ c ≠ d) ∧ (a ≠ e ∧ b ≠ e ∧ c ≠ e ∧ d ≠ e) ∧ (a ≠ f ∧ b ≠ f ∧ c ≠ f ∧ d ≠ f ∧ e ≠ f)
section MXV
variable {G : mx_G} {X : mx_X} {own : String} {cc : ByteArray} {nL pc : Nat} {L S : List Value} {M : mx_Mem}
theorem r_ialdV (q : Nat) (hX : mx_OK G X own cc nL) {k n j : Nat} {i v : Int32} (hd : decode cc pc = .ok (.iaload, 1)) (hs : mx_sh k = .inl (.int, n)) (hk : Nat.blt k 61 = true) (hi : vp_in i n) (hj : i.toNatClampNeg = j) (hv : M.1 k j = v) (kk : mx_WW G X q L (.int v :: S) M) (hq : pc + 1 = q := by rfl) : mx_WW G X pc L (.int i :: .ref k :: S) M := r_ialdK q hX hd hs hk hi hj (by rw [hv]; exact kk) hq
end MXV
theorem six_at (M : mx_Mem) (a b c d e f : Int32) : (six6 M a b c d e f).1 57 0 = a ∧ (six6 M a b c d e f).1 57 1 = b ∧ (six6 M a b c d e f).1 57 2 = c ∧ (six6 M a b c d e f).1 57 3 = d ∧ (six6 M a b c d e f).1 57 4 = e ∧ (six6 M a b c d e f).1 57 5 = f := by
  simp [six6, mI_ap]
def mtl_0 (N : mx_Mem) (a b c d e f : Int32) : mx_Mem := mI (mI (mI (mI (mI (mI (mI N 50 0 a) 50 1 b) 50 2 c) 50 3 d) 50 4 e) 50 5 f) 51 0 1
set_option maxRecDepth 100000 in
set_option maxHeartbeats 4000000 in
theorem tX8_lineUp_0 {l : Launch} {G : mx_G} {a b c d e f : Int32} {M : mx_Mem} : mx_Met l G yX8_lineUp cX8_lineUp 10 ((some FieldType.boolean)) 2 42 [.ref 46, .int 0, .int a, .int b, .int c, .int d, .int e, .int f] M (fun r M' => (mluC M (M.1 48 0) a b c d e f ∧ r = some (.int 1) ∧ M' = mtl_0 (six6 M a b c d e f) a b c d e f) ∨ (¬ mluC M (M.1 48 0) a b c d e f ∧ r = some (.int 0) ∧ M' = six6 M a b c d e f)) := by
  refine mx_enter (own := RX8) (L := [.ref 46, .int 0, .int a, .int b, .int c, .int d, .int e, .int f, .null, .null]) (by decide +kernel) rfl rfl rfl ?_
  intro X hlX hX hR hT
  refine r_aload_n 1 hX dX8_lineUp_0 rfl ?_
  refine r_iconst 2 hX dX8_lineUp_1 (v := 0) (by decide) ?_
  refine r_putI 5 hX dX8_lineUp_2 fX8_63 fp8_13 rfl rfl rfl ?_
  refine r_aload_n 6 hX dX8_lineUp_5 rfl ?_
  refine r_getR 9 hX dX8_lineUp_6 fX8_42 rfl rfl rfl ?_
  refine r_iconst 10 hX dX8_lineUp_9 (v := 0) (by decide) ?_
  refine r_iload_n 11 hX dX8_lineUp_10 rfl ?_
  refine r_iastK 12 hX dX8_lineUp_11 rfl rfl (vpK rfl) (j := 0) (by decide) ?_
  refine r_aload_n 13 hX dX8_lineUp_12 rfl ?_
  refine r_getR 16 hX dX8_lineUp_13 fX8_42 rfl rfl rfl ?_
  refine r_iconst 17 hX dX8_lineUp_16 (v := 1) (by decide) ?_
  refine r_iload_n 18 hX dX8_lineUp_17 rfl ?_
  refine r_iastK 19 hX dX8_lineUp_18 rfl rfl (vpK rfl) (j := 1) (by decide) ?_
  refine r_aload_n 20 hX dX8_lineUp_19 rfl ?_
  refine r_getR 23 hX dX8_lineUp_20 fX8_42 rfl rfl rfl ?_
  refine r_iconst 24 hX dX8_lineUp_23 (v := 2) (by decide) ?_
  refine r_iload 26 hX dX8_lineUp_24 rfl ?_
  refine r_iastK 27 hX dX8_lineUp_26 rfl rfl (vpK rfl) (j := 2) (by decide) ?_
  refine r_aload_n 28 hX dX8_lineUp_27 rfl ?_
  refine r_getR 31 hX dX8_lineUp_28 fX8_42 rfl rfl rfl ?_
  refine r_iconst 32 hX dX8_lineUp_31 (v := 3) (by decide) ?_
  refine r_iload 34 hX dX8_lineUp_32 rfl ?_
  refine r_iastK 35 hX dX8_lineUp_34 rfl rfl (vpK rfl) (j := 3) (by decide) ?_
  refine r_aload_n 36 hX dX8_lineUp_35 rfl ?_
  refine r_getR 39 hX dX8_lineUp_36 fX8_42 rfl rfl rfl ?_
  refine r_iconst 40 hX dX8_lineUp_39 (v := 4) (by decide) ?_
  refine r_iload 42 hX dX8_lineUp_40 rfl ?_
  refine r_iastK 43 hX dX8_lineUp_42 rfl rfl (vpK rfl) (j := 4) (by decide) ?_
  refine r_aload_n 44 hX dX8_lineUp_43 rfl ?_
  refine r_getR 47 hX dX8_lineUp_44 fX8_42 rfl rfl rfl ?_
  refine r_iconst 48 hX dX8_lineUp_47 (v := 5) (by decide) ?_
  refine r_iload 50 hX dX8_lineUp_48 rfl ?_
  refine r_iastK 51 hX dX8_lineUp_50 rfl rfl (vpK rfl) (j := 5) (by decide) ?_
  refine r_iload_n 52 hX dX8_lineUp_51 rfl ?_
  refine r_cS1F 55 hX hR tX8_isTeam_0 dX8_lineUp_52 kX8_isTeam lX8_71 rfl rfl rfl ?_
  refine r_if_eq 58 75 hX dX8_lineUp_55 (fun c => absurd c (by decide)) (fun _ => ?_)
  refine r_aload_n 59 hX dX8_lineUp_58 rfl ?_
  refine r_cV0F 62 hX hR tX8_isOn dX8_lineUp_59 kX8_isOn lX8_82 rfl rfl rfl rfl rfl rfl ?_
  refine r_Bne 65 75 hX dX8_lineUp_62 (fun c1 => ?_) (fun c1 => ?_)
  · refine r_iconst 76 hX dX8_lineUp_75 (v := 0) (by decide) ?_
    refine r_zret hX hT dX8_lineUp_76 (by first | assumption | decide) ?_
    clear hT hX hR hlX
    exact Or.inr ⟨fun h => by first | exact h.1.1 c1 | exact c2 h.1.2, rfl, rfl⟩
  · refine r_aload_n 66 hX dX8_lineUp_65 rfl ?_
    refine r_getR 69 hX dX8_lineUp_66 fX8_26 rfl rfl rfl ?_
    refine r_iconst 70 hX dX8_lineUp_69 (v := 4) (by decide) ?_
    refine r_ialdV 71 hX dX8_lineUp_70 rfl rfl (vpK rfl) (j := 4) (by decide) (v := M.1 52 4) rfl ?_
    refine r_iconst 72 hX dX8_lineUp_71 (v := -1) (by decide) ?_
    refine r_icmp_eq 75 77 hX dX8_lineUp_72 (fun c2 => ?_) (fun c2 => ?_)
    · refine r_iconst 78 hX dX8_lineUp_77 (v := 0) (by decide) ?_
      refine r_istore 80 hX dX8_lineUp_78 rfl ?_
      refine r_iload 82 hX dX8_lineUp_80 rfl ?_
      refine r_bipush 84 hX dX8_lineUp_82 (v := 6) (by decide) ?_
      refine r_icmp_ge 87 159 hX dX8_lineUp_84 (fun c => absurd c (by decide)) (fun _ => ?_)
      refine r_aload_n 88 hX dX8_lineUp_87 rfl ?_
      refine r_getR 91 hX dX8_lineUp_88 fX8_42 rfl rfl rfl ?_
      refine r_iload 93 hX dX8_lineUp_91 rfl ?_
      refine r_ialdV 94 hX dX8_lineUp_93 rfl rfl (vpK rfl) (j := 0) (by decide) (v := a) rfl ?_
      refine r_cS1F 97 hX hR tX8_isPlayer dX8_lineUp_94 kX8_isPlayer lX8_75 rfl rfl rfl ?_
      refine r_Beq 100 116 hX dX8_lineUp_97 (fun c3 => ?_) (fun c3 => ?_)
      · refine r_iconst 117 hX dX8_lineUp_116 (v := 0) (by decide) ?_
        refine r_zret hX hT dX8_lineUp_117 (by first | assumption | decide) ?_
        clear hT hX hR hlX
        exact Or.inr ⟨fun h => by obtain ⟨-, ⟨⟨h1, h2, h3⟩, h4, h5, h6⟩, ⟨⟨h7, h8, h9⟩, h10, h11, h12⟩, -⟩ := h; contradiction, rfl, rfl⟩
      · refine r_aload_n 101 hX dX8_lineUp_100 rfl ?_
        refine r_getR 104 hX dX8_lineUp_101 fX8_42 rfl rfl rfl ?_
        refine r_iload 106 hX dX8_lineUp_104 rfl ?_
        refine r_ialdV 107 hX dX8_lineUp_106 rfl rfl (vpK rfl) (j := 0) (by decide) (v := a) rfl ?_
        refine r_aload_n 108 hX dX8_lineUp_107 rfl ?_
        refine r_getR 111 hX dX8_lineUp_108 fX8_13 rfl rfl rfl ?_
        refine r_iload_n 112 hX dX8_lineUp_111 rfl ?_
        refine r_ialdV 113 hX dX8_lineUp_112 rfl rfl (vpK rfl) (j := 0) (by decide) (v := M.1 48 0) rfl ?_
        refine r_icmp_ne 116 118 hX dX8_lineUp_113 (fun c4 => ?_) (fun c4 => ?_)
        · refine r_iconst 119 hX dX8_lineUp_118 (v := 0) (by decide) ?_
          refine r_istore 121 hX dX8_lineUp_119 rfl ?_
          refine r_iload 123 hX dX8_lineUp_121 rfl ?_
          refine r_iload 125 hX dX8_lineUp_123 rfl ?_
          refine r_icmp_ge 128 153 hX dX8_lineUp_125 (fun _ => ?_) (fun c => absurd c (by decide))
          refine r_iincK 156 hX dX8_lineUp_153 rfl (w := 1) (by decide) rfl ?_
          refine (show mx_WW G X 156 [_, _, _, _, _, _, _, _, _, _] _ _ from ?_)
          refine r_goto 80 hX dX8_lineUp_156 ?_
          refine r_iload 82 hX dX8_lineUp_80 rfl ?_
          refine r_bipush 84 hX dX8_lineUp_82 (v := 6) (by decide) ?_
          refine r_icmp_ge 87 159 hX dX8_lineUp_84 (fun c => absurd c (by decide)) (fun _ => ?_)
          refine r_aload_n 88 hX dX8_lineUp_87 rfl ?_
          refine r_getR 91 hX dX8_lineUp_88 fX8_42 rfl rfl rfl ?_
          refine r_iload 93 hX dX8_lineUp_91 rfl ?_
          refine r_ialdV 94 hX dX8_lineUp_93 rfl rfl (vpK rfl) (j := 1) (by decide) (v := b) rfl ?_
          refine r_cS1F 97 hX hR tX8_isPlayer dX8_lineUp_94 kX8_isPlayer lX8_75 rfl rfl rfl ?_
          refine r_Beq 100 116 hX dX8_lineUp_97 (fun c5 => ?_) (fun c5 => ?_)
          · refine r_iconst 117 hX dX8_lineUp_116 (v := 0) (by decide) ?_
            refine r_zret hX hT dX8_lineUp_117 (by first | assumption | decide) ?_
            clear hT hX hR hlX
            exact Or.inr ⟨fun h => by obtain ⟨-, ⟨⟨h1, h2, h3⟩, h4, h5, h6⟩, ⟨⟨h7, h8, h9⟩, h10, h11, h12⟩, -⟩ := h; contradiction, rfl, rfl⟩
          · refine r_aload_n 101 hX dX8_lineUp_100 rfl ?_
            refine r_getR 104 hX dX8_lineUp_101 fX8_42 rfl rfl rfl ?_
            refine r_iload 106 hX dX8_lineUp_104 rfl ?_
            refine r_ialdV 107 hX dX8_lineUp_106 rfl rfl (vpK rfl) (j := 1) (by decide) (v := b) rfl ?_
            refine r_aload_n 108 hX dX8_lineUp_107 rfl ?_
            refine r_getR 111 hX dX8_lineUp_108 fX8_13 rfl rfl rfl ?_
            refine r_iload_n 112 hX dX8_lineUp_111 rfl ?_
            refine r_ialdV 113 hX dX8_lineUp_112 rfl rfl (vpK rfl) (j := 0) (by decide) (v := M.1 48 0) rfl ?_
            refine r_icmp_ne 116 118 hX dX8_lineUp_113 (fun c6 => ?_) (fun c6 => ?_)
            · refine r_iconst 119 hX dX8_lineUp_118 (v := 0) (by decide) ?_
              refine r_istore 121 hX dX8_lineUp_119 rfl ?_
              refine r_iload 123 hX dX8_lineUp_121 rfl ?_
              refine r_iload 125 hX dX8_lineUp_123 rfl ?_
              refine r_icmp_ge 128 153 hX dX8_lineUp_125 (fun c => absurd c (by decide)) (fun _ => ?_)
              refine r_aload_n 129 hX dX8_lineUp_128 rfl ?_
              refine r_getR 132 hX dX8_lineUp_129 fX8_42 rfl rfl rfl ?_
              refine r_iload 134 hX dX8_lineUp_132 rfl ?_
              refine r_ialdV 135 hX dX8_lineUp_134 rfl rfl (vpK rfl) (j := 0) (by decide) (v := a) rfl ?_
              refine r_aload_n 136 hX dX8_lineUp_135 rfl ?_
              refine r_getR 139 hX dX8_lineUp_136 fX8_42 rfl rfl rfl ?_
              refine r_iload 141 hX dX8_lineUp_139 rfl ?_
              refine r_ialdV 142 hX dX8_lineUp_141 rfl rfl (vpK rfl) (j := 1) (by decide) (v := b) rfl ?_
              refine r_icmp_ne 145 147 hX dX8_lineUp_142 (fun c7 => ?_) (fun c7 => ?_)
              · refine r_iincK 150 hX dX8_lineUp_147 rfl (w := 1) (by decide) rfl ?_
                refine r_goto 121 hX dX8_lineUp_150 ?_
                refine r_iload 123 hX dX8_lineUp_121 rfl ?_
                refine r_iload 125 hX dX8_lineUp_123 rfl ?_
                refine r_icmp_ge 128 153 hX dX8_lineUp_125 (fun _ => ?_) (fun c => absurd c (by decide))
                refine r_iincK 156 hX dX8_lineUp_153 rfl (w := 2) (by decide) rfl ?_
                refine (show mx_WW G X 156 [_, _, _, _, _, _, _, _, _, _] _ _ from ?_)
                refine r_goto 80 hX dX8_lineUp_156 ?_
                refine r_iload 82 hX dX8_lineUp_80 rfl ?_
                refine r_bipush 84 hX dX8_lineUp_82 (v := 6) (by decide) ?_
                refine r_icmp_ge 87 159 hX dX8_lineUp_84 (fun c => absurd c (by decide)) (fun _ => ?_)
                refine r_aload_n 88 hX dX8_lineUp_87 rfl ?_
                refine r_getR 91 hX dX8_lineUp_88 fX8_42 rfl rfl rfl ?_
                refine r_iload 93 hX dX8_lineUp_91 rfl ?_
                refine r_ialdV 94 hX dX8_lineUp_93 rfl rfl (vpK rfl) (j := 2) (by decide) (v := c) rfl ?_
                refine r_cS1F 97 hX hR tX8_isPlayer dX8_lineUp_94 kX8_isPlayer lX8_75 rfl rfl rfl ?_
                refine r_Beq 100 116 hX dX8_lineUp_97 (fun c8 => ?_) (fun c8 => ?_)
                · refine r_iconst 117 hX dX8_lineUp_116 (v := 0) (by decide) ?_
                  refine r_zret hX hT dX8_lineUp_117 (by first | assumption | decide) ?_
                  clear hT hX hR hlX
                  exact Or.inr ⟨fun h => by obtain ⟨-, ⟨⟨h1, h2, h3⟩, h4, h5, h6⟩, ⟨⟨h7, h8, h9⟩, h10, h11, h12⟩, -⟩ := h; contradiction, rfl, rfl⟩
                · refine r_aload_n 101 hX dX8_lineUp_100 rfl ?_
                  refine r_getR 104 hX dX8_lineUp_101 fX8_42 rfl rfl rfl ?_
                  refine r_iload 106 hX dX8_lineUp_104 rfl ?_
                  refine r_ialdV 107 hX dX8_lineUp_106 rfl rfl (vpK rfl) (j := 2) (by decide) (v := c) rfl ?_
                  refine r_aload_n 108 hX dX8_lineUp_107 rfl ?_
                  refine r_getR 111 hX dX8_lineUp_108 fX8_13 rfl rfl rfl ?_
                  refine r_iload_n 112 hX dX8_lineUp_111 rfl ?_
                  refine r_ialdV 113 hX dX8_lineUp_112 rfl rfl (vpK rfl) (j := 0) (by decide) (v := M.1 48 0) rfl ?_
                  refine r_icmp_ne 116 118 hX dX8_lineUp_113 (fun c9 => ?_) (fun c9 => ?_)
                  · refine r_iconst 119 hX dX8_lineUp_118 (v := 0) (by decide) ?_
                    refine r_istore 121 hX dX8_lineUp_119 rfl ?_
                    refine r_iload 123 hX dX8_lineUp_121 rfl ?_
                    refine r_iload 125 hX dX8_lineUp_123 rfl ?_
                    refine r_icmp_ge 128 153 hX dX8_lineUp_125 (fun c => absurd c (by decide)) (fun _ => ?_)
                    refine r_aload_n 129 hX dX8_lineUp_128 rfl ?_
                    refine r_getR 132 hX dX8_lineUp_129 fX8_42 rfl rfl rfl ?_
                    refine r_iload 134 hX dX8_lineUp_132 rfl ?_
                    refine r_ialdV 135 hX dX8_lineUp_134 rfl rfl (vpK rfl) (j := 0) (by decide) (v := a) rfl ?_
                    refine r_aload_n 136 hX dX8_lineUp_135 rfl ?_
                    refine r_getR 139 hX dX8_lineUp_136 fX8_42 rfl rfl rfl ?_
                    refine r_iload 141 hX dX8_lineUp_139 rfl ?_
                    refine r_ialdV 142 hX dX8_lineUp_141 rfl rfl (vpK rfl) (j := 2) (by decide) (v := c) rfl ?_
                    refine r_icmp_ne 145 147 hX dX8_lineUp_142 (fun c10 => ?_) (fun c10 => ?_)
                    · refine r_iincK 150 hX dX8_lineUp_147 rfl (w := 1) (by decide) rfl ?_
                      refine r_goto 121 hX dX8_lineUp_150 ?_
                      refine r_iload 123 hX dX8_lineUp_121 rfl ?_
                      refine r_iload 125 hX dX8_lineUp_123 rfl ?_
                      refine r_icmp_ge 128 153 hX dX8_lineUp_125 (fun c => absurd c (by decide)) (fun _ => ?_)
                      refine r_aload_n 129 hX dX8_lineUp_128 rfl ?_
                      refine r_getR 132 hX dX8_lineUp_129 fX8_42 rfl rfl rfl ?_
                      refine r_iload 134 hX dX8_lineUp_132 rfl ?_
                      refine r_ialdV 135 hX dX8_lineUp_134 rfl rfl (vpK rfl) (j := 1) (by decide) (v := b) rfl ?_
                      refine r_aload_n 136 hX dX8_lineUp_135 rfl ?_
                      refine r_getR 139 hX dX8_lineUp_136 fX8_42 rfl rfl rfl ?_
                      refine r_iload 141 hX dX8_lineUp_139 rfl ?_
                      refine r_ialdV 142 hX dX8_lineUp_141 rfl rfl (vpK rfl) (j := 2) (by decide) (v := c) rfl ?_
                      refine r_icmp_ne 145 147 hX dX8_lineUp_142 (fun c11 => ?_) (fun c11 => ?_)
                      · refine r_iincK 150 hX dX8_lineUp_147 rfl (w := 2) (by decide) rfl ?_
                        refine (show mx_WW G X 150 [_, _, _, _, _, _, _, _, _, _] _ _ from ?_)
                        refine r_goto 121 hX dX8_lineUp_150 ?_
                        refine r_iload 123 hX dX8_lineUp_121 rfl ?_
                        refine r_iload 125 hX dX8_lineUp_123 rfl ?_
                        refine r_icmp_ge 128 153 hX dX8_lineUp_125 (fun _ => ?_) (fun c => absurd c (by decide))
                        refine r_iincK 156 hX dX8_lineUp_153 rfl (w := 3) (by decide) rfl ?_
                        refine r_goto 80 hX dX8_lineUp_156 ?_
                        refine r_iload 82 hX dX8_lineUp_80 rfl ?_
                        refine r_bipush 84 hX dX8_lineUp_82 (v := 6) (by decide) ?_
                        refine r_icmp_ge 87 159 hX dX8_lineUp_84 (fun c => absurd c (by decide)) (fun _ => ?_)
                        refine r_aload_n 88 hX dX8_lineUp_87 rfl ?_
                        refine r_getR 91 hX dX8_lineUp_88 fX8_42 rfl rfl rfl ?_
                        refine r_iload 93 hX dX8_lineUp_91 rfl ?_
                        refine r_ialdV 94 hX dX8_lineUp_93 rfl rfl (vpK rfl) (j := 3) (by decide) (v := d) rfl ?_
                        refine r_cS1F 97 hX hR tX8_isPlayer dX8_lineUp_94 kX8_isPlayer lX8_75 rfl rfl rfl ?_
                        refine r_Beq 100 116 hX dX8_lineUp_97 (fun c12 => ?_) (fun c12 => ?_)
                        · refine r_iconst 117 hX dX8_lineUp_116 (v := 0) (by decide) ?_
                          refine r_zret hX hT dX8_lineUp_117 (by first | assumption | decide) ?_
                          clear hT hX hR hlX
                          exact Or.inr ⟨fun h => by obtain ⟨-, ⟨⟨h1, h2, h3⟩, h4, h5, h6⟩, ⟨⟨h7, h8, h9⟩, h10, h11, h12⟩, -⟩ := h; contradiction, rfl, rfl⟩
                        · refine r_aload_n 101 hX dX8_lineUp_100 rfl ?_
                          refine r_getR 104 hX dX8_lineUp_101 fX8_42 rfl rfl rfl ?_
                          refine r_iload 106 hX dX8_lineUp_104 rfl ?_
                          refine r_ialdV 107 hX dX8_lineUp_106 rfl rfl (vpK rfl) (j := 3) (by decide) (v := d) rfl ?_
                          refine r_aload_n 108 hX dX8_lineUp_107 rfl ?_
                          refine r_getR 111 hX dX8_lineUp_108 fX8_13 rfl rfl rfl ?_
                          refine r_iload_n 112 hX dX8_lineUp_111 rfl ?_
                          refine r_ialdV 113 hX dX8_lineUp_112 rfl rfl (vpK rfl) (j := 0) (by decide) (v := M.1 48 0) rfl ?_
                          refine r_icmp_ne 116 118 hX dX8_lineUp_113 (fun c13 => ?_) (fun c13 => ?_)
                          · refine r_iconst 119 hX dX8_lineUp_118 (v := 0) (by decide) ?_
                            refine r_istore 121 hX dX8_lineUp_119 rfl ?_
                            refine r_iload 123 hX dX8_lineUp_121 rfl ?_
                            refine r_iload 125 hX dX8_lineUp_123 rfl ?_
                            refine r_icmp_ge 128 153 hX dX8_lineUp_125 (fun c => absurd c (by decide)) (fun _ => ?_)
                            refine r_aload_n 129 hX dX8_lineUp_128 rfl ?_
                            refine r_getR 132 hX dX8_lineUp_129 fX8_42 rfl rfl rfl ?_
                            refine r_iload 134 hX dX8_lineUp_132 rfl ?_
                            refine r_ialdV 135 hX dX8_lineUp_134 rfl rfl (vpK rfl) (j := 0) (by decide) (v := a) rfl ?_
                            refine r_aload_n 136 hX dX8_lineUp_135 rfl ?_
                            refine r_getR 139 hX dX8_lineUp_136 fX8_42 rfl rfl rfl ?_
                            refine r_iload 141 hX dX8_lineUp_139 rfl ?_
                            refine r_ialdV 142 hX dX8_lineUp_141 rfl rfl (vpK rfl) (j := 3) (by decide) (v := d) rfl ?_
                            refine r_icmp_ne 145 147 hX dX8_lineUp_142 (fun c14 => ?_) (fun c14 => ?_)
                            · refine r_iincK 150 hX dX8_lineUp_147 rfl (w := 1) (by decide) rfl ?_
                              refine (show mx_WW G X 150 [_, _, _, _, _, _, _, _, _, _] _ _ from ?_)
                              refine r_goto 121 hX dX8_lineUp_150 ?_
                              refine r_iload 123 hX dX8_lineUp_121 rfl ?_
                              refine r_iload 125 hX dX8_lineUp_123 rfl ?_
                              refine r_icmp_ge 128 153 hX dX8_lineUp_125 (fun c => absurd c (by decide)) (fun _ => ?_)
                              refine r_aload_n 129 hX dX8_lineUp_128 rfl ?_
                              refine r_getR 132 hX dX8_lineUp_129 fX8_42 rfl rfl rfl ?_
                              refine r_iload 134 hX dX8_lineUp_132 rfl ?_
                              refine r_ialdV 135 hX dX8_lineUp_134 rfl rfl (vpK rfl) (j := 1) (by decide) (v := b) rfl ?_
                              refine r_aload_n 136 hX dX8_lineUp_135 rfl ?_
                              refine r_getR 139 hX dX8_lineUp_136 fX8_42 rfl rfl rfl ?_
                              refine r_iload 141 hX dX8_lineUp_139 rfl ?_
                              refine r_ialdV 142 hX dX8_lineUp_141 rfl rfl (vpK rfl) (j := 3) (by decide) (v := d) rfl ?_
                              refine r_icmp_ne 145 147 hX dX8_lineUp_142 (fun c15 => ?_) (fun c15 => ?_)
                              · refine r_iincK 150 hX dX8_lineUp_147 rfl (w := 2) (by decide) rfl ?_
                                refine r_goto 121 hX dX8_lineUp_150 ?_
                                refine r_iload 123 hX dX8_lineUp_121 rfl ?_
                                refine r_iload 125 hX dX8_lineUp_123 rfl ?_
                                refine r_icmp_ge 128 153 hX dX8_lineUp_125 (fun c => absurd c (by decide)) (fun _ => ?_)
                                refine r_aload_n 129 hX dX8_lineUp_128 rfl ?_
                                refine r_getR 132 hX dX8_lineUp_129 fX8_42 rfl rfl rfl ?_
                                refine r_iload 134 hX dX8_lineUp_132 rfl ?_
                                refine r_ialdV 135 hX dX8_lineUp_134 rfl rfl (vpK rfl) (j := 2) (by decide) (v := c) rfl ?_
                                refine r_aload_n 136 hX dX8_lineUp_135 rfl ?_
                                refine r_getR 139 hX dX8_lineUp_136 fX8_42 rfl rfl rfl ?_
                                refine r_iload 141 hX dX8_lineUp_139 rfl ?_
                                refine r_ialdV 142 hX dX8_lineUp_141 rfl rfl (vpK rfl) (j := 3) (by decide) (v := d) rfl ?_
                                refine r_icmp_ne 145 147 hX dX8_lineUp_142 (fun c16 => ?_) (fun c16 => ?_)
                                · refine r_iincK 150 hX dX8_lineUp_147 rfl (w := 3) (by decide) rfl ?_
                                  refine r_goto 121 hX dX8_lineUp_150 ?_
                                  refine r_iload 123 hX dX8_lineUp_121 rfl ?_
                                  refine r_iload 125 hX dX8_lineUp_123 rfl ?_
                                  refine r_icmp_ge 128 153 hX dX8_lineUp_125 (fun _ => ?_) (fun c => absurd c (by decide))
                                  refine r_iincK 156 hX dX8_lineUp_153 rfl (w := 4) (by decide) rfl ?_
                                  refine (show mx_WW G X 156 [_, _, _, _, _, _, _, _, _, _] _ _ from ?_)
                                  refine r_goto 80 hX dX8_lineUp_156 ?_
                                  refine r_iload 82 hX dX8_lineUp_80 rfl ?_
                                  refine r_bipush 84 hX dX8_lineUp_82 (v := 6) (by decide) ?_
                                  refine r_icmp_ge 87 159 hX dX8_lineUp_84 (fun c => absurd c (by decide)) (fun _ => ?_)
                                  refine r_aload_n 88 hX dX8_lineUp_87 rfl ?_
                                  refine r_getR 91 hX dX8_lineUp_88 fX8_42 rfl rfl rfl ?_
                                  refine r_iload 93 hX dX8_lineUp_91 rfl ?_
                                  refine r_ialdV 94 hX dX8_lineUp_93 rfl rfl (vpK rfl) (j := 4) (by decide) (v := e) rfl ?_
                                  refine r_cS1F 97 hX hR tX8_isPlayer dX8_lineUp_94 kX8_isPlayer lX8_75 rfl rfl rfl ?_
                                  refine r_Beq 100 116 hX dX8_lineUp_97 (fun c17 => ?_) (fun c17 => ?_)
                                  · refine r_iconst 117 hX dX8_lineUp_116 (v := 0) (by decide) ?_
                                    refine r_zret hX hT dX8_lineUp_117 (by first | assumption | decide) ?_
                                    clear hT hX hR hlX
                                    exact Or.inr ⟨fun h => by obtain ⟨-, ⟨⟨h1, h2, h3⟩, h4, h5, h6⟩, ⟨⟨h7, h8, h9⟩, h10, h11, h12⟩, -⟩ := h; contradiction, rfl, rfl⟩
                                  · refine r_aload_n 101 hX dX8_lineUp_100 rfl ?_
                                    refine r_getR 104 hX dX8_lineUp_101 fX8_42 rfl rfl rfl ?_
                                    refine r_iload 106 hX dX8_lineUp_104 rfl ?_
                                    refine r_ialdV 107 hX dX8_lineUp_106 rfl rfl (vpK rfl) (j := 4) (by decide) (v := e) rfl ?_
                                    refine r_aload_n 108 hX dX8_lineUp_107 rfl ?_
                                    refine r_getR 111 hX dX8_lineUp_108 fX8_13 rfl rfl rfl ?_
                                    refine r_iload_n 112 hX dX8_lineUp_111 rfl ?_
                                    refine r_ialdV 113 hX dX8_lineUp_112 rfl rfl (vpK rfl) (j := 0) (by decide) (v := M.1 48 0) rfl ?_
                                    refine r_icmp_ne 116 118 hX dX8_lineUp_113 (fun c18 => ?_) (fun c18 => ?_)
                                    · refine r_iconst 119 hX dX8_lineUp_118 (v := 0) (by decide) ?_
                                      refine r_istore 121 hX dX8_lineUp_119 rfl ?_
                                      refine r_iload 123 hX dX8_lineUp_121 rfl ?_
                                      refine r_iload 125 hX dX8_lineUp_123 rfl ?_
                                      refine r_icmp_ge 128 153 hX dX8_lineUp_125 (fun c => absurd c (by decide)) (fun _ => ?_)
                                      refine r_aload_n 129 hX dX8_lineUp_128 rfl ?_
                                      refine r_getR 132 hX dX8_lineUp_129 fX8_42 rfl rfl rfl ?_
                                      refine r_iload 134 hX dX8_lineUp_132 rfl ?_
                                      refine r_ialdV 135 hX dX8_lineUp_134 rfl rfl (vpK rfl) (j := 0) (by decide) (v := a) rfl ?_
                                      refine r_aload_n 136 hX dX8_lineUp_135 rfl ?_
                                      refine r_getR 139 hX dX8_lineUp_136 fX8_42 rfl rfl rfl ?_
                                      refine r_iload 141 hX dX8_lineUp_139 rfl ?_
                                      refine r_ialdV 142 hX dX8_lineUp_141 rfl rfl (vpK rfl) (j := 4) (by decide) (v := e) rfl ?_
                                      refine r_icmp_ne 145 147 hX dX8_lineUp_142 (fun c19 => ?_) (fun c19 => ?_)
                                      · refine r_iincK 150 hX dX8_lineUp_147 rfl (w := 1) (by decide) rfl ?_
                                        refine r_goto 121 hX dX8_lineUp_150 ?_
                                        refine r_iload 123 hX dX8_lineUp_121 rfl ?_
                                        refine r_iload 125 hX dX8_lineUp_123 rfl ?_
                                        refine r_icmp_ge 128 153 hX dX8_lineUp_125 (fun c => absurd c (by decide)) (fun _ => ?_)
                                        refine r_aload_n 129 hX dX8_lineUp_128 rfl ?_
                                        refine r_getR 132 hX dX8_lineUp_129 fX8_42 rfl rfl rfl ?_
                                        refine r_iload 134 hX dX8_lineUp_132 rfl ?_
                                        refine r_ialdV 135 hX dX8_lineUp_134 rfl rfl (vpK rfl) (j := 1) (by decide) (v := b) rfl ?_
                                        refine r_aload_n 136 hX dX8_lineUp_135 rfl ?_
                                        refine r_getR 139 hX dX8_lineUp_136 fX8_42 rfl rfl rfl ?_
                                        refine r_iload 141 hX dX8_lineUp_139 rfl ?_
                                        refine r_ialdV 142 hX dX8_lineUp_141 rfl rfl (vpK rfl) (j := 4) (by decide) (v := e) rfl ?_
                                        refine r_icmp_ne 145 147 hX dX8_lineUp_142 (fun c20 => ?_) (fun c20 => ?_)
                                        · refine r_iincK 150 hX dX8_lineUp_147 rfl (w := 2) (by decide) rfl ?_
                                          refine (show mx_WW G X 150 [_, _, _, _, _, _, _, _, _, _] _ _ from ?_)
                                          refine r_goto 121 hX dX8_lineUp_150 ?_
                                          refine r_iload 123 hX dX8_lineUp_121 rfl ?_
                                          refine r_iload 125 hX dX8_lineUp_123 rfl ?_
                                          refine r_icmp_ge 128 153 hX dX8_lineUp_125 (fun c => absurd c (by decide)) (fun _ => ?_)
                                          refine r_aload_n 129 hX dX8_lineUp_128 rfl ?_
                                          refine r_getR 132 hX dX8_lineUp_129 fX8_42 rfl rfl rfl ?_
                                          refine r_iload 134 hX dX8_lineUp_132 rfl ?_
                                          refine r_ialdV 135 hX dX8_lineUp_134 rfl rfl (vpK rfl) (j := 2) (by decide) (v := c) rfl ?_
                                          refine r_aload_n 136 hX dX8_lineUp_135 rfl ?_
                                          refine r_getR 139 hX dX8_lineUp_136 fX8_42 rfl rfl rfl ?_
                                          refine r_iload 141 hX dX8_lineUp_139 rfl ?_
                                          refine r_ialdV 142 hX dX8_lineUp_141 rfl rfl (vpK rfl) (j := 4) (by decide) (v := e) rfl ?_
                                          refine r_icmp_ne 145 147 hX dX8_lineUp_142 (fun c21 => ?_) (fun c21 => ?_)
                                          · refine r_iincK 150 hX dX8_lineUp_147 rfl (w := 3) (by decide) rfl ?_
                                            refine r_goto 121 hX dX8_lineUp_150 ?_
                                            refine r_iload 123 hX dX8_lineUp_121 rfl ?_
                                            refine r_iload 125 hX dX8_lineUp_123 rfl ?_
                                            refine r_icmp_ge 128 153 hX dX8_lineUp_125 (fun c => absurd c (by decide)) (fun _ => ?_)
                                            refine r_aload_n 129 hX dX8_lineUp_128 rfl ?_
                                            refine r_getR 132 hX dX8_lineUp_129 fX8_42 rfl rfl rfl ?_
                                            refine r_iload 134 hX dX8_lineUp_132 rfl ?_
                                            refine r_ialdV 135 hX dX8_lineUp_134 rfl rfl (vpK rfl) (j := 3) (by decide) (v := d) rfl ?_
                                            refine r_aload_n 136 hX dX8_lineUp_135 rfl ?_
                                            refine r_getR 139 hX dX8_lineUp_136 fX8_42 rfl rfl rfl ?_
                                            refine r_iload 141 hX dX8_lineUp_139 rfl ?_
                                            refine r_ialdV 142 hX dX8_lineUp_141 rfl rfl (vpK rfl) (j := 4) (by decide) (v := e) rfl ?_
                                            refine r_icmp_ne 145 147 hX dX8_lineUp_142 (fun c22 => ?_) (fun c22 => ?_)
                                            · refine r_iincK 150 hX dX8_lineUp_147 rfl (w := 4) (by decide) rfl ?_
                                              refine r_goto 121 hX dX8_lineUp_150 ?_
                                              refine r_iload 123 hX dX8_lineUp_121 rfl ?_
                                              refine r_iload 125 hX dX8_lineUp_123 rfl ?_
                                              refine r_icmp_ge 128 153 hX dX8_lineUp_125 (fun _ => ?_) (fun c => absurd c (by decide))
                                              refine r_iincK 156 hX dX8_lineUp_153 rfl (w := 5) (by decide) rfl ?_
                                              refine (show mx_WW G X 156 [_, _, _, _, _, _, _, _, _, _] _ _ from ?_)
                                              refine r_goto 80 hX dX8_lineUp_156 ?_
                                              refine r_iload 82 hX dX8_lineUp_80 rfl ?_
                                              refine r_bipush 84 hX dX8_lineUp_82 (v := 6) (by decide) ?_
                                              refine r_icmp_ge 87 159 hX dX8_lineUp_84 (fun c => absurd c (by decide)) (fun _ => ?_)
                                              refine r_aload_n 88 hX dX8_lineUp_87 rfl ?_
                                              refine r_getR 91 hX dX8_lineUp_88 fX8_42 rfl rfl rfl ?_
                                              refine r_iload 93 hX dX8_lineUp_91 rfl ?_
                                              refine r_ialdV 94 hX dX8_lineUp_93 rfl rfl (vpK rfl) (j := 5) (by decide) (v := f) rfl ?_
                                              refine r_cS1F 97 hX hR tX8_isPlayer dX8_lineUp_94 kX8_isPlayer lX8_75 rfl rfl rfl ?_
                                              refine r_Beq 100 116 hX dX8_lineUp_97 (fun c23 => ?_) (fun c23 => ?_)
                                              · refine r_iconst 117 hX dX8_lineUp_116 (v := 0) (by decide) ?_
                                                refine r_zret hX hT dX8_lineUp_117 (by first | assumption | decide) ?_
                                                clear hT hX hR hlX
                                                exact Or.inr ⟨fun h => by obtain ⟨-, ⟨⟨h1, h2, h3⟩, h4, h5, h6⟩, ⟨⟨h7, h8, h9⟩, h10, h11, h12⟩, -⟩ := h; contradiction, rfl, rfl⟩
                                              · refine r_aload_n 101 hX dX8_lineUp_100 rfl ?_
                                                refine r_getR 104 hX dX8_lineUp_101 fX8_42 rfl rfl rfl ?_
                                                refine r_iload 106 hX dX8_lineUp_104 rfl ?_
                                                refine r_ialdV 107 hX dX8_lineUp_106 rfl rfl (vpK rfl) (j := 5) (by decide) (v := f) rfl ?_
                                                refine r_aload_n 108 hX dX8_lineUp_107 rfl ?_
                                                refine r_getR 111 hX dX8_lineUp_108 fX8_13 rfl rfl rfl ?_
                                                refine r_iload_n 112 hX dX8_lineUp_111 rfl ?_
                                                refine r_ialdV 113 hX dX8_lineUp_112 rfl rfl (vpK rfl) (j := 0) (by decide) (v := M.1 48 0) rfl ?_
                                                refine r_icmp_ne 116 118 hX dX8_lineUp_113 (fun c24 => ?_) (fun c24 => ?_)
                                                · refine r_iconst 119 hX dX8_lineUp_118 (v := 0) (by decide) ?_
                                                  refine r_istore 121 hX dX8_lineUp_119 rfl ?_
                                                  refine r_iload 123 hX dX8_lineUp_121 rfl ?_
                                                  refine r_iload 125 hX dX8_lineUp_123 rfl ?_
                                                  refine r_icmp_ge 128 153 hX dX8_lineUp_125 (fun c => absurd c (by decide)) (fun _ => ?_)
                                                  refine r_aload_n 129 hX dX8_lineUp_128 rfl ?_
                                                  refine r_getR 132 hX dX8_lineUp_129 fX8_42 rfl rfl rfl ?_
                                                  refine r_iload 134 hX dX8_lineUp_132 rfl ?_
                                                  refine r_ialdV 135 hX dX8_lineUp_134 rfl rfl (vpK rfl) (j := 0) (by decide) (v := a) rfl ?_
                                                  refine r_aload_n 136 hX dX8_lineUp_135 rfl ?_
                                                  refine r_getR 139 hX dX8_lineUp_136 fX8_42 rfl rfl rfl ?_
                                                  refine r_iload 141 hX dX8_lineUp_139 rfl ?_
                                                  refine r_ialdV 142 hX dX8_lineUp_141 rfl rfl (vpK rfl) (j := 5) (by decide) (v := f) rfl ?_
                                                  refine r_icmp_ne 145 147 hX dX8_lineUp_142 (fun c25 => ?_) (fun c25 => ?_)
                                                  · refine r_iincK 150 hX dX8_lineUp_147 rfl (w := 1) (by decide) rfl ?_
                                                    refine r_goto 121 hX dX8_lineUp_150 ?_
                                                    refine r_iload 123 hX dX8_lineUp_121 rfl ?_
                                                    refine r_iload 125 hX dX8_lineUp_123 rfl ?_
                                                    refine r_icmp_ge 128 153 hX dX8_lineUp_125 (fun c => absurd c (by decide)) (fun _ => ?_)
                                                    refine r_aload_n 129 hX dX8_lineUp_128 rfl ?_
                                                    refine r_getR 132 hX dX8_lineUp_129 fX8_42 rfl rfl rfl ?_
                                                    refine r_iload 134 hX dX8_lineUp_132 rfl ?_
                                                    refine r_ialdV 135 hX dX8_lineUp_134 rfl rfl (vpK rfl) (j := 1) (by decide) (v := b) rfl ?_
                                                    refine r_aload_n 136 hX dX8_lineUp_135 rfl ?_
                                                    refine r_getR 139 hX dX8_lineUp_136 fX8_42 rfl rfl rfl ?_
                                                    refine r_iload 141 hX dX8_lineUp_139 rfl ?_
                                                    refine r_ialdV 142 hX dX8_lineUp_141 rfl rfl (vpK rfl) (j := 5) (by decide) (v := f) rfl ?_
                                                    refine r_icmp_ne 145 147 hX dX8_lineUp_142 (fun c26 => ?_) (fun c26 => ?_)
                                                    · refine r_iincK 150 hX dX8_lineUp_147 rfl (w := 2) (by decide) rfl ?_
                                                      refine (show mx_WW G X 150 [_, _, _, _, _, _, _, _, _, _] _ _ from ?_)
                                                      refine r_goto 121 hX dX8_lineUp_150 ?_
                                                      refine r_iload 123 hX dX8_lineUp_121 rfl ?_
                                                      refine r_iload 125 hX dX8_lineUp_123 rfl ?_
                                                      refine r_icmp_ge 128 153 hX dX8_lineUp_125 (fun c => absurd c (by decide)) (fun _ => ?_)
                                                      refine r_aload_n 129 hX dX8_lineUp_128 rfl ?_
                                                      refine r_getR 132 hX dX8_lineUp_129 fX8_42 rfl rfl rfl ?_
                                                      refine r_iload 134 hX dX8_lineUp_132 rfl ?_
                                                      refine r_ialdV 135 hX dX8_lineUp_134 rfl rfl (vpK rfl) (j := 2) (by decide) (v := c) rfl ?_
                                                      refine r_aload_n 136 hX dX8_lineUp_135 rfl ?_
                                                      refine r_getR 139 hX dX8_lineUp_136 fX8_42 rfl rfl rfl ?_
                                                      refine r_iload 141 hX dX8_lineUp_139 rfl ?_
                                                      refine r_ialdV 142 hX dX8_lineUp_141 rfl rfl (vpK rfl) (j := 5) (by decide) (v := f) rfl ?_
                                                      refine r_icmp_ne 145 147 hX dX8_lineUp_142 (fun c27 => ?_) (fun c27 => ?_)
                                                      · refine r_iincK 150 hX dX8_lineUp_147 rfl (w := 3) (by decide) rfl ?_
                                                        refine r_goto 121 hX dX8_lineUp_150 ?_
                                                        refine r_iload 123 hX dX8_lineUp_121 rfl ?_
                                                        refine r_iload 125 hX dX8_lineUp_123 rfl ?_
                                                        refine r_icmp_ge 128 153 hX dX8_lineUp_125 (fun c => absurd c (by decide)) (fun _ => ?_)
                                                        refine r_aload_n 129 hX dX8_lineUp_128 rfl ?_
                                                        refine r_getR 132 hX dX8_lineUp_129 fX8_42 rfl rfl rfl ?_
                                                        refine r_iload 134 hX dX8_lineUp_132 rfl ?_
                                                        refine r_ialdV 135 hX dX8_lineUp_134 rfl rfl (vpK rfl) (j := 3) (by decide) (v := d) rfl ?_
                                                        refine r_aload_n 136 hX dX8_lineUp_135 rfl ?_
                                                        refine r_getR 139 hX dX8_lineUp_136 fX8_42 rfl rfl rfl ?_
                                                        refine r_iload 141 hX dX8_lineUp_139 rfl ?_
                                                        refine r_ialdV 142 hX dX8_lineUp_141 rfl rfl (vpK rfl) (j := 5) (by decide) (v := f) rfl ?_
                                                        refine r_icmp_ne 145 147 hX dX8_lineUp_142 (fun c28 => ?_) (fun c28 => ?_)
                                                        · refine r_iincK 150 hX dX8_lineUp_147 rfl (w := 4) (by decide) rfl ?_
                                                          refine r_goto 121 hX dX8_lineUp_150 ?_
                                                          refine r_iload 123 hX dX8_lineUp_121 rfl ?_
                                                          refine r_iload 125 hX dX8_lineUp_123 rfl ?_
                                                          refine r_icmp_ge 128 153 hX dX8_lineUp_125 (fun c => absurd c (by decide)) (fun _ => ?_)
                                                          refine r_aload_n 129 hX dX8_lineUp_128 rfl ?_
                                                          refine r_getR 132 hX dX8_lineUp_129 fX8_42 rfl rfl rfl ?_
                                                          refine r_iload 134 hX dX8_lineUp_132 rfl ?_
                                                          refine r_ialdV 135 hX dX8_lineUp_134 rfl rfl (vpK rfl) (j := 4) (by decide) (v := e) rfl ?_
                                                          refine r_aload_n 136 hX dX8_lineUp_135 rfl ?_
                                                          refine r_getR 139 hX dX8_lineUp_136 fX8_42 rfl rfl rfl ?_
                                                          refine r_iload 141 hX dX8_lineUp_139 rfl ?_
                                                          refine r_ialdV 142 hX dX8_lineUp_141 rfl rfl (vpK rfl) (j := 5) (by decide) (v := f) rfl ?_
                                                          refine r_icmp_ne 145 147 hX dX8_lineUp_142 (fun c29 => ?_) (fun c29 => ?_)
                                                          · refine r_iincK 150 hX dX8_lineUp_147 rfl (w := 5) (by decide) rfl ?_
                                                            refine (show mx_WW G X 150 [_, _, _, _, _, _, _, _, _, _] _ _ from ?_)
                                                            refine r_goto 121 hX dX8_lineUp_150 ?_
                                                            refine r_iload 123 hX dX8_lineUp_121 rfl ?_
                                                            refine r_iload 125 hX dX8_lineUp_123 rfl ?_
                                                            refine r_icmp_ge 128 153 hX dX8_lineUp_125 (fun _ => ?_) (fun c => absurd c (by decide))
                                                            refine r_iincK 156 hX dX8_lineUp_153 rfl (w := 6) (by decide) rfl ?_
                                                            refine r_goto 80 hX dX8_lineUp_156 ?_
                                                            refine r_iload 82 hX dX8_lineUp_80 rfl ?_
                                                            refine r_bipush 84 hX dX8_lineUp_82 (v := 6) (by decide) ?_
                                                            refine r_icmp_ge 87 159 hX dX8_lineUp_84 (fun _ => ?_) (fun c => absurd c (by decide))
                                                            refine r_iconst 160 hX dX8_lineUp_159 (v := 0) (by decide) ?_
                                                            refine r_istore 162 hX dX8_lineUp_160 rfl ?_
                                                            refine r_iload 164 hX dX8_lineUp_162 rfl ?_
                                                            refine r_bipush 166 hX dX8_lineUp_164 (v := 6) (by decide) ?_
                                                            refine r_icmp_ge 169 194 hX dX8_lineUp_166 (fun c => absurd c (by decide)) (fun _ => ?_)
                                                            refine r_aload_n 170 hX dX8_lineUp_169 rfl ?_
                                                            refine r_getR 173 hX dX8_lineUp_170 fX8_19 rfl rfl rfl ?_
                                                            refine r_bipush 175 hX dX8_lineUp_173 (v := 6) (by decide) ?_
                                                            refine r_iload_n 176 hX dX8_lineUp_175 rfl ?_
                                                            refine r_imulK 177 hX dX8_lineUp_176 (w := 0) (by decide) ?_
                                                            refine r_iload 179 hX dX8_lineUp_177 rfl ?_
                                                            refine r_iaddK 180 hX dX8_lineUp_179 (w := 0) (by decide) ?_
                                                            refine r_aload_n 181 hX dX8_lineUp_180 rfl ?_
                                                            refine r_getR 184 hX dX8_lineUp_181 fX8_42 rfl rfl rfl ?_
                                                            refine r_iload 186 hX dX8_lineUp_184 rfl ?_
                                                            refine r_ialdV 187 hX dX8_lineUp_186 rfl rfl (vpK rfl) (j := 0) (by decide) (v := a) rfl ?_
                                                            refine r_iastK 188 hX dX8_lineUp_187 rfl rfl (vpK rfl) (j := 0) (by decide) ?_
                                                            refine r_iincK 191 hX dX8_lineUp_188 rfl (w := 1) (by decide) rfl ?_
                                                            refine (show mx_WW G X 191 [_, _, _, _, _, _, _, _, _, _] _ _ from ?_)
                                                            refine r_goto 162 hX dX8_lineUp_191 ?_
                                                            refine r_iload 164 hX dX8_lineUp_162 rfl ?_
                                                            refine r_bipush 166 hX dX8_lineUp_164 (v := 6) (by decide) ?_
                                                            refine r_icmp_ge 169 194 hX dX8_lineUp_166 (fun c => absurd c (by decide)) (fun _ => ?_)
                                                            refine r_aload_n 170 hX dX8_lineUp_169 rfl ?_
                                                            refine r_getR 173 hX dX8_lineUp_170 fX8_19 rfl rfl rfl ?_
                                                            refine r_bipush 175 hX dX8_lineUp_173 (v := 6) (by decide) ?_
                                                            refine r_iload_n 176 hX dX8_lineUp_175 rfl ?_
                                                            refine r_imulK 177 hX dX8_lineUp_176 (w := 0) (by decide) ?_
                                                            refine r_iload 179 hX dX8_lineUp_177 rfl ?_
                                                            refine r_iaddK 180 hX dX8_lineUp_179 (w := 1) (by decide) ?_
                                                            refine r_aload_n 181 hX dX8_lineUp_180 rfl ?_
                                                            refine r_getR 184 hX dX8_lineUp_181 fX8_42 rfl rfl rfl ?_
                                                            refine r_iload 186 hX dX8_lineUp_184 rfl ?_
                                                            refine r_ialdV 187 hX dX8_lineUp_186 rfl rfl (vpK rfl) (j := 1) (by decide) (v := b) rfl ?_
                                                            refine r_iastK 188 hX dX8_lineUp_187 rfl rfl (vpK rfl) (j := 1) (by decide) ?_
                                                            refine r_iincK 191 hX dX8_lineUp_188 rfl (w := 2) (by decide) rfl ?_
                                                            refine r_goto 162 hX dX8_lineUp_191 ?_
                                                            refine r_iload 164 hX dX8_lineUp_162 rfl ?_
                                                            refine r_bipush 166 hX dX8_lineUp_164 (v := 6) (by decide) ?_
                                                            refine r_icmp_ge 169 194 hX dX8_lineUp_166 (fun c => absurd c (by decide)) (fun _ => ?_)
                                                            refine r_aload_n 170 hX dX8_lineUp_169 rfl ?_
                                                            refine r_getR 173 hX dX8_lineUp_170 fX8_19 rfl rfl rfl ?_
                                                            refine r_bipush 175 hX dX8_lineUp_173 (v := 6) (by decide) ?_
                                                            refine r_iload_n 176 hX dX8_lineUp_175 rfl ?_
                                                            refine r_imulK 177 hX dX8_lineUp_176 (w := 0) (by decide) ?_
                                                            refine r_iload 179 hX dX8_lineUp_177 rfl ?_
                                                            refine r_iaddK 180 hX dX8_lineUp_179 (w := 2) (by decide) ?_
                                                            refine r_aload_n 181 hX dX8_lineUp_180 rfl ?_
                                                            refine r_getR 184 hX dX8_lineUp_181 fX8_42 rfl rfl rfl ?_
                                                            refine r_iload 186 hX dX8_lineUp_184 rfl ?_
                                                            refine r_ialdV 187 hX dX8_lineUp_186 rfl rfl (vpK rfl) (j := 2) (by decide) (v := c) rfl ?_
                                                            refine r_iastK 188 hX dX8_lineUp_187 rfl rfl (vpK rfl) (j := 2) (by decide) ?_
                                                            refine r_iincK 191 hX dX8_lineUp_188 rfl (w := 3) (by decide) rfl ?_
                                                            refine r_goto 162 hX dX8_lineUp_191 ?_
                                                            refine r_iload 164 hX dX8_lineUp_162 rfl ?_
                                                            refine r_bipush 166 hX dX8_lineUp_164 (v := 6) (by decide) ?_
                                                            refine r_icmp_ge 169 194 hX dX8_lineUp_166 (fun c => absurd c (by decide)) (fun _ => ?_)
                                                            refine r_aload_n 170 hX dX8_lineUp_169 rfl ?_
                                                            refine r_getR 173 hX dX8_lineUp_170 fX8_19 rfl rfl rfl ?_
                                                            refine r_bipush 175 hX dX8_lineUp_173 (v := 6) (by decide) ?_
                                                            refine r_iload_n 176 hX dX8_lineUp_175 rfl ?_
                                                            refine r_imulK 177 hX dX8_lineUp_176 (w := 0) (by decide) ?_
                                                            refine r_iload 179 hX dX8_lineUp_177 rfl ?_
                                                            refine r_iaddK 180 hX dX8_lineUp_179 (w := 3) (by decide) ?_
                                                            refine r_aload_n 181 hX dX8_lineUp_180 rfl ?_
                                                            refine r_getR 184 hX dX8_lineUp_181 fX8_42 rfl rfl rfl ?_
                                                            refine r_iload 186 hX dX8_lineUp_184 rfl ?_
                                                            refine r_ialdV 187 hX dX8_lineUp_186 rfl rfl (vpK rfl) (j := 3) (by decide) (v := d) rfl ?_
                                                            refine r_iastK 188 hX dX8_lineUp_187 rfl rfl (vpK rfl) (j := 3) (by decide) ?_
                                                            refine r_iincK 191 hX dX8_lineUp_188 rfl (w := 4) (by decide) rfl ?_
                                                            refine (show mx_WW G X 191 [_, _, _, _, _, _, _, _, _, _] _ _ from ?_)
                                                            refine r_goto 162 hX dX8_lineUp_191 ?_
                                                            refine r_iload 164 hX dX8_lineUp_162 rfl ?_
                                                            refine r_bipush 166 hX dX8_lineUp_164 (v := 6) (by decide) ?_
                                                            refine r_icmp_ge 169 194 hX dX8_lineUp_166 (fun c => absurd c (by decide)) (fun _ => ?_)
                                                            refine r_aload_n 170 hX dX8_lineUp_169 rfl ?_
                                                            refine r_getR 173 hX dX8_lineUp_170 fX8_19 rfl rfl rfl ?_
                                                            refine r_bipush 175 hX dX8_lineUp_173 (v := 6) (by decide) ?_
                                                            refine r_iload_n 176 hX dX8_lineUp_175 rfl ?_
                                                            refine r_imulK 177 hX dX8_lineUp_176 (w := 0) (by decide) ?_
                                                            refine r_iload 179 hX dX8_lineUp_177 rfl ?_
                                                            refine r_iaddK 180 hX dX8_lineUp_179 (w := 4) (by decide) ?_
                                                            refine r_aload_n 181 hX dX8_lineUp_180 rfl ?_
                                                            refine r_getR 184 hX dX8_lineUp_181 fX8_42 rfl rfl rfl ?_
                                                            refine r_iload 186 hX dX8_lineUp_184 rfl ?_
                                                            refine r_ialdV 187 hX dX8_lineUp_186 rfl rfl (vpK rfl) (j := 4) (by decide) (v := e) rfl ?_
                                                            refine r_iastK 188 hX dX8_lineUp_187 rfl rfl (vpK rfl) (j := 4) (by decide) ?_
                                                            refine r_iincK 191 hX dX8_lineUp_188 rfl (w := 5) (by decide) rfl ?_
                                                            refine r_goto 162 hX dX8_lineUp_191 ?_
                                                            refine r_iload 164 hX dX8_lineUp_162 rfl ?_
                                                            refine r_bipush 166 hX dX8_lineUp_164 (v := 6) (by decide) ?_
                                                            refine r_icmp_ge 169 194 hX dX8_lineUp_166 (fun c => absurd c (by decide)) (fun _ => ?_)
                                                            refine r_aload_n 170 hX dX8_lineUp_169 rfl ?_
                                                            refine r_getR 173 hX dX8_lineUp_170 fX8_19 rfl rfl rfl ?_
                                                            refine r_bipush 175 hX dX8_lineUp_173 (v := 6) (by decide) ?_
                                                            refine r_iload_n 176 hX dX8_lineUp_175 rfl ?_
                                                            refine r_imulK 177 hX dX8_lineUp_176 (w := 0) (by decide) ?_
                                                            refine r_iload 179 hX dX8_lineUp_177 rfl ?_
                                                            refine r_iaddK 180 hX dX8_lineUp_179 (w := 5) (by decide) ?_
                                                            refine r_aload_n 181 hX dX8_lineUp_180 rfl ?_
                                                            refine r_getR 184 hX dX8_lineUp_181 fX8_42 rfl rfl rfl ?_
                                                            refine r_iload 186 hX dX8_lineUp_184 rfl ?_
                                                            refine r_ialdV 187 hX dX8_lineUp_186 rfl rfl (vpK rfl) (j := 5) (by decide) (v := f) rfl ?_
                                                            refine r_iastK 188 hX dX8_lineUp_187 rfl rfl (vpK rfl) (j := 5) (by decide) ?_
                                                            refine r_iincK 191 hX dX8_lineUp_188 rfl (w := 6) (by decide) rfl ?_
                                                            refine r_goto 162 hX dX8_lineUp_191 ?_
                                                            refine r_iload 164 hX dX8_lineUp_162 rfl ?_
                                                            refine r_bipush 166 hX dX8_lineUp_164 (v := 6) (by decide) ?_
                                                            refine r_icmp_ge 169 194 hX dX8_lineUp_166 (fun _ => ?_) (fun c => absurd c (by decide))
                                                            refine r_aload_n 195 hX dX8_lineUp_194 rfl ?_
                                                            refine r_getR 198 hX dX8_lineUp_195 fX8_22 rfl rfl rfl ?_
                                                            refine r_iload_n 199 hX dX8_lineUp_198 rfl ?_
                                                            refine r_iconst 200 hX dX8_lineUp_199 (v := 1) (by decide) ?_
                                                            refine r_zastK 201 hX dX8_lineUp_200 rfl rfl (vpK rfl) (j := 0) (by decide) (y := 1) (by decide) ?_
                                                            refine r_iconst 202 hX dX8_lineUp_201 (v := 1) (by decide) ?_
                                                            refine r_zret hX hT dX8_lineUp_202 (by first | assumption | decide) ?_
                                                            clear hT hX hR hlX
                                                            exact Or.inl ⟨⟨⟨c1, c2⟩, ⟨⟨by assumption, by assumption, by assumption⟩, by assumption, by assumption, by assumption⟩, ⟨⟨by assumption, by assumption, by assumption⟩, by assumption, by assumption, by assumption⟩, by assumption, ⟨by assumption, by assumption⟩, ⟨by assumption, by assumption, by assumption⟩, ⟨by assumption, by assumption, by assumption, by assumption⟩, by assumption, by assumption, by assumption, by assumption, by assumption⟩, rfl, rfl⟩
                                                          · refine r_iconst 146 hX dX8_lineUp_145 (v := 0) (by decide) ?_
                                                            refine r_zret hX hT dX8_lineUp_146 (by first | assumption | decide) ?_
                                                            clear hT hX hR hlX
                                                            exact Or.inr ⟨fun h => by obtain ⟨-, -, -, h1, ⟨h2, h3⟩, ⟨h4, h5, h6⟩, ⟨h7, h8, h9, h10⟩, h11, h12, h13, h14, h15⟩ := h; contradiction, rfl, rfl⟩
                                                        · refine r_iconst 146 hX dX8_lineUp_145 (v := 0) (by decide) ?_
                                                          refine r_zret hX hT dX8_lineUp_146 (by first | assumption | decide) ?_
                                                          clear hT hX hR hlX
                                                          exact Or.inr ⟨fun h => by obtain ⟨-, -, -, h1, ⟨h2, h3⟩, ⟨h4, h5, h6⟩, ⟨h7, h8, h9, h10⟩, h11, h12, h13, h14, h15⟩ := h; contradiction, rfl, rfl⟩
                                                      · refine r_iconst 146 hX dX8_lineUp_145 (v := 0) (by decide) ?_
                                                        refine r_zret hX hT dX8_lineUp_146 (by first | assumption | decide) ?_
                                                        clear hT hX hR hlX
                                                        exact Or.inr ⟨fun h => by obtain ⟨-, -, -, h1, ⟨h2, h3⟩, ⟨h4, h5, h6⟩, ⟨h7, h8, h9, h10⟩, h11, h12, h13, h14, h15⟩ := h; contradiction, rfl, rfl⟩
                                                    · refine r_iconst 146 hX dX8_lineUp_145 (v := 0) (by decide) ?_
                                                      refine r_zret hX hT dX8_lineUp_146 (by first | assumption | decide) ?_
                                                      clear hT hX hR hlX
                                                      exact Or.inr ⟨fun h => by obtain ⟨-, -, -, h1, ⟨h2, h3⟩, ⟨h4, h5, h6⟩, ⟨h7, h8, h9, h10⟩, h11, h12, h13, h14, h15⟩ := h; contradiction, rfl, rfl⟩
                                                  · refine r_iconst 146 hX dX8_lineUp_145 (v := 0) (by decide) ?_
                                                    refine r_zret hX hT dX8_lineUp_146 (by first | assumption | decide) ?_
                                                    clear hT hX hR hlX
                                                    exact Or.inr ⟨fun h => by obtain ⟨-, -, -, h1, ⟨h2, h3⟩, ⟨h4, h5, h6⟩, ⟨h7, h8, h9, h10⟩, h11, h12, h13, h14, h15⟩ := h; contradiction, rfl, rfl⟩
                                                · refine r_iconst 117 hX dX8_lineUp_116 (v := 0) (by decide) ?_
                                                  refine r_zret hX hT dX8_lineUp_117 (by first | assumption | decide) ?_
                                                  clear hT hX hR hlX
                                                  exact Or.inr ⟨fun h => by obtain ⟨-, ⟨⟨h1, h2, h3⟩, h4, h5, h6⟩, ⟨⟨h7, h8, h9⟩, h10, h11, h12⟩, -⟩ := h; contradiction, rfl, rfl⟩
                                            · refine r_iconst 146 hX dX8_lineUp_145 (v := 0) (by decide) ?_
                                              refine r_zret hX hT dX8_lineUp_146 (by first | assumption | decide) ?_
                                              clear hT hX hR hlX
                                              exact Or.inr ⟨fun h => by obtain ⟨-, -, -, h1, ⟨h2, h3⟩, ⟨h4, h5, h6⟩, ⟨h7, h8, h9, h10⟩, h11, h12, h13, h14, h15⟩ := h; contradiction, rfl, rfl⟩
                                          · refine r_iconst 146 hX dX8_lineUp_145 (v := 0) (by decide) ?_
                                            refine r_zret hX hT dX8_lineUp_146 (by first | assumption | decide) ?_
                                            clear hT hX hR hlX
                                            exact Or.inr ⟨fun h => by obtain ⟨-, -, -, h1, ⟨h2, h3⟩, ⟨h4, h5, h6⟩, ⟨h7, h8, h9, h10⟩, h11, h12, h13, h14, h15⟩ := h; contradiction, rfl, rfl⟩
                                        · refine r_iconst 146 hX dX8_lineUp_145 (v := 0) (by decide) ?_
                                          refine r_zret hX hT dX8_lineUp_146 (by first | assumption | decide) ?_
                                          clear hT hX hR hlX
                                          exact Or.inr ⟨fun h => by obtain ⟨-, -, -, h1, ⟨h2, h3⟩, ⟨h4, h5, h6⟩, ⟨h7, h8, h9, h10⟩, h11, h12, h13, h14, h15⟩ := h; contradiction, rfl, rfl⟩
                                      · refine r_iconst 146 hX dX8_lineUp_145 (v := 0) (by decide) ?_
                                        refine r_zret hX hT dX8_lineUp_146 (by first | assumption | decide) ?_
                                        clear hT hX hR hlX
                                        exact Or.inr ⟨fun h => by obtain ⟨-, -, -, h1, ⟨h2, h3⟩, ⟨h4, h5, h6⟩, ⟨h7, h8, h9, h10⟩, h11, h12, h13, h14, h15⟩ := h; contradiction, rfl, rfl⟩
                                    · refine r_iconst 117 hX dX8_lineUp_116 (v := 0) (by decide) ?_
                                      refine r_zret hX hT dX8_lineUp_117 (by first | assumption | decide) ?_
                                      clear hT hX hR hlX
                                      exact Or.inr ⟨fun h => by obtain ⟨-, ⟨⟨h1, h2, h3⟩, h4, h5, h6⟩, ⟨⟨h7, h8, h9⟩, h10, h11, h12⟩, -⟩ := h; contradiction, rfl, rfl⟩
                                · refine r_iconst 146 hX dX8_lineUp_145 (v := 0) (by decide) ?_
                                  refine r_zret hX hT dX8_lineUp_146 (by first | assumption | decide) ?_
                                  clear hT hX hR hlX
                                  exact Or.inr ⟨fun h => by obtain ⟨-, -, -, h1, ⟨h2, h3⟩, ⟨h4, h5, h6⟩, ⟨h7, h8, h9, h10⟩, h11, h12, h13, h14, h15⟩ := h; contradiction, rfl, rfl⟩
                              · refine r_iconst 146 hX dX8_lineUp_145 (v := 0) (by decide) ?_
                                refine r_zret hX hT dX8_lineUp_146 (by first | assumption | decide) ?_
                                clear hT hX hR hlX
                                exact Or.inr ⟨fun h => by obtain ⟨-, -, -, h1, ⟨h2, h3⟩, ⟨h4, h5, h6⟩, ⟨h7, h8, h9, h10⟩, h11, h12, h13, h14, h15⟩ := h; contradiction, rfl, rfl⟩
                            · refine r_iconst 146 hX dX8_lineUp_145 (v := 0) (by decide) ?_
                              refine r_zret hX hT dX8_lineUp_146 (by first | assumption | decide) ?_
                              clear hT hX hR hlX
                              exact Or.inr ⟨fun h => by obtain ⟨-, -, -, h1, ⟨h2, h3⟩, ⟨h4, h5, h6⟩, ⟨h7, h8, h9, h10⟩, h11, h12, h13, h14, h15⟩ := h; contradiction, rfl, rfl⟩
                          · refine r_iconst 117 hX dX8_lineUp_116 (v := 0) (by decide) ?_
                            refine r_zret hX hT dX8_lineUp_117 (by first | assumption | decide) ?_
                            clear hT hX hR hlX
                            exact Or.inr ⟨fun h => by obtain ⟨-, ⟨⟨h1, h2, h3⟩, h4, h5, h6⟩, ⟨⟨h7, h8, h9⟩, h10, h11, h12⟩, -⟩ := h; contradiction, rfl, rfl⟩
                      · refine r_iconst 146 hX dX8_lineUp_145 (v := 0) (by decide) ?_
                        refine r_zret hX hT dX8_lineUp_146 (by first | assumption | decide) ?_
                        clear hT hX hR hlX
                        exact Or.inr ⟨fun h => by obtain ⟨-, -, -, h1, ⟨h2, h3⟩, ⟨h4, h5, h6⟩, ⟨h7, h8, h9, h10⟩, h11, h12, h13, h14, h15⟩ := h; contradiction, rfl, rfl⟩
                    · refine r_iconst 146 hX dX8_lineUp_145 (v := 0) (by decide) ?_
                      refine r_zret hX hT dX8_lineUp_146 (by first | assumption | decide) ?_
                      clear hT hX hR hlX
                      exact Or.inr ⟨fun h => by obtain ⟨-, -, -, h1, ⟨h2, h3⟩, ⟨h4, h5, h6⟩, ⟨h7, h8, h9, h10⟩, h11, h12, h13, h14, h15⟩ := h; contradiction, rfl, rfl⟩
                  · refine r_iconst 117 hX dX8_lineUp_116 (v := 0) (by decide) ?_
                    refine r_zret hX hT dX8_lineUp_117 (by first | assumption | decide) ?_
                    clear hT hX hR hlX
                    exact Or.inr ⟨fun h => by obtain ⟨-, ⟨⟨h1, h2, h3⟩, h4, h5, h6⟩, ⟨⟨h7, h8, h9⟩, h10, h11, h12⟩, -⟩ := h; contradiction, rfl, rfl⟩
              · refine r_iconst 146 hX dX8_lineUp_145 (v := 0) (by decide) ?_
                refine r_zret hX hT dX8_lineUp_146 (by first | assumption | decide) ?_
                clear hT hX hR hlX
                exact Or.inr ⟨fun h => by obtain ⟨-, -, -, h1, ⟨h2, h3⟩, ⟨h4, h5, h6⟩, ⟨h7, h8, h9, h10⟩, h11, h12, h13, h14, h15⟩ := h; contradiction, rfl, rfl⟩
            · refine r_iconst 117 hX dX8_lineUp_116 (v := 0) (by decide) ?_
              refine r_zret hX hT dX8_lineUp_117 (by first | assumption | decide) ?_
              clear hT hX hR hlX
              exact Or.inr ⟨fun h => by obtain ⟨-, ⟨⟨h1, h2, h3⟩, h4, h5, h6⟩, ⟨⟨h7, h8, h9⟩, h10, h11, h12⟩, -⟩ := h; contradiction, rfl, rfl⟩
        · refine r_iconst 117 hX dX8_lineUp_116 (v := 0) (by decide) ?_
          refine r_zret hX hT dX8_lineUp_117 (by first | assumption | decide) ?_
          clear hT hX hR hlX
          exact Or.inr ⟨fun h => by obtain ⟨-, ⟨⟨h1, h2, h3⟩, h4, h5, h6⟩, ⟨⟨h7, h8, h9⟩, h10, h11, h12⟩, -⟩ := h; contradiction, rfl, rfl⟩
    · refine r_iconst 76 hX dX8_lineUp_75 (v := 0) (by decide) ?_
      refine r_zret hX hT dX8_lineUp_76 (by first | assumption | decide) ?_
      clear hT hX hR hlX
      exact Or.inr ⟨fun h => by first | exact h.1.1 c1 | exact c2 h.1.2, rfl, rfl⟩
def mtl_1 (N : mx_Mem) (a b c d e f : Int32) : mx_Mem := mI (mI (mI (mI (mI (mI (mI N 50 6 a) 50 7 b) 50 8 c) 50 9 d) 50 10 e) 50 11 f) 51 1 1
set_option maxRecDepth 100000 in
set_option maxHeartbeats 4000000 in
theorem tX8_lineUp_1 {l : Launch} {G : mx_G} {a b c d e f : Int32} {M : mx_Mem} : mx_Met l G yX8_lineUp cX8_lineUp 10 ((some FieldType.boolean)) 2 42 [.ref 46, .int 1, .int a, .int b, .int c, .int d, .int e, .int f] M (fun r M' => (mluC M (M.1 48 1) a b c d e f ∧ r = some (.int 1) ∧ M' = mtl_1 (six6 M a b c d e f) a b c d e f) ∨ (¬ mluC M (M.1 48 1) a b c d e f ∧ r = some (.int 0) ∧ M' = six6 M a b c d e f)) := by
  refine mx_enter (own := RX8) (L := [.ref 46, .int 1, .int a, .int b, .int c, .int d, .int e, .int f, .null, .null]) (by decide +kernel) rfl rfl rfl ?_
  intro X hlX hX hR hT
  refine r_aload_n 1 hX dX8_lineUp_0 rfl ?_
  refine r_iconst 2 hX dX8_lineUp_1 (v := 0) (by decide) ?_
  refine r_putI 5 hX dX8_lineUp_2 fX8_63 fp8_13 rfl rfl rfl ?_
  refine r_aload_n 6 hX dX8_lineUp_5 rfl ?_
  refine r_getR 9 hX dX8_lineUp_6 fX8_42 rfl rfl rfl ?_
  refine r_iconst 10 hX dX8_lineUp_9 (v := 0) (by decide) ?_
  refine r_iload_n 11 hX dX8_lineUp_10 rfl ?_
  refine r_iastK 12 hX dX8_lineUp_11 rfl rfl (vpK rfl) (j := 0) (by decide) ?_
  refine r_aload_n 13 hX dX8_lineUp_12 rfl ?_
  refine r_getR 16 hX dX8_lineUp_13 fX8_42 rfl rfl rfl ?_
  refine r_iconst 17 hX dX8_lineUp_16 (v := 1) (by decide) ?_
  refine r_iload_n 18 hX dX8_lineUp_17 rfl ?_
  refine r_iastK 19 hX dX8_lineUp_18 rfl rfl (vpK rfl) (j := 1) (by decide) ?_
  refine r_aload_n 20 hX dX8_lineUp_19 rfl ?_
  refine r_getR 23 hX dX8_lineUp_20 fX8_42 rfl rfl rfl ?_
  refine r_iconst 24 hX dX8_lineUp_23 (v := 2) (by decide) ?_
  refine r_iload 26 hX dX8_lineUp_24 rfl ?_
  refine r_iastK 27 hX dX8_lineUp_26 rfl rfl (vpK rfl) (j := 2) (by decide) ?_
  refine r_aload_n 28 hX dX8_lineUp_27 rfl ?_
  refine r_getR 31 hX dX8_lineUp_28 fX8_42 rfl rfl rfl ?_
  refine r_iconst 32 hX dX8_lineUp_31 (v := 3) (by decide) ?_
  refine r_iload 34 hX dX8_lineUp_32 rfl ?_
  refine r_iastK 35 hX dX8_lineUp_34 rfl rfl (vpK rfl) (j := 3) (by decide) ?_
  refine r_aload_n 36 hX dX8_lineUp_35 rfl ?_
  refine r_getR 39 hX dX8_lineUp_36 fX8_42 rfl rfl rfl ?_
  refine r_iconst 40 hX dX8_lineUp_39 (v := 4) (by decide) ?_
  refine r_iload 42 hX dX8_lineUp_40 rfl ?_
  refine r_iastK 43 hX dX8_lineUp_42 rfl rfl (vpK rfl) (j := 4) (by decide) ?_
  refine r_aload_n 44 hX dX8_lineUp_43 rfl ?_
  refine r_getR 47 hX dX8_lineUp_44 fX8_42 rfl rfl rfl ?_
  refine r_iconst 48 hX dX8_lineUp_47 (v := 5) (by decide) ?_
  refine r_iload 50 hX dX8_lineUp_48 rfl ?_
  refine r_iastK 51 hX dX8_lineUp_50 rfl rfl (vpK rfl) (j := 5) (by decide) ?_
  refine r_iload_n 52 hX dX8_lineUp_51 rfl ?_
  refine r_cS1F 55 hX hR tX8_isTeam_1 dX8_lineUp_52 kX8_isTeam lX8_71 rfl rfl rfl ?_
  refine r_if_eq 58 75 hX dX8_lineUp_55 (fun c => absurd c (by decide)) (fun _ => ?_)
  refine r_aload_n 59 hX dX8_lineUp_58 rfl ?_
  refine r_cV0F 62 hX hR tX8_isOn dX8_lineUp_59 kX8_isOn lX8_82 rfl rfl rfl rfl rfl rfl ?_
  refine r_Bne 65 75 hX dX8_lineUp_62 (fun c1 => ?_) (fun c1 => ?_)
  · refine r_iconst 76 hX dX8_lineUp_75 (v := 0) (by decide) ?_
    refine r_zret hX hT dX8_lineUp_76 (by first | assumption | decide) ?_
    clear hT hX hR hlX
    exact Or.inr ⟨fun h => by first | exact h.1.1 c1 | exact c2 h.1.2, rfl, rfl⟩
  · refine r_aload_n 66 hX dX8_lineUp_65 rfl ?_
    refine r_getR 69 hX dX8_lineUp_66 fX8_26 rfl rfl rfl ?_
    refine r_iconst 70 hX dX8_lineUp_69 (v := 4) (by decide) ?_
    refine r_ialdV 71 hX dX8_lineUp_70 rfl rfl (vpK rfl) (j := 4) (by decide) (v := M.1 52 4) rfl ?_
    refine r_iconst 72 hX dX8_lineUp_71 (v := -1) (by decide) ?_
    refine r_icmp_eq 75 77 hX dX8_lineUp_72 (fun c2 => ?_) (fun c2 => ?_)
    · refine r_iconst 78 hX dX8_lineUp_77 (v := 0) (by decide) ?_
      refine r_istore 80 hX dX8_lineUp_78 rfl ?_
      refine r_iload 82 hX dX8_lineUp_80 rfl ?_
      refine r_bipush 84 hX dX8_lineUp_82 (v := 6) (by decide) ?_
      refine r_icmp_ge 87 159 hX dX8_lineUp_84 (fun c => absurd c (by decide)) (fun _ => ?_)
      refine r_aload_n 88 hX dX8_lineUp_87 rfl ?_
      refine r_getR 91 hX dX8_lineUp_88 fX8_42 rfl rfl rfl ?_
      refine r_iload 93 hX dX8_lineUp_91 rfl ?_
      refine r_ialdV 94 hX dX8_lineUp_93 rfl rfl (vpK rfl) (j := 0) (by decide) (v := a) rfl ?_
      refine r_cS1F 97 hX hR tX8_isPlayer dX8_lineUp_94 kX8_isPlayer lX8_75 rfl rfl rfl ?_
      refine r_Beq 100 116 hX dX8_lineUp_97 (fun c3 => ?_) (fun c3 => ?_)
      · refine r_iconst 117 hX dX8_lineUp_116 (v := 0) (by decide) ?_
        refine r_zret hX hT dX8_lineUp_117 (by first | assumption | decide) ?_
        clear hT hX hR hlX
        exact Or.inr ⟨fun h => by obtain ⟨-, ⟨⟨h1, h2, h3⟩, h4, h5, h6⟩, ⟨⟨h7, h8, h9⟩, h10, h11, h12⟩, -⟩ := h; contradiction, rfl, rfl⟩
      · refine r_aload_n 101 hX dX8_lineUp_100 rfl ?_
        refine r_getR 104 hX dX8_lineUp_101 fX8_42 rfl rfl rfl ?_
        refine r_iload 106 hX dX8_lineUp_104 rfl ?_
        refine r_ialdV 107 hX dX8_lineUp_106 rfl rfl (vpK rfl) (j := 0) (by decide) (v := a) rfl ?_
        refine r_aload_n 108 hX dX8_lineUp_107 rfl ?_
        refine r_getR 111 hX dX8_lineUp_108 fX8_13 rfl rfl rfl ?_
        refine r_iload_n 112 hX dX8_lineUp_111 rfl ?_
        refine r_ialdV 113 hX dX8_lineUp_112 rfl rfl (vpK rfl) (j := 1) (by decide) (v := M.1 48 1) rfl ?_
        refine r_icmp_ne 116 118 hX dX8_lineUp_113 (fun c4 => ?_) (fun c4 => ?_)
        · refine r_iconst 119 hX dX8_lineUp_118 (v := 0) (by decide) ?_
          refine r_istore 121 hX dX8_lineUp_119 rfl ?_
          refine r_iload 123 hX dX8_lineUp_121 rfl ?_
          refine r_iload 125 hX dX8_lineUp_123 rfl ?_
          refine r_icmp_ge 128 153 hX dX8_lineUp_125 (fun _ => ?_) (fun c => absurd c (by decide))
          refine r_iincK 156 hX dX8_lineUp_153 rfl (w := 1) (by decide) rfl ?_
          refine (show mx_WW G X 156 [_, _, _, _, _, _, _, _, _, _] _ _ from ?_)
          refine r_goto 80 hX dX8_lineUp_156 ?_
          refine r_iload 82 hX dX8_lineUp_80 rfl ?_
          refine r_bipush 84 hX dX8_lineUp_82 (v := 6) (by decide) ?_
          refine r_icmp_ge 87 159 hX dX8_lineUp_84 (fun c => absurd c (by decide)) (fun _ => ?_)
          refine r_aload_n 88 hX dX8_lineUp_87 rfl ?_
          refine r_getR 91 hX dX8_lineUp_88 fX8_42 rfl rfl rfl ?_
          refine r_iload 93 hX dX8_lineUp_91 rfl ?_
          refine r_ialdV 94 hX dX8_lineUp_93 rfl rfl (vpK rfl) (j := 1) (by decide) (v := b) rfl ?_
          refine r_cS1F 97 hX hR tX8_isPlayer dX8_lineUp_94 kX8_isPlayer lX8_75 rfl rfl rfl ?_
          refine r_Beq 100 116 hX dX8_lineUp_97 (fun c5 => ?_) (fun c5 => ?_)
          · refine r_iconst 117 hX dX8_lineUp_116 (v := 0) (by decide) ?_
            refine r_zret hX hT dX8_lineUp_117 (by first | assumption | decide) ?_
            clear hT hX hR hlX
            exact Or.inr ⟨fun h => by obtain ⟨-, ⟨⟨h1, h2, h3⟩, h4, h5, h6⟩, ⟨⟨h7, h8, h9⟩, h10, h11, h12⟩, -⟩ := h; contradiction, rfl, rfl⟩
          · refine r_aload_n 101 hX dX8_lineUp_100 rfl ?_
            refine r_getR 104 hX dX8_lineUp_101 fX8_42 rfl rfl rfl ?_
            refine r_iload 106 hX dX8_lineUp_104 rfl ?_
            refine r_ialdV 107 hX dX8_lineUp_106 rfl rfl (vpK rfl) (j := 1) (by decide) (v := b) rfl ?_
            refine r_aload_n 108 hX dX8_lineUp_107 rfl ?_
            refine r_getR 111 hX dX8_lineUp_108 fX8_13 rfl rfl rfl ?_
            refine r_iload_n 112 hX dX8_lineUp_111 rfl ?_
            refine r_ialdV 113 hX dX8_lineUp_112 rfl rfl (vpK rfl) (j := 1) (by decide) (v := M.1 48 1) rfl ?_
            refine r_icmp_ne 116 118 hX dX8_lineUp_113 (fun c6 => ?_) (fun c6 => ?_)
            · refine r_iconst 119 hX dX8_lineUp_118 (v := 0) (by decide) ?_
              refine r_istore 121 hX dX8_lineUp_119 rfl ?_
              refine r_iload 123 hX dX8_lineUp_121 rfl ?_
              refine r_iload 125 hX dX8_lineUp_123 rfl ?_
              refine r_icmp_ge 128 153 hX dX8_lineUp_125 (fun c => absurd c (by decide)) (fun _ => ?_)
              refine r_aload_n 129 hX dX8_lineUp_128 rfl ?_
              refine r_getR 132 hX dX8_lineUp_129 fX8_42 rfl rfl rfl ?_
              refine r_iload 134 hX dX8_lineUp_132 rfl ?_
              refine r_ialdV 135 hX dX8_lineUp_134 rfl rfl (vpK rfl) (j := 0) (by decide) (v := a) rfl ?_
              refine r_aload_n 136 hX dX8_lineUp_135 rfl ?_
              refine r_getR 139 hX dX8_lineUp_136 fX8_42 rfl rfl rfl ?_
              refine r_iload 141 hX dX8_lineUp_139 rfl ?_
              refine r_ialdV 142 hX dX8_lineUp_141 rfl rfl (vpK rfl) (j := 1) (by decide) (v := b) rfl ?_
              refine r_icmp_ne 145 147 hX dX8_lineUp_142 (fun c7 => ?_) (fun c7 => ?_)
              · refine r_iincK 150 hX dX8_lineUp_147 rfl (w := 1) (by decide) rfl ?_
                refine r_goto 121 hX dX8_lineUp_150 ?_
                refine r_iload 123 hX dX8_lineUp_121 rfl ?_
                refine r_iload 125 hX dX8_lineUp_123 rfl ?_
                refine r_icmp_ge 128 153 hX dX8_lineUp_125 (fun _ => ?_) (fun c => absurd c (by decide))
                refine r_iincK 156 hX dX8_lineUp_153 rfl (w := 2) (by decide) rfl ?_
                refine (show mx_WW G X 156 [_, _, _, _, _, _, _, _, _, _] _ _ from ?_)
                refine r_goto 80 hX dX8_lineUp_156 ?_
                refine r_iload 82 hX dX8_lineUp_80 rfl ?_
                refine r_bipush 84 hX dX8_lineUp_82 (v := 6) (by decide) ?_
                refine r_icmp_ge 87 159 hX dX8_lineUp_84 (fun c => absurd c (by decide)) (fun _ => ?_)
                refine r_aload_n 88 hX dX8_lineUp_87 rfl ?_
                refine r_getR 91 hX dX8_lineUp_88 fX8_42 rfl rfl rfl ?_
                refine r_iload 93 hX dX8_lineUp_91 rfl ?_
                refine r_ialdV 94 hX dX8_lineUp_93 rfl rfl (vpK rfl) (j := 2) (by decide) (v := c) rfl ?_
                refine r_cS1F 97 hX hR tX8_isPlayer dX8_lineUp_94 kX8_isPlayer lX8_75 rfl rfl rfl ?_
                refine r_Beq 100 116 hX dX8_lineUp_97 (fun c8 => ?_) (fun c8 => ?_)
                · refine r_iconst 117 hX dX8_lineUp_116 (v := 0) (by decide) ?_
                  refine r_zret hX hT dX8_lineUp_117 (by first | assumption | decide) ?_
                  clear hT hX hR hlX
                  exact Or.inr ⟨fun h => by obtain ⟨-, ⟨⟨h1, h2, h3⟩, h4, h5, h6⟩, ⟨⟨h7, h8, h9⟩, h10, h11, h12⟩, -⟩ := h; contradiction, rfl, rfl⟩
                · refine r_aload_n 101 hX dX8_lineUp_100 rfl ?_
                  refine r_getR 104 hX dX8_lineUp_101 fX8_42 rfl rfl rfl ?_
                  refine r_iload 106 hX dX8_lineUp_104 rfl ?_
                  refine r_ialdV 107 hX dX8_lineUp_106 rfl rfl (vpK rfl) (j := 2) (by decide) (v := c) rfl ?_
                  refine r_aload_n 108 hX dX8_lineUp_107 rfl ?_
                  refine r_getR 111 hX dX8_lineUp_108 fX8_13 rfl rfl rfl ?_
                  refine r_iload_n 112 hX dX8_lineUp_111 rfl ?_
                  refine r_ialdV 113 hX dX8_lineUp_112 rfl rfl (vpK rfl) (j := 1) (by decide) (v := M.1 48 1) rfl ?_
                  refine r_icmp_ne 116 118 hX dX8_lineUp_113 (fun c9 => ?_) (fun c9 => ?_)
                  · refine r_iconst 119 hX dX8_lineUp_118 (v := 0) (by decide) ?_
                    refine r_istore 121 hX dX8_lineUp_119 rfl ?_
                    refine r_iload 123 hX dX8_lineUp_121 rfl ?_
                    refine r_iload 125 hX dX8_lineUp_123 rfl ?_
                    refine r_icmp_ge 128 153 hX dX8_lineUp_125 (fun c => absurd c (by decide)) (fun _ => ?_)
                    refine r_aload_n 129 hX dX8_lineUp_128 rfl ?_
                    refine r_getR 132 hX dX8_lineUp_129 fX8_42 rfl rfl rfl ?_
                    refine r_iload 134 hX dX8_lineUp_132 rfl ?_
                    refine r_ialdV 135 hX dX8_lineUp_134 rfl rfl (vpK rfl) (j := 0) (by decide) (v := a) rfl ?_
                    refine r_aload_n 136 hX dX8_lineUp_135 rfl ?_
                    refine r_getR 139 hX dX8_lineUp_136 fX8_42 rfl rfl rfl ?_
                    refine r_iload 141 hX dX8_lineUp_139 rfl ?_
                    refine r_ialdV 142 hX dX8_lineUp_141 rfl rfl (vpK rfl) (j := 2) (by decide) (v := c) rfl ?_
                    refine r_icmp_ne 145 147 hX dX8_lineUp_142 (fun c10 => ?_) (fun c10 => ?_)
                    · refine r_iincK 150 hX dX8_lineUp_147 rfl (w := 1) (by decide) rfl ?_
                      refine r_goto 121 hX dX8_lineUp_150 ?_
                      refine r_iload 123 hX dX8_lineUp_121 rfl ?_
                      refine r_iload 125 hX dX8_lineUp_123 rfl ?_
                      refine r_icmp_ge 128 153 hX dX8_lineUp_125 (fun c => absurd c (by decide)) (fun _ => ?_)
                      refine r_aload_n 129 hX dX8_lineUp_128 rfl ?_
                      refine r_getR 132 hX dX8_lineUp_129 fX8_42 rfl rfl rfl ?_
                      refine r_iload 134 hX dX8_lineUp_132 rfl ?_
                      refine r_ialdV 135 hX dX8_lineUp_134 rfl rfl (vpK rfl) (j := 1) (by decide) (v := b) rfl ?_
                      refine r_aload_n 136 hX dX8_lineUp_135 rfl ?_
                      refine r_getR 139 hX dX8_lineUp_136 fX8_42 rfl rfl rfl ?_
                      refine r_iload 141 hX dX8_lineUp_139 rfl ?_
                      refine r_ialdV 142 hX dX8_lineUp_141 rfl rfl (vpK rfl) (j := 2) (by decide) (v := c) rfl ?_
                      refine r_icmp_ne 145 147 hX dX8_lineUp_142 (fun c11 => ?_) (fun c11 => ?_)
                      · refine r_iincK 150 hX dX8_lineUp_147 rfl (w := 2) (by decide) rfl ?_
                        refine (show mx_WW G X 150 [_, _, _, _, _, _, _, _, _, _] _ _ from ?_)
                        refine r_goto 121 hX dX8_lineUp_150 ?_
                        refine r_iload 123 hX dX8_lineUp_121 rfl ?_
                        refine r_iload 125 hX dX8_lineUp_123 rfl ?_
                        refine r_icmp_ge 128 153 hX dX8_lineUp_125 (fun _ => ?_) (fun c => absurd c (by decide))
                        refine r_iincK 156 hX dX8_lineUp_153 rfl (w := 3) (by decide) rfl ?_
                        refine r_goto 80 hX dX8_lineUp_156 ?_
                        refine r_iload 82 hX dX8_lineUp_80 rfl ?_
                        refine r_bipush 84 hX dX8_lineUp_82 (v := 6) (by decide) ?_
                        refine r_icmp_ge 87 159 hX dX8_lineUp_84 (fun c => absurd c (by decide)) (fun _ => ?_)
                        refine r_aload_n 88 hX dX8_lineUp_87 rfl ?_
                        refine r_getR 91 hX dX8_lineUp_88 fX8_42 rfl rfl rfl ?_
                        refine r_iload 93 hX dX8_lineUp_91 rfl ?_
                        refine r_ialdV 94 hX dX8_lineUp_93 rfl rfl (vpK rfl) (j := 3) (by decide) (v := d) rfl ?_
                        refine r_cS1F 97 hX hR tX8_isPlayer dX8_lineUp_94 kX8_isPlayer lX8_75 rfl rfl rfl ?_
                        refine r_Beq 100 116 hX dX8_lineUp_97 (fun c12 => ?_) (fun c12 => ?_)
                        · refine r_iconst 117 hX dX8_lineUp_116 (v := 0) (by decide) ?_
                          refine r_zret hX hT dX8_lineUp_117 (by first | assumption | decide) ?_
                          clear hT hX hR hlX
                          exact Or.inr ⟨fun h => by obtain ⟨-, ⟨⟨h1, h2, h3⟩, h4, h5, h6⟩, ⟨⟨h7, h8, h9⟩, h10, h11, h12⟩, -⟩ := h; contradiction, rfl, rfl⟩
                        · refine r_aload_n 101 hX dX8_lineUp_100 rfl ?_
                          refine r_getR 104 hX dX8_lineUp_101 fX8_42 rfl rfl rfl ?_
                          refine r_iload 106 hX dX8_lineUp_104 rfl ?_
                          refine r_ialdV 107 hX dX8_lineUp_106 rfl rfl (vpK rfl) (j := 3) (by decide) (v := d) rfl ?_
                          refine r_aload_n 108 hX dX8_lineUp_107 rfl ?_
                          refine r_getR 111 hX dX8_lineUp_108 fX8_13 rfl rfl rfl ?_
                          refine r_iload_n 112 hX dX8_lineUp_111 rfl ?_
                          refine r_ialdV 113 hX dX8_lineUp_112 rfl rfl (vpK rfl) (j := 1) (by decide) (v := M.1 48 1) rfl ?_
                          refine r_icmp_ne 116 118 hX dX8_lineUp_113 (fun c13 => ?_) (fun c13 => ?_)
                          · refine r_iconst 119 hX dX8_lineUp_118 (v := 0) (by decide) ?_
                            refine r_istore 121 hX dX8_lineUp_119 rfl ?_
                            refine r_iload 123 hX dX8_lineUp_121 rfl ?_
                            refine r_iload 125 hX dX8_lineUp_123 rfl ?_
                            refine r_icmp_ge 128 153 hX dX8_lineUp_125 (fun c => absurd c (by decide)) (fun _ => ?_)
                            refine r_aload_n 129 hX dX8_lineUp_128 rfl ?_
                            refine r_getR 132 hX dX8_lineUp_129 fX8_42 rfl rfl rfl ?_
                            refine r_iload 134 hX dX8_lineUp_132 rfl ?_
                            refine r_ialdV 135 hX dX8_lineUp_134 rfl rfl (vpK rfl) (j := 0) (by decide) (v := a) rfl ?_
                            refine r_aload_n 136 hX dX8_lineUp_135 rfl ?_
                            refine r_getR 139 hX dX8_lineUp_136 fX8_42 rfl rfl rfl ?_
                            refine r_iload 141 hX dX8_lineUp_139 rfl ?_
                            refine r_ialdV 142 hX dX8_lineUp_141 rfl rfl (vpK rfl) (j := 3) (by decide) (v := d) rfl ?_
                            refine r_icmp_ne 145 147 hX dX8_lineUp_142 (fun c14 => ?_) (fun c14 => ?_)
                            · refine r_iincK 150 hX dX8_lineUp_147 rfl (w := 1) (by decide) rfl ?_
                              refine (show mx_WW G X 150 [_, _, _, _, _, _, _, _, _, _] _ _ from ?_)
                              refine r_goto 121 hX dX8_lineUp_150 ?_
                              refine r_iload 123 hX dX8_lineUp_121 rfl ?_
                              refine r_iload 125 hX dX8_lineUp_123 rfl ?_
                              refine r_icmp_ge 128 153 hX dX8_lineUp_125 (fun c => absurd c (by decide)) (fun _ => ?_)
                              refine r_aload_n 129 hX dX8_lineUp_128 rfl ?_
                              refine r_getR 132 hX dX8_lineUp_129 fX8_42 rfl rfl rfl ?_
                              refine r_iload 134 hX dX8_lineUp_132 rfl ?_
                              refine r_ialdV 135 hX dX8_lineUp_134 rfl rfl (vpK rfl) (j := 1) (by decide) (v := b) rfl ?_
                              refine r_aload_n 136 hX dX8_lineUp_135 rfl ?_
                              refine r_getR 139 hX dX8_lineUp_136 fX8_42 rfl rfl rfl ?_
                              refine r_iload 141 hX dX8_lineUp_139 rfl ?_
                              refine r_ialdV 142 hX dX8_lineUp_141 rfl rfl (vpK rfl) (j := 3) (by decide) (v := d) rfl ?_
                              refine r_icmp_ne 145 147 hX dX8_lineUp_142 (fun c15 => ?_) (fun c15 => ?_)
                              · refine r_iincK 150 hX dX8_lineUp_147 rfl (w := 2) (by decide) rfl ?_
                                refine r_goto 121 hX dX8_lineUp_150 ?_
                                refine r_iload 123 hX dX8_lineUp_121 rfl ?_
                                refine r_iload 125 hX dX8_lineUp_123 rfl ?_
                                refine r_icmp_ge 128 153 hX dX8_lineUp_125 (fun c => absurd c (by decide)) (fun _ => ?_)
                                refine r_aload_n 129 hX dX8_lineUp_128 rfl ?_
                                refine r_getR 132 hX dX8_lineUp_129 fX8_42 rfl rfl rfl ?_
                                refine r_iload 134 hX dX8_lineUp_132 rfl ?_
                                refine r_ialdV 135 hX dX8_lineUp_134 rfl rfl (vpK rfl) (j := 2) (by decide) (v := c) rfl ?_
                                refine r_aload_n 136 hX dX8_lineUp_135 rfl ?_
                                refine r_getR 139 hX dX8_lineUp_136 fX8_42 rfl rfl rfl ?_
                                refine r_iload 141 hX dX8_lineUp_139 rfl ?_
                                refine r_ialdV 142 hX dX8_lineUp_141 rfl rfl (vpK rfl) (j := 3) (by decide) (v := d) rfl ?_
                                refine r_icmp_ne 145 147 hX dX8_lineUp_142 (fun c16 => ?_) (fun c16 => ?_)
                                · refine r_iincK 150 hX dX8_lineUp_147 rfl (w := 3) (by decide) rfl ?_
                                  refine r_goto 121 hX dX8_lineUp_150 ?_
                                  refine r_iload 123 hX dX8_lineUp_121 rfl ?_
                                  refine r_iload 125 hX dX8_lineUp_123 rfl ?_
                                  refine r_icmp_ge 128 153 hX dX8_lineUp_125 (fun _ => ?_) (fun c => absurd c (by decide))
                                  refine r_iincK 156 hX dX8_lineUp_153 rfl (w := 4) (by decide) rfl ?_
                                  refine (show mx_WW G X 156 [_, _, _, _, _, _, _, _, _, _] _ _ from ?_)
                                  refine r_goto 80 hX dX8_lineUp_156 ?_
                                  refine r_iload 82 hX dX8_lineUp_80 rfl ?_
                                  refine r_bipush 84 hX dX8_lineUp_82 (v := 6) (by decide) ?_
                                  refine r_icmp_ge 87 159 hX dX8_lineUp_84 (fun c => absurd c (by decide)) (fun _ => ?_)
                                  refine r_aload_n 88 hX dX8_lineUp_87 rfl ?_
                                  refine r_getR 91 hX dX8_lineUp_88 fX8_42 rfl rfl rfl ?_
                                  refine r_iload 93 hX dX8_lineUp_91 rfl ?_
                                  refine r_ialdV 94 hX dX8_lineUp_93 rfl rfl (vpK rfl) (j := 4) (by decide) (v := e) rfl ?_
                                  refine r_cS1F 97 hX hR tX8_isPlayer dX8_lineUp_94 kX8_isPlayer lX8_75 rfl rfl rfl ?_
                                  refine r_Beq 100 116 hX dX8_lineUp_97 (fun c17 => ?_) (fun c17 => ?_)
                                  · refine r_iconst 117 hX dX8_lineUp_116 (v := 0) (by decide) ?_
                                    refine r_zret hX hT dX8_lineUp_117 (by first | assumption | decide) ?_
                                    clear hT hX hR hlX
                                    exact Or.inr ⟨fun h => by obtain ⟨-, ⟨⟨h1, h2, h3⟩, h4, h5, h6⟩, ⟨⟨h7, h8, h9⟩, h10, h11, h12⟩, -⟩ := h; contradiction, rfl, rfl⟩
                                  · refine r_aload_n 101 hX dX8_lineUp_100 rfl ?_
                                    refine r_getR 104 hX dX8_lineUp_101 fX8_42 rfl rfl rfl ?_
                                    refine r_iload 106 hX dX8_lineUp_104 rfl ?_
                                    refine r_ialdV 107 hX dX8_lineUp_106 rfl rfl (vpK rfl) (j := 4) (by decide) (v := e) rfl ?_
                                    refine r_aload_n 108 hX dX8_lineUp_107 rfl ?_
                                    refine r_getR 111 hX dX8_lineUp_108 fX8_13 rfl rfl rfl ?_
                                    refine r_iload_n 112 hX dX8_lineUp_111 rfl ?_
                                    refine r_ialdV 113 hX dX8_lineUp_112 rfl rfl (vpK rfl) (j := 1) (by decide) (v := M.1 48 1) rfl ?_
                                    refine r_icmp_ne 116 118 hX dX8_lineUp_113 (fun c18 => ?_) (fun c18 => ?_)
                                    · refine r_iconst 119 hX dX8_lineUp_118 (v := 0) (by decide) ?_
                                      refine r_istore 121 hX dX8_lineUp_119 rfl ?_
                                      refine r_iload 123 hX dX8_lineUp_121 rfl ?_
                                      refine r_iload 125 hX dX8_lineUp_123 rfl ?_
                                      refine r_icmp_ge 128 153 hX dX8_lineUp_125 (fun c => absurd c (by decide)) (fun _ => ?_)
                                      refine r_aload_n 129 hX dX8_lineUp_128 rfl ?_
                                      refine r_getR 132 hX dX8_lineUp_129 fX8_42 rfl rfl rfl ?_
                                      refine r_iload 134 hX dX8_lineUp_132 rfl ?_
                                      refine r_ialdV 135 hX dX8_lineUp_134 rfl rfl (vpK rfl) (j := 0) (by decide) (v := a) rfl ?_
                                      refine r_aload_n 136 hX dX8_lineUp_135 rfl ?_
                                      refine r_getR 139 hX dX8_lineUp_136 fX8_42 rfl rfl rfl ?_
                                      refine r_iload 141 hX dX8_lineUp_139 rfl ?_
                                      refine r_ialdV 142 hX dX8_lineUp_141 rfl rfl (vpK rfl) (j := 4) (by decide) (v := e) rfl ?_
                                      refine r_icmp_ne 145 147 hX dX8_lineUp_142 (fun c19 => ?_) (fun c19 => ?_)
                                      · refine r_iincK 150 hX dX8_lineUp_147 rfl (w := 1) (by decide) rfl ?_
                                        refine r_goto 121 hX dX8_lineUp_150 ?_
                                        refine r_iload 123 hX dX8_lineUp_121 rfl ?_
                                        refine r_iload 125 hX dX8_lineUp_123 rfl ?_
                                        refine r_icmp_ge 128 153 hX dX8_lineUp_125 (fun c => absurd c (by decide)) (fun _ => ?_)
                                        refine r_aload_n 129 hX dX8_lineUp_128 rfl ?_
                                        refine r_getR 132 hX dX8_lineUp_129 fX8_42 rfl rfl rfl ?_
                                        refine r_iload 134 hX dX8_lineUp_132 rfl ?_
                                        refine r_ialdV 135 hX dX8_lineUp_134 rfl rfl (vpK rfl) (j := 1) (by decide) (v := b) rfl ?_
                                        refine r_aload_n 136 hX dX8_lineUp_135 rfl ?_
                                        refine r_getR 139 hX dX8_lineUp_136 fX8_42 rfl rfl rfl ?_
                                        refine r_iload 141 hX dX8_lineUp_139 rfl ?_
                                        refine r_ialdV 142 hX dX8_lineUp_141 rfl rfl (vpK rfl) (j := 4) (by decide) (v := e) rfl ?_
                                        refine r_icmp_ne 145 147 hX dX8_lineUp_142 (fun c20 => ?_) (fun c20 => ?_)
                                        · refine r_iincK 150 hX dX8_lineUp_147 rfl (w := 2) (by decide) rfl ?_
                                          refine (show mx_WW G X 150 [_, _, _, _, _, _, _, _, _, _] _ _ from ?_)
                                          refine r_goto 121 hX dX8_lineUp_150 ?_
                                          refine r_iload 123 hX dX8_lineUp_121 rfl ?_
                                          refine r_iload 125 hX dX8_lineUp_123 rfl ?_
                                          refine r_icmp_ge 128 153 hX dX8_lineUp_125 (fun c => absurd c (by decide)) (fun _ => ?_)
                                          refine r_aload_n 129 hX dX8_lineUp_128 rfl ?_
                                          refine r_getR 132 hX dX8_lineUp_129 fX8_42 rfl rfl rfl ?_
                                          refine r_iload 134 hX dX8_lineUp_132 rfl ?_
                                          refine r_ialdV 135 hX dX8_lineUp_134 rfl rfl (vpK rfl) (j := 2) (by decide) (v := c) rfl ?_
                                          refine r_aload_n 136 hX dX8_lineUp_135 rfl ?_
                                          refine r_getR 139 hX dX8_lineUp_136 fX8_42 rfl rfl rfl ?_
                                          refine r_iload 141 hX dX8_lineUp_139 rfl ?_
                                          refine r_ialdV 142 hX dX8_lineUp_141 rfl rfl (vpK rfl) (j := 4) (by decide) (v := e) rfl ?_
                                          refine r_icmp_ne 145 147 hX dX8_lineUp_142 (fun c21 => ?_) (fun c21 => ?_)
                                          · refine r_iincK 150 hX dX8_lineUp_147 rfl (w := 3) (by decide) rfl ?_
                                            refine r_goto 121 hX dX8_lineUp_150 ?_
                                            refine r_iload 123 hX dX8_lineUp_121 rfl ?_
                                            refine r_iload 125 hX dX8_lineUp_123 rfl ?_
                                            refine r_icmp_ge 128 153 hX dX8_lineUp_125 (fun c => absurd c (by decide)) (fun _ => ?_)
                                            refine r_aload_n 129 hX dX8_lineUp_128 rfl ?_
                                            refine r_getR 132 hX dX8_lineUp_129 fX8_42 rfl rfl rfl ?_
                                            refine r_iload 134 hX dX8_lineUp_132 rfl ?_
                                            refine r_ialdV 135 hX dX8_lineUp_134 rfl rfl (vpK rfl) (j := 3) (by decide) (v := d) rfl ?_
                                            refine r_aload_n 136 hX dX8_lineUp_135 rfl ?_
                                            refine r_getR 139 hX dX8_lineUp_136 fX8_42 rfl rfl rfl ?_
                                            refine r_iload 141 hX dX8_lineUp_139 rfl ?_
                                            refine r_ialdV 142 hX dX8_lineUp_141 rfl rfl (vpK rfl) (j := 4) (by decide) (v := e) rfl ?_
                                            refine r_icmp_ne 145 147 hX dX8_lineUp_142 (fun c22 => ?_) (fun c22 => ?_)
                                            · refine r_iincK 150 hX dX8_lineUp_147 rfl (w := 4) (by decide) rfl ?_
                                              refine r_goto 121 hX dX8_lineUp_150 ?_
                                              refine r_iload 123 hX dX8_lineUp_121 rfl ?_
                                              refine r_iload 125 hX dX8_lineUp_123 rfl ?_
                                              refine r_icmp_ge 128 153 hX dX8_lineUp_125 (fun _ => ?_) (fun c => absurd c (by decide))
                                              refine r_iincK 156 hX dX8_lineUp_153 rfl (w := 5) (by decide) rfl ?_
                                              refine (show mx_WW G X 156 [_, _, _, _, _, _, _, _, _, _] _ _ from ?_)
                                              refine r_goto 80 hX dX8_lineUp_156 ?_
                                              refine r_iload 82 hX dX8_lineUp_80 rfl ?_
                                              refine r_bipush 84 hX dX8_lineUp_82 (v := 6) (by decide) ?_
                                              refine r_icmp_ge 87 159 hX dX8_lineUp_84 (fun c => absurd c (by decide)) (fun _ => ?_)
                                              refine r_aload_n 88 hX dX8_lineUp_87 rfl ?_
                                              refine r_getR 91 hX dX8_lineUp_88 fX8_42 rfl rfl rfl ?_
                                              refine r_iload 93 hX dX8_lineUp_91 rfl ?_
                                              refine r_ialdV 94 hX dX8_lineUp_93 rfl rfl (vpK rfl) (j := 5) (by decide) (v := f) rfl ?_
                                              refine r_cS1F 97 hX hR tX8_isPlayer dX8_lineUp_94 kX8_isPlayer lX8_75 rfl rfl rfl ?_
                                              refine r_Beq 100 116 hX dX8_lineUp_97 (fun c23 => ?_) (fun c23 => ?_)
                                              · refine r_iconst 117 hX dX8_lineUp_116 (v := 0) (by decide) ?_
                                                refine r_zret hX hT dX8_lineUp_117 (by first | assumption | decide) ?_
                                                clear hT hX hR hlX
                                                exact Or.inr ⟨fun h => by obtain ⟨-, ⟨⟨h1, h2, h3⟩, h4, h5, h6⟩, ⟨⟨h7, h8, h9⟩, h10, h11, h12⟩, -⟩ := h; contradiction, rfl, rfl⟩
                                              · refine r_aload_n 101 hX dX8_lineUp_100 rfl ?_
                                                refine r_getR 104 hX dX8_lineUp_101 fX8_42 rfl rfl rfl ?_
                                                refine r_iload 106 hX dX8_lineUp_104 rfl ?_
                                                refine r_ialdV 107 hX dX8_lineUp_106 rfl rfl (vpK rfl) (j := 5) (by decide) (v := f) rfl ?_
                                                refine r_aload_n 108 hX dX8_lineUp_107 rfl ?_
                                                refine r_getR 111 hX dX8_lineUp_108 fX8_13 rfl rfl rfl ?_
                                                refine r_iload_n 112 hX dX8_lineUp_111 rfl ?_
                                                refine r_ialdV 113 hX dX8_lineUp_112 rfl rfl (vpK rfl) (j := 1) (by decide) (v := M.1 48 1) rfl ?_
                                                refine r_icmp_ne 116 118 hX dX8_lineUp_113 (fun c24 => ?_) (fun c24 => ?_)
                                                · refine r_iconst 119 hX dX8_lineUp_118 (v := 0) (by decide) ?_
                                                  refine r_istore 121 hX dX8_lineUp_119 rfl ?_
                                                  refine r_iload 123 hX dX8_lineUp_121 rfl ?_
                                                  refine r_iload 125 hX dX8_lineUp_123 rfl ?_
                                                  refine r_icmp_ge 128 153 hX dX8_lineUp_125 (fun c => absurd c (by decide)) (fun _ => ?_)
                                                  refine r_aload_n 129 hX dX8_lineUp_128 rfl ?_
                                                  refine r_getR 132 hX dX8_lineUp_129 fX8_42 rfl rfl rfl ?_
                                                  refine r_iload 134 hX dX8_lineUp_132 rfl ?_
                                                  refine r_ialdV 135 hX dX8_lineUp_134 rfl rfl (vpK rfl) (j := 0) (by decide) (v := a) rfl ?_
                                                  refine r_aload_n 136 hX dX8_lineUp_135 rfl ?_
                                                  refine r_getR 139 hX dX8_lineUp_136 fX8_42 rfl rfl rfl ?_
                                                  refine r_iload 141 hX dX8_lineUp_139 rfl ?_
                                                  refine r_ialdV 142 hX dX8_lineUp_141 rfl rfl (vpK rfl) (j := 5) (by decide) (v := f) rfl ?_
                                                  refine r_icmp_ne 145 147 hX dX8_lineUp_142 (fun c25 => ?_) (fun c25 => ?_)
                                                  · refine r_iincK 150 hX dX8_lineUp_147 rfl (w := 1) (by decide) rfl ?_
                                                    refine r_goto 121 hX dX8_lineUp_150 ?_
                                                    refine r_iload 123 hX dX8_lineUp_121 rfl ?_
                                                    refine r_iload 125 hX dX8_lineUp_123 rfl ?_
                                                    refine r_icmp_ge 128 153 hX dX8_lineUp_125 (fun c => absurd c (by decide)) (fun _ => ?_)
                                                    refine r_aload_n 129 hX dX8_lineUp_128 rfl ?_
                                                    refine r_getR 132 hX dX8_lineUp_129 fX8_42 rfl rfl rfl ?_
                                                    refine r_iload 134 hX dX8_lineUp_132 rfl ?_
                                                    refine r_ialdV 135 hX dX8_lineUp_134 rfl rfl (vpK rfl) (j := 1) (by decide) (v := b) rfl ?_
                                                    refine r_aload_n 136 hX dX8_lineUp_135 rfl ?_
                                                    refine r_getR 139 hX dX8_lineUp_136 fX8_42 rfl rfl rfl ?_
                                                    refine r_iload 141 hX dX8_lineUp_139 rfl ?_
                                                    refine r_ialdV 142 hX dX8_lineUp_141 rfl rfl (vpK rfl) (j := 5) (by decide) (v := f) rfl ?_
                                                    refine r_icmp_ne 145 147 hX dX8_lineUp_142 (fun c26 => ?_) (fun c26 => ?_)
                                                    · refine r_iincK 150 hX dX8_lineUp_147 rfl (w := 2) (by decide) rfl ?_
                                                      refine (show mx_WW G X 150 [_, _, _, _, _, _, _, _, _, _] _ _ from ?_)
                                                      refine r_goto 121 hX dX8_lineUp_150 ?_
                                                      refine r_iload 123 hX dX8_lineUp_121 rfl ?_
                                                      refine r_iload 125 hX dX8_lineUp_123 rfl ?_
                                                      refine r_icmp_ge 128 153 hX dX8_lineUp_125 (fun c => absurd c (by decide)) (fun _ => ?_)
                                                      refine r_aload_n 129 hX dX8_lineUp_128 rfl ?_
                                                      refine r_getR 132 hX dX8_lineUp_129 fX8_42 rfl rfl rfl ?_
                                                      refine r_iload 134 hX dX8_lineUp_132 rfl ?_
                                                      refine r_ialdV 135 hX dX8_lineUp_134 rfl rfl (vpK rfl) (j := 2) (by decide) (v := c) rfl ?_
                                                      refine r_aload_n 136 hX dX8_lineUp_135 rfl ?_
                                                      refine r_getR 139 hX dX8_lineUp_136 fX8_42 rfl rfl rfl ?_
                                                      refine r_iload 141 hX dX8_lineUp_139 rfl ?_
                                                      refine r_ialdV 142 hX dX8_lineUp_141 rfl rfl (vpK rfl) (j := 5) (by decide) (v := f) rfl ?_
                                                      refine r_icmp_ne 145 147 hX dX8_lineUp_142 (fun c27 => ?_) (fun c27 => ?_)
                                                      · refine r_iincK 150 hX dX8_lineUp_147 rfl (w := 3) (by decide) rfl ?_
                                                        refine r_goto 121 hX dX8_lineUp_150 ?_
                                                        refine r_iload 123 hX dX8_lineUp_121 rfl ?_
                                                        refine r_iload 125 hX dX8_lineUp_123 rfl ?_
                                                        refine r_icmp_ge 128 153 hX dX8_lineUp_125 (fun c => absurd c (by decide)) (fun _ => ?_)
                                                        refine r_aload_n 129 hX dX8_lineUp_128 rfl ?_
                                                        refine r_getR 132 hX dX8_lineUp_129 fX8_42 rfl rfl rfl ?_
                                                        refine r_iload 134 hX dX8_lineUp_132 rfl ?_
                                                        refine r_ialdV 135 hX dX8_lineUp_134 rfl rfl (vpK rfl) (j := 3) (by decide) (v := d) rfl ?_
                                                        refine r_aload_n 136 hX dX8_lineUp_135 rfl ?_
                                                        refine r_getR 139 hX dX8_lineUp_136 fX8_42 rfl rfl rfl ?_
                                                        refine r_iload 141 hX dX8_lineUp_139 rfl ?_
                                                        refine r_ialdV 142 hX dX8_lineUp_141 rfl rfl (vpK rfl) (j := 5) (by decide) (v := f) rfl ?_
                                                        refine r_icmp_ne 145 147 hX dX8_lineUp_142 (fun c28 => ?_) (fun c28 => ?_)
                                                        · refine r_iincK 150 hX dX8_lineUp_147 rfl (w := 4) (by decide) rfl ?_
                                                          refine r_goto 121 hX dX8_lineUp_150 ?_
                                                          refine r_iload 123 hX dX8_lineUp_121 rfl ?_
                                                          refine r_iload 125 hX dX8_lineUp_123 rfl ?_
                                                          refine r_icmp_ge 128 153 hX dX8_lineUp_125 (fun c => absurd c (by decide)) (fun _ => ?_)
                                                          refine r_aload_n 129 hX dX8_lineUp_128 rfl ?_
                                                          refine r_getR 132 hX dX8_lineUp_129 fX8_42 rfl rfl rfl ?_
                                                          refine r_iload 134 hX dX8_lineUp_132 rfl ?_
                                                          refine r_ialdV 135 hX dX8_lineUp_134 rfl rfl (vpK rfl) (j := 4) (by decide) (v := e) rfl ?_
                                                          refine r_aload_n 136 hX dX8_lineUp_135 rfl ?_
                                                          refine r_getR 139 hX dX8_lineUp_136 fX8_42 rfl rfl rfl ?_
                                                          refine r_iload 141 hX dX8_lineUp_139 rfl ?_
                                                          refine r_ialdV 142 hX dX8_lineUp_141 rfl rfl (vpK rfl) (j := 5) (by decide) (v := f) rfl ?_
                                                          refine r_icmp_ne 145 147 hX dX8_lineUp_142 (fun c29 => ?_) (fun c29 => ?_)
                                                          · refine r_iincK 150 hX dX8_lineUp_147 rfl (w := 5) (by decide) rfl ?_
                                                            refine (show mx_WW G X 150 [_, _, _, _, _, _, _, _, _, _] _ _ from ?_)
                                                            refine r_goto 121 hX dX8_lineUp_150 ?_
                                                            refine r_iload 123 hX dX8_lineUp_121 rfl ?_
                                                            refine r_iload 125 hX dX8_lineUp_123 rfl ?_
                                                            refine r_icmp_ge 128 153 hX dX8_lineUp_125 (fun _ => ?_) (fun c => absurd c (by decide))
                                                            refine r_iincK 156 hX dX8_lineUp_153 rfl (w := 6) (by decide) rfl ?_
                                                            refine r_goto 80 hX dX8_lineUp_156 ?_
                                                            refine r_iload 82 hX dX8_lineUp_80 rfl ?_
                                                            refine r_bipush 84 hX dX8_lineUp_82 (v := 6) (by decide) ?_
                                                            refine r_icmp_ge 87 159 hX dX8_lineUp_84 (fun _ => ?_) (fun c => absurd c (by decide))
                                                            refine r_iconst 160 hX dX8_lineUp_159 (v := 0) (by decide) ?_
                                                            refine r_istore 162 hX dX8_lineUp_160 rfl ?_
                                                            refine r_iload 164 hX dX8_lineUp_162 rfl ?_
                                                            refine r_bipush 166 hX dX8_lineUp_164 (v := 6) (by decide) ?_
                                                            refine r_icmp_ge 169 194 hX dX8_lineUp_166 (fun c => absurd c (by decide)) (fun _ => ?_)
                                                            refine r_aload_n 170 hX dX8_lineUp_169 rfl ?_
                                                            refine r_getR 173 hX dX8_lineUp_170 fX8_19 rfl rfl rfl ?_
                                                            refine r_bipush 175 hX dX8_lineUp_173 (v := 6) (by decide) ?_
                                                            refine r_iload_n 176 hX dX8_lineUp_175 rfl ?_
                                                            refine r_imulK 177 hX dX8_lineUp_176 (w := 6) (by decide) ?_
                                                            refine r_iload 179 hX dX8_lineUp_177 rfl ?_
                                                            refine r_iaddK 180 hX dX8_lineUp_179 (w := 6) (by decide) ?_
                                                            refine r_aload_n 181 hX dX8_lineUp_180 rfl ?_
                                                            refine r_getR 184 hX dX8_lineUp_181 fX8_42 rfl rfl rfl ?_
                                                            refine r_iload 186 hX dX8_lineUp_184 rfl ?_
                                                            refine r_ialdV 187 hX dX8_lineUp_186 rfl rfl (vpK rfl) (j := 0) (by decide) (v := a) rfl ?_
                                                            refine r_iastK 188 hX dX8_lineUp_187 rfl rfl (vpK rfl) (j := 6) (by decide) ?_
                                                            refine r_iincK 191 hX dX8_lineUp_188 rfl (w := 1) (by decide) rfl ?_
                                                            refine (show mx_WW G X 191 [_, _, _, _, _, _, _, _, _, _] _ _ from ?_)
                                                            refine r_goto 162 hX dX8_lineUp_191 ?_
                                                            refine r_iload 164 hX dX8_lineUp_162 rfl ?_
                                                            refine r_bipush 166 hX dX8_lineUp_164 (v := 6) (by decide) ?_
                                                            refine r_icmp_ge 169 194 hX dX8_lineUp_166 (fun c => absurd c (by decide)) (fun _ => ?_)
                                                            refine r_aload_n 170 hX dX8_lineUp_169 rfl ?_
                                                            refine r_getR 173 hX dX8_lineUp_170 fX8_19 rfl rfl rfl ?_
                                                            refine r_bipush 175 hX dX8_lineUp_173 (v := 6) (by decide) ?_
                                                            refine r_iload_n 176 hX dX8_lineUp_175 rfl ?_
                                                            refine r_imulK 177 hX dX8_lineUp_176 (w := 6) (by decide) ?_
                                                            refine r_iload 179 hX dX8_lineUp_177 rfl ?_
                                                            refine r_iaddK 180 hX dX8_lineUp_179 (w := 7) (by decide) ?_
                                                            refine r_aload_n 181 hX dX8_lineUp_180 rfl ?_
                                                            refine r_getR 184 hX dX8_lineUp_181 fX8_42 rfl rfl rfl ?_
                                                            refine r_iload 186 hX dX8_lineUp_184 rfl ?_
                                                            refine r_ialdV 187 hX dX8_lineUp_186 rfl rfl (vpK rfl) (j := 1) (by decide) (v := b) rfl ?_
                                                            refine r_iastK 188 hX dX8_lineUp_187 rfl rfl (vpK rfl) (j := 7) (by decide) ?_
                                                            refine r_iincK 191 hX dX8_lineUp_188 rfl (w := 2) (by decide) rfl ?_
                                                            refine r_goto 162 hX dX8_lineUp_191 ?_
                                                            refine r_iload 164 hX dX8_lineUp_162 rfl ?_
                                                            refine r_bipush 166 hX dX8_lineUp_164 (v := 6) (by decide) ?_
                                                            refine r_icmp_ge 169 194 hX dX8_lineUp_166 (fun c => absurd c (by decide)) (fun _ => ?_)
                                                            refine r_aload_n 170 hX dX8_lineUp_169 rfl ?_
                                                            refine r_getR 173 hX dX8_lineUp_170 fX8_19 rfl rfl rfl ?_
                                                            refine r_bipush 175 hX dX8_lineUp_173 (v := 6) (by decide) ?_
                                                            refine r_iload_n 176 hX dX8_lineUp_175 rfl ?_
                                                            refine r_imulK 177 hX dX8_lineUp_176 (w := 6) (by decide) ?_
                                                            refine r_iload 179 hX dX8_lineUp_177 rfl ?_
                                                            refine r_iaddK 180 hX dX8_lineUp_179 (w := 8) (by decide) ?_
                                                            refine r_aload_n 181 hX dX8_lineUp_180 rfl ?_
                                                            refine r_getR 184 hX dX8_lineUp_181 fX8_42 rfl rfl rfl ?_
                                                            refine r_iload 186 hX dX8_lineUp_184 rfl ?_
                                                            refine r_ialdV 187 hX dX8_lineUp_186 rfl rfl (vpK rfl) (j := 2) (by decide) (v := c) rfl ?_
                                                            refine r_iastK 188 hX dX8_lineUp_187 rfl rfl (vpK rfl) (j := 8) (by decide) ?_
                                                            refine r_iincK 191 hX dX8_lineUp_188 rfl (w := 3) (by decide) rfl ?_
                                                            refine r_goto 162 hX dX8_lineUp_191 ?_
                                                            refine r_iload 164 hX dX8_lineUp_162 rfl ?_
                                                            refine r_bipush 166 hX dX8_lineUp_164 (v := 6) (by decide) ?_
                                                            refine r_icmp_ge 169 194 hX dX8_lineUp_166 (fun c => absurd c (by decide)) (fun _ => ?_)
                                                            refine r_aload_n 170 hX dX8_lineUp_169 rfl ?_
                                                            refine r_getR 173 hX dX8_lineUp_170 fX8_19 rfl rfl rfl ?_
                                                            refine r_bipush 175 hX dX8_lineUp_173 (v := 6) (by decide) ?_
                                                            refine r_iload_n 176 hX dX8_lineUp_175 rfl ?_
                                                            refine r_imulK 177 hX dX8_lineUp_176 (w := 6) (by decide) ?_
                                                            refine r_iload 179 hX dX8_lineUp_177 rfl ?_
                                                            refine r_iaddK 180 hX dX8_lineUp_179 (w := 9) (by decide) ?_
                                                            refine r_aload_n 181 hX dX8_lineUp_180 rfl ?_
                                                            refine r_getR 184 hX dX8_lineUp_181 fX8_42 rfl rfl rfl ?_
                                                            refine r_iload 186 hX dX8_lineUp_184 rfl ?_
                                                            refine r_ialdV 187 hX dX8_lineUp_186 rfl rfl (vpK rfl) (j := 3) (by decide) (v := d) rfl ?_
                                                            refine r_iastK 188 hX dX8_lineUp_187 rfl rfl (vpK rfl) (j := 9) (by decide) ?_
                                                            refine r_iincK 191 hX dX8_lineUp_188 rfl (w := 4) (by decide) rfl ?_
                                                            refine (show mx_WW G X 191 [_, _, _, _, _, _, _, _, _, _] _ _ from ?_)
                                                            refine r_goto 162 hX dX8_lineUp_191 ?_
                                                            refine r_iload 164 hX dX8_lineUp_162 rfl ?_
                                                            refine r_bipush 166 hX dX8_lineUp_164 (v := 6) (by decide) ?_
                                                            refine r_icmp_ge 169 194 hX dX8_lineUp_166 (fun c => absurd c (by decide)) (fun _ => ?_)
                                                            refine r_aload_n 170 hX dX8_lineUp_169 rfl ?_
                                                            refine r_getR 173 hX dX8_lineUp_170 fX8_19 rfl rfl rfl ?_
                                                            refine r_bipush 175 hX dX8_lineUp_173 (v := 6) (by decide) ?_
                                                            refine r_iload_n 176 hX dX8_lineUp_175 rfl ?_
                                                            refine r_imulK 177 hX dX8_lineUp_176 (w := 6) (by decide) ?_
                                                            refine r_iload 179 hX dX8_lineUp_177 rfl ?_
                                                            refine r_iaddK 180 hX dX8_lineUp_179 (w := 10) (by decide) ?_
                                                            refine r_aload_n 181 hX dX8_lineUp_180 rfl ?_
                                                            refine r_getR 184 hX dX8_lineUp_181 fX8_42 rfl rfl rfl ?_
                                                            refine r_iload 186 hX dX8_lineUp_184 rfl ?_
                                                            refine r_ialdV 187 hX dX8_lineUp_186 rfl rfl (vpK rfl) (j := 4) (by decide) (v := e) rfl ?_
                                                            refine r_iastK 188 hX dX8_lineUp_187 rfl rfl (vpK rfl) (j := 10) (by decide) ?_
                                                            refine r_iincK 191 hX dX8_lineUp_188 rfl (w := 5) (by decide) rfl ?_
                                                            refine r_goto 162 hX dX8_lineUp_191 ?_
                                                            refine r_iload 164 hX dX8_lineUp_162 rfl ?_
                                                            refine r_bipush 166 hX dX8_lineUp_164 (v := 6) (by decide) ?_
                                                            refine r_icmp_ge 169 194 hX dX8_lineUp_166 (fun c => absurd c (by decide)) (fun _ => ?_)
                                                            refine r_aload_n 170 hX dX8_lineUp_169 rfl ?_
                                                            refine r_getR 173 hX dX8_lineUp_170 fX8_19 rfl rfl rfl ?_
                                                            refine r_bipush 175 hX dX8_lineUp_173 (v := 6) (by decide) ?_
                                                            refine r_iload_n 176 hX dX8_lineUp_175 rfl ?_
                                                            refine r_imulK 177 hX dX8_lineUp_176 (w := 6) (by decide) ?_
                                                            refine r_iload 179 hX dX8_lineUp_177 rfl ?_
                                                            refine r_iaddK 180 hX dX8_lineUp_179 (w := 11) (by decide) ?_
                                                            refine r_aload_n 181 hX dX8_lineUp_180 rfl ?_
                                                            refine r_getR 184 hX dX8_lineUp_181 fX8_42 rfl rfl rfl ?_
                                                            refine r_iload 186 hX dX8_lineUp_184 rfl ?_
                                                            refine r_ialdV 187 hX dX8_lineUp_186 rfl rfl (vpK rfl) (j := 5) (by decide) (v := f) rfl ?_
                                                            refine r_iastK 188 hX dX8_lineUp_187 rfl rfl (vpK rfl) (j := 11) (by decide) ?_
                                                            refine r_iincK 191 hX dX8_lineUp_188 rfl (w := 6) (by decide) rfl ?_
                                                            refine r_goto 162 hX dX8_lineUp_191 ?_
                                                            refine r_iload 164 hX dX8_lineUp_162 rfl ?_
                                                            refine r_bipush 166 hX dX8_lineUp_164 (v := 6) (by decide) ?_
                                                            refine r_icmp_ge 169 194 hX dX8_lineUp_166 (fun _ => ?_) (fun c => absurd c (by decide))
                                                            refine r_aload_n 195 hX dX8_lineUp_194 rfl ?_
                                                            refine r_getR 198 hX dX8_lineUp_195 fX8_22 rfl rfl rfl ?_
                                                            refine r_iload_n 199 hX dX8_lineUp_198 rfl ?_
                                                            refine r_iconst 200 hX dX8_lineUp_199 (v := 1) (by decide) ?_
                                                            refine r_zastK 201 hX dX8_lineUp_200 rfl rfl (vpK rfl) (j := 1) (by decide) (y := 1) (by decide) ?_
                                                            refine r_iconst 202 hX dX8_lineUp_201 (v := 1) (by decide) ?_
                                                            refine r_zret hX hT dX8_lineUp_202 (by first | assumption | decide) ?_
                                                            clear hT hX hR hlX
                                                            exact Or.inl ⟨⟨⟨c1, c2⟩, ⟨⟨by assumption, by assumption, by assumption⟩, by assumption, by assumption, by assumption⟩, ⟨⟨by assumption, by assumption, by assumption⟩, by assumption, by assumption, by assumption⟩, by assumption, ⟨by assumption, by assumption⟩, ⟨by assumption, by assumption, by assumption⟩, ⟨by assumption, by assumption, by assumption, by assumption⟩, by assumption, by assumption, by assumption, by assumption, by assumption⟩, rfl, rfl⟩
                                                          · refine r_iconst 146 hX dX8_lineUp_145 (v := 0) (by decide) ?_
                                                            refine r_zret hX hT dX8_lineUp_146 (by first | assumption | decide) ?_
                                                            clear hT hX hR hlX
                                                            exact Or.inr ⟨fun h => by obtain ⟨-, -, -, h1, ⟨h2, h3⟩, ⟨h4, h5, h6⟩, ⟨h7, h8, h9, h10⟩, h11, h12, h13, h14, h15⟩ := h; contradiction, rfl, rfl⟩
                                                        · refine r_iconst 146 hX dX8_lineUp_145 (v := 0) (by decide) ?_
                                                          refine r_zret hX hT dX8_lineUp_146 (by first | assumption | decide) ?_
                                                          clear hT hX hR hlX
                                                          exact Or.inr ⟨fun h => by obtain ⟨-, -, -, h1, ⟨h2, h3⟩, ⟨h4, h5, h6⟩, ⟨h7, h8, h9, h10⟩, h11, h12, h13, h14, h15⟩ := h; contradiction, rfl, rfl⟩
                                                      · refine r_iconst 146 hX dX8_lineUp_145 (v := 0) (by decide) ?_
                                                        refine r_zret hX hT dX8_lineUp_146 (by first | assumption | decide) ?_
                                                        clear hT hX hR hlX
                                                        exact Or.inr ⟨fun h => by obtain ⟨-, -, -, h1, ⟨h2, h3⟩, ⟨h4, h5, h6⟩, ⟨h7, h8, h9, h10⟩, h11, h12, h13, h14, h15⟩ := h; contradiction, rfl, rfl⟩
                                                    · refine r_iconst 146 hX dX8_lineUp_145 (v := 0) (by decide) ?_
                                                      refine r_zret hX hT dX8_lineUp_146 (by first | assumption | decide) ?_
                                                      clear hT hX hR hlX
                                                      exact Or.inr ⟨fun h => by obtain ⟨-, -, -, h1, ⟨h2, h3⟩, ⟨h4, h5, h6⟩, ⟨h7, h8, h9, h10⟩, h11, h12, h13, h14, h15⟩ := h; contradiction, rfl, rfl⟩
                                                  · refine r_iconst 146 hX dX8_lineUp_145 (v := 0) (by decide) ?_
                                                    refine r_zret hX hT dX8_lineUp_146 (by first | assumption | decide) ?_
                                                    clear hT hX hR hlX
                                                    exact Or.inr ⟨fun h => by obtain ⟨-, -, -, h1, ⟨h2, h3⟩, ⟨h4, h5, h6⟩, ⟨h7, h8, h9, h10⟩, h11, h12, h13, h14, h15⟩ := h; contradiction, rfl, rfl⟩
                                                · refine r_iconst 117 hX dX8_lineUp_116 (v := 0) (by decide) ?_
                                                  refine r_zret hX hT dX8_lineUp_117 (by first | assumption | decide) ?_
                                                  clear hT hX hR hlX
                                                  exact Or.inr ⟨fun h => by obtain ⟨-, ⟨⟨h1, h2, h3⟩, h4, h5, h6⟩, ⟨⟨h7, h8, h9⟩, h10, h11, h12⟩, -⟩ := h; contradiction, rfl, rfl⟩
                                            · refine r_iconst 146 hX dX8_lineUp_145 (v := 0) (by decide) ?_
                                              refine r_zret hX hT dX8_lineUp_146 (by first | assumption | decide) ?_
                                              clear hT hX hR hlX
                                              exact Or.inr ⟨fun h => by obtain ⟨-, -, -, h1, ⟨h2, h3⟩, ⟨h4, h5, h6⟩, ⟨h7, h8, h9, h10⟩, h11, h12, h13, h14, h15⟩ := h; contradiction, rfl, rfl⟩
                                          · refine r_iconst 146 hX dX8_lineUp_145 (v := 0) (by decide) ?_
                                            refine r_zret hX hT dX8_lineUp_146 (by first | assumption | decide) ?_
                                            clear hT hX hR hlX
                                            exact Or.inr ⟨fun h => by obtain ⟨-, -, -, h1, ⟨h2, h3⟩, ⟨h4, h5, h6⟩, ⟨h7, h8, h9, h10⟩, h11, h12, h13, h14, h15⟩ := h; contradiction, rfl, rfl⟩
                                        · refine r_iconst 146 hX dX8_lineUp_145 (v := 0) (by decide) ?_
                                          refine r_zret hX hT dX8_lineUp_146 (by first | assumption | decide) ?_
                                          clear hT hX hR hlX
                                          exact Or.inr ⟨fun h => by obtain ⟨-, -, -, h1, ⟨h2, h3⟩, ⟨h4, h5, h6⟩, ⟨h7, h8, h9, h10⟩, h11, h12, h13, h14, h15⟩ := h; contradiction, rfl, rfl⟩
                                      · refine r_iconst 146 hX dX8_lineUp_145 (v := 0) (by decide) ?_
                                        refine r_zret hX hT dX8_lineUp_146 (by first | assumption | decide) ?_
                                        clear hT hX hR hlX
                                        exact Or.inr ⟨fun h => by obtain ⟨-, -, -, h1, ⟨h2, h3⟩, ⟨h4, h5, h6⟩, ⟨h7, h8, h9, h10⟩, h11, h12, h13, h14, h15⟩ := h; contradiction, rfl, rfl⟩
                                    · refine r_iconst 117 hX dX8_lineUp_116 (v := 0) (by decide) ?_
                                      refine r_zret hX hT dX8_lineUp_117 (by first | assumption | decide) ?_
                                      clear hT hX hR hlX
                                      exact Or.inr ⟨fun h => by obtain ⟨-, ⟨⟨h1, h2, h3⟩, h4, h5, h6⟩, ⟨⟨h7, h8, h9⟩, h10, h11, h12⟩, -⟩ := h; contradiction, rfl, rfl⟩
                                · refine r_iconst 146 hX dX8_lineUp_145 (v := 0) (by decide) ?_
                                  refine r_zret hX hT dX8_lineUp_146 (by first | assumption | decide) ?_
                                  clear hT hX hR hlX
                                  exact Or.inr ⟨fun h => by obtain ⟨-, -, -, h1, ⟨h2, h3⟩, ⟨h4, h5, h6⟩, ⟨h7, h8, h9, h10⟩, h11, h12, h13, h14, h15⟩ := h; contradiction, rfl, rfl⟩
                              · refine r_iconst 146 hX dX8_lineUp_145 (v := 0) (by decide) ?_
                                refine r_zret hX hT dX8_lineUp_146 (by first | assumption | decide) ?_
                                clear hT hX hR hlX
                                exact Or.inr ⟨fun h => by obtain ⟨-, -, -, h1, ⟨h2, h3⟩, ⟨h4, h5, h6⟩, ⟨h7, h8, h9, h10⟩, h11, h12, h13, h14, h15⟩ := h; contradiction, rfl, rfl⟩
                            · refine r_iconst 146 hX dX8_lineUp_145 (v := 0) (by decide) ?_
                              refine r_zret hX hT dX8_lineUp_146 (by first | assumption | decide) ?_
                              clear hT hX hR hlX
                              exact Or.inr ⟨fun h => by obtain ⟨-, -, -, h1, ⟨h2, h3⟩, ⟨h4, h5, h6⟩, ⟨h7, h8, h9, h10⟩, h11, h12, h13, h14, h15⟩ := h; contradiction, rfl, rfl⟩
                          · refine r_iconst 117 hX dX8_lineUp_116 (v := 0) (by decide) ?_
                            refine r_zret hX hT dX8_lineUp_117 (by first | assumption | decide) ?_
                            clear hT hX hR hlX
                            exact Or.inr ⟨fun h => by obtain ⟨-, ⟨⟨h1, h2, h3⟩, h4, h5, h6⟩, ⟨⟨h7, h8, h9⟩, h10, h11, h12⟩, -⟩ := h; contradiction, rfl, rfl⟩
                      · refine r_iconst 146 hX dX8_lineUp_145 (v := 0) (by decide) ?_
                        refine r_zret hX hT dX8_lineUp_146 (by first | assumption | decide) ?_
                        clear hT hX hR hlX
                        exact Or.inr ⟨fun h => by obtain ⟨-, -, -, h1, ⟨h2, h3⟩, ⟨h4, h5, h6⟩, ⟨h7, h8, h9, h10⟩, h11, h12, h13, h14, h15⟩ := h; contradiction, rfl, rfl⟩
                    · refine r_iconst 146 hX dX8_lineUp_145 (v := 0) (by decide) ?_
                      refine r_zret hX hT dX8_lineUp_146 (by first | assumption | decide) ?_
                      clear hT hX hR hlX
                      exact Or.inr ⟨fun h => by obtain ⟨-, -, -, h1, ⟨h2, h3⟩, ⟨h4, h5, h6⟩, ⟨h7, h8, h9, h10⟩, h11, h12, h13, h14, h15⟩ := h; contradiction, rfl, rfl⟩
                  · refine r_iconst 117 hX dX8_lineUp_116 (v := 0) (by decide) ?_
                    refine r_zret hX hT dX8_lineUp_117 (by first | assumption | decide) ?_
                    clear hT hX hR hlX
                    exact Or.inr ⟨fun h => by obtain ⟨-, ⟨⟨h1, h2, h3⟩, h4, h5, h6⟩, ⟨⟨h7, h8, h9⟩, h10, h11, h12⟩, -⟩ := h; contradiction, rfl, rfl⟩
              · refine r_iconst 146 hX dX8_lineUp_145 (v := 0) (by decide) ?_
                refine r_zret hX hT dX8_lineUp_146 (by first | assumption | decide) ?_
                clear hT hX hR hlX
                exact Or.inr ⟨fun h => by obtain ⟨-, -, -, h1, ⟨h2, h3⟩, ⟨h4, h5, h6⟩, ⟨h7, h8, h9, h10⟩, h11, h12, h13, h14, h15⟩ := h; contradiction, rfl, rfl⟩
            · refine r_iconst 117 hX dX8_lineUp_116 (v := 0) (by decide) ?_
              refine r_zret hX hT dX8_lineUp_117 (by first | assumption | decide) ?_
              clear hT hX hR hlX
              exact Or.inr ⟨fun h => by obtain ⟨-, ⟨⟨h1, h2, h3⟩, h4, h5, h6⟩, ⟨⟨h7, h8, h9⟩, h10, h11, h12⟩, -⟩ := h; contradiction, rfl, rfl⟩
        · refine r_iconst 117 hX dX8_lineUp_116 (v := 0) (by decide) ?_
          refine r_zret hX hT dX8_lineUp_117 (by first | assumption | decide) ?_
          clear hT hX hR hlX
          exact Or.inr ⟨fun h => by obtain ⟨-, ⟨⟨h1, h2, h3⟩, h4, h5, h6⟩, ⟨⟨h7, h8, h9⟩, h10, h11, h12⟩, -⟩ := h; contradiction, rfl, rfl⟩
    · refine r_iconst 76 hX dX8_lineUp_75 (v := 0) (by decide) ?_
      refine r_zret hX hT dX8_lineUp_76 (by first | assumption | decide) ?_
      clear hT hX hR hlX
      exact Or.inr ⟨fun h => by first | exact h.1.1 c1 | exact c2 h.1.2, rfl, rfl⟩

section
-- ===== PART A: goes FIRST, ahead of the names: the tables' words, and 'selects' of the private methods out of them =====
/-- a private method of a class that the tables say can be made, by its rows of tables_1 -/
def lw_okq (q : MethodName × Nat) : Prop := (q.1.cls ≠ "java/lang/invoke/MethodHandle" ∧ q.1.cls ≠ "java/lang/invoke/VarHandle") ∧ Cond.instantiable q.1.cls q.2 ∈ tables_1 ∧ Cond.privateMethod q.1 ∈ tables_1 ∧ Cond.instanceMethod q.1 ∈ tables_1
theorem lw_p0 : lw_okq (⟨"SixWhoTurn", "squadOf", "(I)LSixWhoTurn$Squad;"⟩, 15) := ⟨⟨by decide +kernel, by decide +kernel⟩, List.mem_of_getElem? (i := 18) (by decide +kernel), List.mem_of_getElem? (i := 256) (by decide +kernel), List.mem_of_getElem? (i := 257) (by decide +kernel)⟩
theorem lw_p1 : lw_okq (⟨"SixWhoTurn", "winRally", "(I)I"⟩, 15) := ⟨⟨by decide +kernel, by decide +kernel⟩, List.mem_of_getElem? (i := 18) (by decide +kernel), List.mem_of_getElem? (i := 341) (by decide +kernel), List.mem_of_getElem? (i := 342) (by decide +kernel)⟩
theorem lw_p2 : lw_okq (⟨"SixWhoTurn", "courtOf", "(I)LSixWhoTurn$Court;"⟩, 15) := ⟨⟨by decide +kernel, by decide +kernel⟩, List.mem_of_getElem? (i := 18) (by decide +kernel), List.mem_of_getElem? (i := 345) (by decide +kernel), List.mem_of_getElem? (i := 346) (by decide +kernel)⟩
theorem lw_p3 : lw_okq (⟨"SixWhoTurn", "closeIfWon", "(I)I"⟩, 15) := ⟨⟨by decide +kernel, by decide +kernel⟩, List.mem_of_getElem? (i := 18) (by decide +kernel), List.mem_of_getElem? (i := 357) (by decide +kernel), List.mem_of_getElem? (i := 358) (by decide +kernel)⟩
theorem lw_p4 : lw_okq (⟨"SixWhoTurn", "stanceOf", "(I)LSixWhoTurn$Stance;"⟩, 15) := ⟨⟨by decide +kernel, by decide +kernel⟩, List.mem_of_getElem? (i := 18) (by decide +kernel), List.mem_of_getElem? (i := 446) (by decide +kernel), List.mem_of_getElem? (i := 447) (by decide +kernel)⟩
theorem lw_p5 : lw_okq (⟨"SixWhoTurn$Text", "faultInItem", "(I)I"⟩, 2) := ⟨⟨by decide +kernel, by decide +kernel⟩, List.mem_of_getElem? (i := 161) (by decide +kernel), List.mem_of_getElem? (i := 489) (by decide +kernel), List.mem_of_getElem? (i := 490) (by decide +kernel)⟩
theorem lw_p6 : lw_okq (⟨"SixWhoTurn", "doItems", "(I)I"⟩, 15) := ⟨⟨by decide +kernel, by decide +kernel⟩, List.mem_of_getElem? (i := 18) (by decide +kernel), List.mem_of_getElem? (i := 507) (by decide +kernel), List.mem_of_getElem? (i := 508) (by decide +kernel)⟩
theorem lw_p7 : lw_okq (⟨"SixWhoTurn", "saveMatch", "()V"⟩, 15) := ⟨⟨by decide +kernel, by decide +kernel⟩, List.mem_of_getElem? (i := 18) (by decide +kernel), List.mem_of_getElem? (i := 511) (by decide +kernel), List.mem_of_getElem? (i := 512) (by decide +kernel)⟩
theorem lw_p8 : lw_okq (⟨"SixWhoTurn", "doItem", "(I)I"⟩, 15) := ⟨⟨by decide +kernel, by decide +kernel⟩, List.mem_of_getElem? (i := 18) (by decide +kernel), List.mem_of_getElem? (i := 524) (by decide +kernel), List.mem_of_getElem? (i := 525) (by decide +kernel)⟩
theorem lw_p9 : lw_okq (⟨"SixWhoTurn", "restoreMatch", "()V"⟩, 15) := ⟨⟨by decide +kernel, by decide +kernel⟩, List.mem_of_getElem? (i := 18) (by decide +kernel), List.mem_of_getElem? (i := 534) (by decide +kernel), List.mem_of_getElem? (i := 535) (by decide +kernel)⟩
theorem lw_p10 : lw_okq (⟨"SixWhoTurn", "takeCourts", "()V"⟩, 15) := ⟨⟨by decide +kernel, by decide +kernel⟩, List.mem_of_getElem? (i := 18) (by decide +kernel), List.mem_of_getElem? (i := 544) (by decide +kernel), List.mem_of_getElem? (i := 545) (by decide +kernel)⟩
theorem lw_p11 : lw_okq (⟨"SixWhoTurn", "chanceNow", "()I"⟩, 15) := ⟨⟨by decide +kernel, by decide +kernel⟩, List.mem_of_getElem? (i := 18) (by decide +kernel), List.mem_of_getElem? (i := 576) (by decide +kernel), List.mem_of_getElem? (i := 577) (by decide +kernel)⟩
theorem lw_p12 : lw_okq (⟨"SixWhoTurn", "chanceFrom", "(III)I"⟩, 15) := ⟨⟨by decide +kernel, by decide +kernel⟩, List.mem_of_getElem? (i := 18) (by decide +kernel), List.mem_of_getElem? (i := 580) (by decide +kernel), List.mem_of_getElem? (i := 581) (by decide +kernel)⟩
theorem lw_p13 : lw_okq (⟨"SixWhoTurn$Chances", "fillScore", "(III)V"⟩, 5) := ⟨⟨by decide +kernel, by decide +kernel⟩, List.mem_of_getElem? (i := 176) (by decide +kernel), List.mem_of_getElem? (i := 595) (by decide +kernel), List.mem_of_getElem? (i := 596) (by decide +kernel)⟩
theorem lw_p14 : lw_okq (⟨"SixWhoTurn$Chances", "reckonScore", "(II)V"⟩, 5) := ⟨⟨by decide +kernel, by decide +kernel⟩, List.mem_of_getElem? (i := 176) (by decide +kernel), List.mem_of_getElem? (i := 599) (by decide +kernel), List.mem_of_getElem? (i := 600) (by decide +kernel)⟩
theorem lw_p15 : lw_okq (⟨"SixWhoTurn$Chances", "valueAt", "(III)I"⟩, 5) := ⟨⟨by decide +kernel, by decide +kernel⟩, List.mem_of_getElem? (i := 176) (by decide +kernel), List.mem_of_getElem? (i := 604) (by decide +kernel), List.mem_of_getElem? (i := 605) (by decide +kernel)⟩
def lw_privs_1 : List (MethodName × Nat) := [(⟨"SixWhoTurn", "squadOf", "(I)LSixWhoTurn$Squad;"⟩, 15), (⟨"SixWhoTurn", "winRally", "(I)I"⟩, 15), (⟨"SixWhoTurn", "courtOf", "(I)LSixWhoTurn$Court;"⟩, 15), (⟨"SixWhoTurn", "closeIfWon", "(I)I"⟩, 15), (⟨"SixWhoTurn", "stanceOf", "(I)LSixWhoTurn$Stance;"⟩, 15), (⟨"SixWhoTurn$Text", "faultInItem", "(I)I"⟩, 2), (⟨"SixWhoTurn", "doItems", "(I)I"⟩, 15), (⟨"SixWhoTurn", "saveMatch", "()V"⟩, 15), (⟨"SixWhoTurn", "doItem", "(I)I"⟩, 15), (⟨"SixWhoTurn", "restoreMatch", "()V"⟩, 15), (⟨"SixWhoTurn", "takeCourts", "()V"⟩, 15), (⟨"SixWhoTurn", "chanceNow", "()I"⟩, 15), (⟨"SixWhoTurn", "chanceFrom", "(III)I"⟩, 15), (⟨"SixWhoTurn$Chances", "fillScore", "(III)V"⟩, 5), (⟨"SixWhoTurn$Chances", "reckonScore", "(II)V"⟩, 5), (⟨"SixWhoTurn$Chances", "valueAt", "(III)I"⟩, 5)]
theorem lw_r1 : ∀ q ∈ lw_privs_1, lw_okq q := List.forall_mem_cons.mpr ⟨lw_p0, List.forall_mem_cons.mpr ⟨lw_p1, List.forall_mem_cons.mpr ⟨lw_p2, List.forall_mem_cons.mpr ⟨lw_p3, List.forall_mem_cons.mpr ⟨lw_p4, List.forall_mem_cons.mpr ⟨lw_p5, List.forall_mem_cons.mpr ⟨lw_p6, List.forall_mem_cons.mpr ⟨lw_p7, List.forall_mem_cons.mpr ⟨lw_p8, List.forall_mem_cons.mpr ⟨lw_p9, List.forall_mem_cons.mpr ⟨lw_p10, List.forall_mem_cons.mpr ⟨lw_p11, List.forall_mem_cons.mpr ⟨lw_p12, List.forall_mem_cons.mpr ⟨lw_p13, List.forall_mem_cons.mpr ⟨lw_p14, List.forall_mem_cons.mpr ⟨lw_p15, fun _ h => absurd h List.not_mem_nil⟩⟩⟩⟩⟩⟩⟩⟩⟩⟩⟩⟩⟩⟩⟩⟩
theorem lw_p16 : lw_okq (⟨"SixWhoTurn", "tellRow", "(I)V"⟩, 15) := ⟨⟨by decide +kernel, by decide +kernel⟩, List.mem_of_getElem? (i := 18) (by decide +kernel), List.mem_of_getElem? (i := 623) (by decide +kernel), List.mem_of_getElem? (i := 624) (by decide +kernel)⟩
theorem lw_p17 : lw_okq (⟨"SixWhoTurn", "chanceAfter", "(III)I"⟩, 15) := ⟨⟨by decide +kernel, by decide +kernel⟩, List.mem_of_getElem? (i := 18) (by decide +kernel), List.mem_of_getElem? (i := 631) (by decide +kernel), List.mem_of_getElem? (i := 632) (by decide +kernel)⟩
theorem lw_p18 : lw_okq (⟨"java/lang/Throwable", "fillInStackTrace", "(I)Ljava/lang/Throwable;"⟩, 6) := ⟨⟨by decide +kernel, by decide +kernel⟩, List.mem_of_getElem? (i := 683) (by decide +kernel), List.mem_of_getElem? (i := 681) (by decide +kernel), List.mem_of_getElem? (i := 682) (by decide +kernel)⟩
theorem lw_p19 : lw_okq (⟨"SixWhoTurnModel", "put", "(III)V"⟩, 18) := ⟨⟨by decide +kernel, by decide +kernel⟩, List.mem_of_getElem? (i := 708) (by decide +kernel), List.mem_of_getElem? (i := 715) (by decide +kernel), List.mem_of_getElem? (i := 716) (by decide +kernel)⟩
theorem lw_p20 : lw_okq (⟨"SixWhoTurnModel", "stand", "()V"⟩, 18) := ⟨⟨by decide +kernel, by decide +kernel⟩, List.mem_of_getElem? (i := 708) (by decide +kernel), List.mem_of_getElem? (i := 719) (by decide +kernel), List.mem_of_getElem? (i := 720) (by decide +kernel)⟩
theorem lw_p21 : lw_okq (⟨"SixWhoTurnModel", "skillOf", "(III)I"⟩, 18) := ⟨⟨by decide +kernel, by decide +kernel⟩, List.mem_of_getElem? (i := 708) (by decide +kernel), List.mem_of_getElem? (i := 798) (by decide +kernel), List.mem_of_getElem? (i := 799) (by decide +kernel)⟩
theorem lw_p22 : lw_okq (⟨"SixWhoTurnModel", "isOn", "()Z"⟩, 18) := ⟨⟨by decide +kernel, by decide +kernel⟩, List.mem_of_getElem? (i := 708) (by decide +kernel), List.mem_of_getElem? (i := 806) (by decide +kernel), List.mem_of_getElem? (i := 807) (by decide +kernel)⟩
theorem lw_p23 : lw_okq (⟨"SixWhoTurnModel", "hasFree", "(I)Z"⟩, 18) := ⟨⟨by decide +kernel, by decide +kernel⟩, List.mem_of_getElem? (i := 708) (by decide +kernel), List.mem_of_getElem? (i := 826) (by decide +kernel), List.mem_of_getElem? (i := 827) (by decide +kernel)⟩
theorem lw_p24 : lw_okq (⟨"SixWhoTurnModel", "get", "(II)I"⟩, 18) := ⟨⟨by decide +kernel, by decide +kernel⟩, List.mem_of_getElem? (i := 708) (by decide +kernel), List.mem_of_getElem? (i := 830) (by decide +kernel), List.mem_of_getElem? (i := 831) (by decide +kernel)⟩
theorem lw_p25 : lw_okq (⟨"SixWhoTurnModel", "point", "(I)I"⟩, 18) := ⟨⟨by decide +kernel, by decide +kernel⟩, List.mem_of_getElem? (i := 708) (by decide +kernel), List.mem_of_getElem? (i := 838) (by decide +kernel), List.mem_of_getElem? (i := 839) (by decide +kernel)⟩
theorem lw_p26 : lw_okq (⟨"SixWhoTurnModel", "goal", "()I"⟩, 18) := ⟨⟨by decide +kernel, by decide +kernel⟩, List.mem_of_getElem? (i := 708) (by decide +kernel), List.mem_of_getElem? (i := 842) (by decide +kernel), List.mem_of_getElem? (i := 843) (by decide +kernel)⟩
theorem lw_p27 : lw_okq (⟨"SixWhoTurnModel", "isLastSet", "()Z"⟩, 18) := ⟨⟨by decide +kernel, by decide +kernel⟩, List.mem_of_getElem? (i := 708) (by decide +kernel), List.mem_of_getElem? (i := 846) (by decide +kernel), List.mem_of_getElem? (i := 847) (by decide +kernel)⟩
theorem lw_p28 : lw_okq (⟨"SixWhoTurnModel", "turn", "(I)V"⟩, 18) := ⟨⟨by decide +kernel, by decide +kernel⟩, List.mem_of_getElem? (i := 708) (by decide +kernel), List.mem_of_getElem? (i := 850) (by decide +kernel), List.mem_of_getElem? (i := 851) (by decide +kernel)⟩
theorem lw_p29 : lw_okq (⟨"SixWhoTurnModel", "wins", "(III)Z"⟩, 18) := ⟨⟨by decide +kernel, by decide +kernel⟩, List.mem_of_getElem? (i := 708) (by decide +kernel), List.mem_of_getElem? (i := 854) (by decide +kernel), List.mem_of_getElem? (i := 855) (by decide +kernel)⟩
theorem lw_p30 : lw_okq (⟨"SixWhoTurnModel", "mayNot", "(III)I"⟩, 18) := ⟨⟨by decide +kernel, by decide +kernel⟩, List.mem_of_getElem? (i := 708) (by decide +kernel), List.mem_of_getElem? (i := 862) (by decide +kernel), List.mem_of_getElem? (i := 863) (by decide +kernel)⟩
theorem lw_p31 : lw_okq (⟨"SixWhoTurnModel", "placeOf", "(II)I"⟩, 18) := ⟨⟨by decide +kernel, by decide +kernel⟩, List.mem_of_getElem? (i := 708) (by decide +kernel), List.mem_of_getElem? (i := 866) (by decide +kernel), List.mem_of_getElem? (i := 867) (by decide +kernel)⟩
def lw_privs_2 : List (MethodName × Nat) := [(⟨"SixWhoTurn", "tellRow", "(I)V"⟩, 15), (⟨"SixWhoTurn", "chanceAfter", "(III)I"⟩, 15), (⟨"java/lang/Throwable", "fillInStackTrace", "(I)Ljava/lang/Throwable;"⟩, 6), (⟨"SixWhoTurnModel", "put", "(III)V"⟩, 18), (⟨"SixWhoTurnModel", "stand", "()V"⟩, 18), (⟨"SixWhoTurnModel", "skillOf", "(III)I"⟩, 18), (⟨"SixWhoTurnModel", "isOn", "()Z"⟩, 18), (⟨"SixWhoTurnModel", "hasFree", "(I)Z"⟩, 18), (⟨"SixWhoTurnModel", "get", "(II)I"⟩, 18), (⟨"SixWhoTurnModel", "point", "(I)I"⟩, 18), (⟨"SixWhoTurnModel", "goal", "()I"⟩, 18), (⟨"SixWhoTurnModel", "isLastSet", "()Z"⟩, 18), (⟨"SixWhoTurnModel", "turn", "(I)V"⟩, 18), (⟨"SixWhoTurnModel", "wins", "(III)Z"⟩, 18), (⟨"SixWhoTurnModel", "mayNot", "(III)I"⟩, 18), (⟨"SixWhoTurnModel", "placeOf", "(II)I"⟩, 18)]
theorem lw_r2 : ∀ q ∈ lw_privs_2, lw_okq q := List.forall_mem_cons.mpr ⟨lw_p16, List.forall_mem_cons.mpr ⟨lw_p17, List.forall_mem_cons.mpr ⟨lw_p18, List.forall_mem_cons.mpr ⟨lw_p19, List.forall_mem_cons.mpr ⟨lw_p20, List.forall_mem_cons.mpr ⟨lw_p21, List.forall_mem_cons.mpr ⟨lw_p22, List.forall_mem_cons.mpr ⟨lw_p23, List.forall_mem_cons.mpr ⟨lw_p24, List.forall_mem_cons.mpr ⟨lw_p25, List.forall_mem_cons.mpr ⟨lw_p26, List.forall_mem_cons.mpr ⟨lw_p27, List.forall_mem_cons.mpr ⟨lw_p28, List.forall_mem_cons.mpr ⟨lw_p29, List.forall_mem_cons.mpr ⟨lw_p30, List.forall_mem_cons.mpr ⟨lw_p31, fun _ h => absurd h List.not_mem_nil⟩⟩⟩⟩⟩⟩⟩⟩⟩⟩⟩⟩⟩⟩⟩⟩
theorem lw_p32 : lw_okq (⟨"SixWhoTurnModel", "doChange", "(III)I"⟩, 18) := ⟨⟨by decide +kernel, by decide +kernel⟩, List.mem_of_getElem? (i := 708) (by decide +kernel), List.mem_of_getElem? (i := 874) (by decide +kernel), List.mem_of_getElem? (i := 875) (by decide +kernel)⟩
theorem lw_p33 : lw_okq (⟨"SixWhoTurnModel", "doFree", "(II)I"⟩, 18) := ⟨⟨by decide +kernel, by decide +kernel⟩, List.mem_of_getElem? (i := 708) (by decide +kernel), List.mem_of_getElem? (i := 882) (by decide +kernel), List.mem_of_getElem? (i := 883) (by decide +kernel)⟩
theorem lw_p34 : lw_okq (⟨"SixWhoTurnModel", "doPause", "(I)I"⟩, 18) := ⟨⟨by decide +kernel, by decide +kernel⟩, List.mem_of_getElem? (i := 708) (by decide +kernel), List.mem_of_getElem? (i := 890) (by decide +kernel), List.mem_of_getElem? (i := 891) (by decide +kernel)⟩
theorem lw_p35 : lw_okq (⟨"SixWhoTurnModel", "reads", "(II)I"⟩, 18) := ⟨⟨by decide +kernel, by decide +kernel⟩, List.mem_of_getElem? (i := 708) (by decide +kernel), List.mem_of_getElem? (i := 939) (by decide +kernel), List.mem_of_getElem? (i := 940) (by decide +kernel)⟩
theorem lw_p36 : lw_okq (⟨"SixWhoTurnModel", "putAside", "()V"⟩, 18) := ⟨⟨by decide +kernel, by decide +kernel⟩, List.mem_of_getElem? (i := 708) (by decide +kernel), List.mem_of_getElem? (i := 946) (by decide +kernel), List.mem_of_getElem? (i := 947) (by decide +kernel)⟩
theorem lw_p37 : lw_okq (⟨"SixWhoTurnModel", "doItem", "(I)Z"⟩, 18) := ⟨⟨by decide +kernel, by decide +kernel⟩, List.mem_of_getElem? (i := 708) (by decide +kernel), List.mem_of_getElem? (i := 950) (by decide +kernel), List.mem_of_getElem? (i := 951) (by decide +kernel)⟩
theorem lw_p38 : lw_okq (⟨"SixWhoTurnModel", "putBack", "()V"⟩, 18) := ⟨⟨by decide +kernel, by decide +kernel⟩, List.mem_of_getElem? (i := 708) (by decide +kernel), List.mem_of_getElem? (i := 954) (by decide +kernel), List.mem_of_getElem? (i := 955) (by decide +kernel)⟩
theorem lw_p39 : lw_okq (⟨"SixWhoTurnModel", "countNow", "()V"⟩, 18) := ⟨⟨by decide +kernel, by decide +kernel⟩, List.mem_of_getElem? (i := 708) (by decide +kernel), List.mem_of_getElem? (i := 962) (by decide +kernel), List.mem_of_getElem? (i := 963) (by decide +kernel)⟩
theorem lw_p40 : lw_okq (⟨"SixWhoTurnModel", "oddsOf", "(III)I"⟩, 18) := ⟨⟨by decide +kernel, by decide +kernel⟩, List.mem_of_getElem? (i := 708) (by decide +kernel), List.mem_of_getElem? (i := 966) (by decide +kernel), List.mem_of_getElem? (i := 967) (by decide +kernel)⟩
theorem lw_p41 : lw_okq (⟨"SixWhoTurnModel", "later", "(III)I"⟩, 18) := ⟨⟨by decide +kernel, by decide +kernel⟩, List.mem_of_getElem? (i := 708) (by decide +kernel), List.mem_of_getElem? (i := 970) (by decide +kernel), List.mem_of_getElem? (i := 971) (by decide +kernel)⟩
theorem lw_p42 : lw_okq (⟨"SixWhoTurnModel", "sum", "(IIIIII)I"⟩, 18) := ⟨⟨by decide +kernel, by decide +kernel⟩, List.mem_of_getElem? (i := 708) (by decide +kernel), List.mem_of_getElem? (i := 974) (by decide +kernel), List.mem_of_getElem? (i := 975) (by decide +kernel)⟩
theorem lw_p43 : lw_okq (⟨"SixWhoTurnModel", "fill", "(I)V"⟩, 18) := ⟨⟨by decide +kernel, by decide +kernel⟩, List.mem_of_getElem? (i := 708) (by decide +kernel), List.mem_of_getElem? (i := 983) (by decide +kernel), List.mem_of_getElem? (i := 984) (by decide +kernel)⟩
theorem lw_p44 : lw_okq (⟨"SixWhoTurnModel", "now", "()I"⟩, 18) := ⟨⟨by decide +kernel, by decide +kernel⟩, List.mem_of_getElem? (i := 708) (by decide +kernel), List.mem_of_getElem? (i := 996) (by decide +kernel), List.mem_of_getElem? (i := 997) (by decide +kernel)⟩
def lw_privs_3 : List (MethodName × Nat) := [(⟨"SixWhoTurnModel", "doChange", "(III)I"⟩, 18), (⟨"SixWhoTurnModel", "doFree", "(II)I"⟩, 18), (⟨"SixWhoTurnModel", "doPause", "(I)I"⟩, 18), (⟨"SixWhoTurnModel", "reads", "(II)I"⟩, 18), (⟨"SixWhoTurnModel", "putAside", "()V"⟩, 18), (⟨"SixWhoTurnModel", "doItem", "(I)Z"⟩, 18), (⟨"SixWhoTurnModel", "putBack", "()V"⟩, 18), (⟨"SixWhoTurnModel", "countNow", "()V"⟩, 18), (⟨"SixWhoTurnModel", "oddsOf", "(III)I"⟩, 18), (⟨"SixWhoTurnModel", "later", "(III)I"⟩, 18), (⟨"SixWhoTurnModel", "sum", "(IIIIII)I"⟩, 18), (⟨"SixWhoTurnModel", "fill", "(I)V"⟩, 18), (⟨"SixWhoTurnModel", "now", "()I"⟩, 18)]
theorem lw_r3 : ∀ q ∈ lw_privs_3, lw_okq q := List.forall_mem_cons.mpr ⟨lw_p32, List.forall_mem_cons.mpr ⟨lw_p33, List.forall_mem_cons.mpr ⟨lw_p34, List.forall_mem_cons.mpr ⟨lw_p35, List.forall_mem_cons.mpr ⟨lw_p36, List.forall_mem_cons.mpr ⟨lw_p37, List.forall_mem_cons.mpr ⟨lw_p38, List.forall_mem_cons.mpr ⟨lw_p39, List.forall_mem_cons.mpr ⟨lw_p40, List.forall_mem_cons.mpr ⟨lw_p41, List.forall_mem_cons.mpr ⟨lw_p42, List.forall_mem_cons.mpr ⟨lw_p43, List.forall_mem_cons.mpr ⟨lw_p44, fun _ h => absurd h List.not_mem_nil⟩⟩⟩⟩⟩⟩⟩⟩⟩⟩⟩⟩⟩
def lw_privs : List (MethodName × Nat) := lw_privs_1 ++ (lw_privs_2 ++ (lw_privs_3))
def lw_tbl : List Cond := k2_sels lw_privs ++ tables_1
theorem lw_privs_ok : ∀ q ∈ lw_privs, lw_okq q := by
  show ∀ q ∈ lw_privs_1 ++ (lw_privs_2 ++ (lw_privs_3)), lw_okq q
  exact List.forall_mem_append.mpr ⟨lw_r1, List.forall_mem_append.mpr ⟨lw_r2, lw_r3⟩⟩
end
section
def RX0 : String := "SixWhoTurn$Chances"
def TX0 : u_T := fun k => match k with
  | 0 => ("SixWhoTurn$Chances", "order0", "[I", true)
  | 1 => ("SixWhoTurn$Chances", "order1", "[I", true)
  | 2 => ("SixWhoTurn$Chances", "phaseChance", "[I", true)
  | 3 => ("SixWhoTurn$Chances", "rows", "[[I", true)
  | _ => ("SixWhoTurn$Chances", "first", "I", false)
def tyX0 : Nat → FieldType := fun k => match k with
  | 0 => .array .int
  | 1 => .array .int
  | 2 => .array .int
  | 3 => .array (.array .int)
  | _ => .int
abbrev wsX00 : List Cond := u_ws RX0 TX0 5
theorem nmX0 : ∀ a, a < 5 → ∀ b, b < 5 → a ≠ b → (TX0 a).2.1 ≠ (TX0 b).2.1 := by decide +kernel
theorem tyX0_ok : ∀ k, k < 5 → parseFieldDescriptor (TX0 k).2.2.1 = some (tyX0 k) := by decide +kernel
abbrev cX0_init : ByteArray := prog_2_method_1_code
def yX0_init : MethodName := ⟨RX0, "<init>", "()V"⟩
abbrev cX0_take : ByteArray := prog_2_method_2_code
def yX0_take : MethodName := ⟨RX0, "take", "(I[II)V"⟩
abbrev cX0_replace : ByteArray := prog_2_method_3_code
def yX0_replace : MethodName := ⟨RX0, "replace", "(III)V"⟩
abbrev cX0_rallyChance : ByteArray := prog_2_method_4_code
def yX0_rallyChance : MethodName := ⟨RX0, "rallyChance", "(LSixWhoTurn$Squad;LSixWhoTurn$Squad;III)I"⟩
abbrev cX0_fillPhases : ByteArray := prog_2_method_5_code
def yX0_fillPhases : MethodName := ⟨RX0, "fillPhases", "(LSixWhoTurn$Squad;LSixWhoTurn$Squad;I)V"⟩
abbrev cX0_setChance : ByteArray := prog_2_method_6_code
def yX0_setChance : MethodName := ⟨RX0, "setChance", "(IIII)I"⟩
abbrev cX0_weightOfRally : ByteArray := prog_2_method_7_code
def yX0_weightOfRally : MethodName := ⟨RX0, "weightOfRally", "(II)I"⟩
abbrev cX0_valueAt : ByteArray := prog_2_method_8_code
def yX0_valueAt : MethodName := ⟨RX0, "valueAt", "(III)I"⟩
abbrev cX0_fillScore : ByteArray := prog_2_method_9_code
def yX0_fillScore : MethodName := ⟨RX0, "fillScore", "(III)V"⟩
abbrev cX0_reckonScore : ByteArray := prog_2_method_10_code
def yX0_reckonScore : MethodName := ⟨RX0, "reckonScore", "(II)V"⟩
def RX1 : String := "SixWhoTurn$Course"
def TX1 : u_T := fun k => match k with
  | 0 => ("SixWhoTurn$Course", "number", "I", false)
  | 1 => ("SixWhoTurn$Course", "on", "Z", false)
  | 2 => ("SixWhoTurn$Course", "serving", "I", false)
  | 3 => ("SixWhoTurn$Course", "streak", "I", false)
  | 4 => ("SixWhoTurn$Course", "rallies", "I", false)
  | 5 => ("SixWhoTurn$Course", "setWinner", "I", false)
  | _ => ("SixWhoTurn$Course", "matchWinner", "I", false)
def tyX1 : Nat → FieldType := fun k => match k with
  | 0 => .int
  | 1 => .boolean
  | 2 => .int
  | 3 => .int
  | 4 => .int
  | 5 => .int
  | _ => .int
abbrev wsX10 : List Cond := u_ws RX1 TX1 7
theorem nmX1 : ∀ a, a < 7 → ∀ b, b < 7 → a ≠ b → (TX1 a).2.1 ≠ (TX1 b).2.1 := by decide +kernel
theorem tyX1_ok : ∀ k, k < 7 → parseFieldDescriptor (TX1 k).2.2.1 = some (tyX1 k) := by decide +kernel
abbrev cX1_init : ByteArray := prog_3_method_1_code
def yX1_init : MethodName := ⟨RX1, "<init>", "()V"⟩
abbrev cX1_startSet : ByteArray := prog_3_method_2_code
def yX1_startSet : MethodName := ⟨RX1, "startSet", "(I)V"⟩
abbrev cX1_copyFrom : ByteArray := prog_3_method_3_code
def yX1_copyFrom : MethodName := ⟨RX1, "copyFrom", "(LSixWhoTurn$Course;)V"⟩
def RX2 : String := "SixWhoTurn$Court"
def TX2 : u_T := fun k => match k with
  | 0 => ("SixWhoTurn$Court", "order", "[I", true)
  | 1 => ("SixWhoTurn$Court", "standing", "[I", true)
  | 2 => ("SixWhoTurn$Court", "cameFor", "[I", true)
  | 3 => ("SixWhoTurn$Court", "servePoints", "[I", true)
  | 4 => ("SixWhoTurn$Court", "freeOne", "I", false)
  | 5 => ("SixWhoTurn$Court", "freePlace", "I", false)
  | 6 => ("SixWhoTurn$Court", "freeMoved", "Z", false)
  | 7 => ("SixWhoTurn$Court", "points", "I", false)
  | 8 => ("SixWhoTurn$Court", "setsWon", "I", false)
  | 9 => ("SixWhoTurn$Court", "changesDone", "I", false)
  | 10 => ("SixWhoTurn$Court", "pausesDone", "I", false)
  | _ => ("SixWhoTurn$Court", "turnsDone", "I", false)
def tyX2 : Nat → FieldType := fun k => match k with
  | 0 => .array .int
  | 1 => .array .int
  | 2 => .array .int
  | 3 => .array .int
  | 4 => .int
  | 5 => .int
  | 6 => .boolean
  | 7 => .int
  | 8 => .int
  | 9 => .int
  | 10 => .int
  | _ => .int
abbrev wsX20 : List Cond := u_ws RX2 TX2 12
theorem nmX2 : ∀ a, a < 12 → ∀ b, b < 12 → a ≠ b → (TX2 a).2.1 ≠ (TX2 b).2.1 := by decide +kernel
theorem tyX2_ok : ∀ k, k < 12 → parseFieldDescriptor (TX2 k).2.2.1 = some (tyX2 k) := by decide +kernel
abbrev cX2_init : ByteArray := prog_4_method_1_code
def yX2_init : MethodName := ⟨RX2, "<init>", "()V"⟩
abbrev cX2_startSet : ByteArray := prog_4_method_2_code
def yX2_startSet : MethodName := ⟨RX2, "startSet", "(LSixWhoTurn$Squad;)V"⟩
abbrev cX2_copyFrom : ByteArray := prog_4_method_3_code
def yX2_copyFrom : MethodName := ⟨RX2, "copyFrom", "(LSixWhoTurn$Court;)V"⟩
abbrev cX2_placeOf : ByteArray := prog_4_method_4_code
def yX2_placeOf : MethodName := ⟨RX2, "placeOf", "(I)I"⟩
abbrev cX2_playerAt : ByteArray := prog_4_method_5_code
def yX2_playerAt : MethodName := ⟨RX2, "playerAt", "(I)I"⟩
abbrev cX2_freeStandsFor : ByteArray := prog_4_method_6_code
def yX2_freeStandsFor : MethodName := ⟨RX2, "freeStandsFor", "()I"⟩
abbrev cX2_turnOn : ByteArray := prog_4_method_7_code
def yX2_turnOn : MethodName := ⟨RX2, "turnOn", "()V"⟩
abbrev cX2_countServe : ByteArray := prog_4_method_8_code
def yX2_countServe : MethodName := ⟨RX2, "countServe", "()V"⟩
abbrev cX2_mayLeave : ByteArray := prog_4_method_9_code
def yX2_mayLeave : MethodName := ⟨RX2, "mayLeave", "(I)Z"⟩
abbrev cX2_mayEnter : ByteArray := prog_4_method_10_code
def yX2_mayEnter : MethodName := ⟨RX2, "mayEnter", "(I)Z"⟩
abbrev cX2_arePair : ByteArray := prog_4_method_11_code
def yX2_arePair : MethodName := ⟨RX2, "arePair", "(II)Z"⟩
abbrev cX2_exchange : ByteArray := prog_4_method_12_code
def yX2_exchange : MethodName := ⟨RX2, "exchange", "(II)I"⟩
abbrev cX2_freeOn : ByteArray := prog_4_method_13_code
def yX2_freeOn : MethodName := ⟨RX2, "freeOn", "(I)I"⟩
abbrev cX2_freeOff : ByteArray := prog_4_method_14_code
def yX2_freeOff : MethodName := ⟨RX2, "freeOff", "()I"⟩
def RX3 : String := "SixWhoTurn$Numbers"
def TX3 : u_T := fun k => match k with
  | _ => ("SixWhoTurn$Numbers", "values", "[I", true)
def tyX3 : Nat → FieldType := fun k => match k with
  | _ => .array .int
abbrev wsX30 : List Cond := u_ws RX3 TX3 1
theorem nmX3 : ∀ a, a < 1 → ∀ b, b < 1 → a ≠ b → (TX3 a).2.1 ≠ (TX3 b).2.1 := by decide +kernel
theorem tyX3_ok : ∀ k, k < 1 → parseFieldDescriptor (TX3 k).2.2.1 = some (tyX3 k) := by decide +kernel
abbrev cX3_init : ByteArray := prog_5_method_1_code
def yX3_init : MethodName := ⟨RX3, "<init>", "()V"⟩
abbrev cX3_takes : ByteArray := prog_5_method_2_code
def yX3_takes : MethodName := ⟨RX3, "takes", "(II)Z"⟩
abbrev cX3_valueOf : ByteArray := prog_5_method_3_code
def yX3_valueOf : MethodName := ⟨RX3, "valueOf", "(I)I"⟩
abbrev cX3_putValue : ByteArray := prog_5_method_4_code
def yX3_putValue : MethodName := ⟨RX3, "putValue", "(II)V"⟩
abbrev cX3_target : ByteArray := prog_5_method_5_code
def yX3_target : MethodName := ⟨RX3, "target", "(II)I"⟩
abbrev cX3_wins : ByteArray := prog_5_method_6_code
def yX3_wins : MethodName := ⟨RX3, "wins", "(IIII)Z"⟩
def RX4 : String := "SixWhoTurn$Squad"
def TX4 : u_T := fun k => match k with
  | 0 => ("SixWhoTurn$Squad", "skills", "[I", true)
  | 1 => ("SixWhoTurn$Squad", "lineUp", "[I", true)
  | 2 => ("SixWhoTurn$Squad", "freeOne", "I", false)
  | _ => ("SixWhoTurn$Squad", "told", "Z", false)
def tyX4 : Nat → FieldType := fun k => match k with
  | 0 => .array .int
  | 1 => .array .int
  | 2 => .int
  | _ => .boolean
abbrev wsX40 : List Cond := u_ws RX4 TX4 4
theorem nmX4 : ∀ a, a < 4 → ∀ b, b < 4 → a ≠ b → (TX4 a).2.1 ≠ (TX4 b).2.1 := by decide +kernel
theorem tyX4_ok : ∀ k, k < 4 → parseFieldDescriptor (TX4 k).2.2.1 = some (tyX4 k) := by decide +kernel
abbrev cX4_init : ByteArray := prog_6_method_1_code
def yX4_init : MethodName := ⟨RX4, "<init>", "()V"⟩
abbrev cX4_skillOf : ByteArray := prog_6_method_2_code
def yX4_skillOf : MethodName := ⟨RX4, "skillOf", "(II)I"⟩
abbrev cX4_putSkill : ByteArray := prog_6_method_3_code
def yX4_putSkill : MethodName := ⟨RX4, "putSkill", "(III)V"⟩
abbrev cX4_tell : ByteArray := prog_6_method_4_code
def yX4_tell : MethodName := ⟨RX4, "tell", "(IIIIII)V"⟩
abbrev cX4_isReady : ByteArray := prog_6_method_5_code
def yX4_isReady : MethodName := ⟨RX4, "isReady", "()Z"⟩
abbrev cX4_third : ByteArray := prog_6_method_6_code
def yX4_third : MethodName := ⟨RX4, "third", "([II[II)I"⟩
def RX5 : String := "SixWhoTurn$Stance"
def TX5 : u_T := fun k => match k with
  | 0 => ("SixWhoTurn$Stance", "x", "[I", true)
  | _ => ("SixWhoTurn$Stance", "y", "[I", true)
def tyX5 : Nat → FieldType := fun k => match k with
  | 0 => .array .int
  | _ => .array .int
abbrev wsX50 : List Cond := u_ws RX5 TX5 2
theorem nmX5 : ∀ a, a < 2 → ∀ b, b < 2 → a ≠ b → (TX5 a).2.1 ≠ (TX5 b).2.1 := by decide +kernel
theorem tyX5_ok : ∀ k, k < 2 → parseFieldDescriptor (TX5 k).2.2.1 = some (tyX5 k) := by decide +kernel
abbrev cX5_init : ByteArray := prog_7_method_1_code
def yX5_init : MethodName := ⟨RX5, "<init>", "()V"⟩
abbrev cX5_stand : ByteArray := prog_7_method_2_code
def yX5_stand : MethodName := ⟨RX5, "stand", "()V"⟩
abbrev cX5_put : ByteArray := prog_7_method_3_code
def yX5_put : MethodName := ⟨RX5, "put", "(III)V"⟩
abbrev cX5_firstBroken : ByteArray := prog_7_method_4_code
def yX5_firstBroken : MethodName := ⟨RX5, "firstBroken", "(Z)I"⟩
def RX6 : String := "SixWhoTurn$Text"
def TX6 : u_T := fun k => match k with
  | 0 => ("SixWhoTurn$Text", "signs", "[C", true)
  | _ => ("SixWhoTurn$Text", "length", "I", false)
def tyX6 : Nat → FieldType := fun k => match k with
  | 0 => .array .char
  | _ => .int
abbrev wsX60 : List Cond := u_ws RX6 TX6 2
theorem nmX6 : ∀ a, a < 2 → ∀ b, b < 2 → a ≠ b → (TX6 a).2.1 ≠ (TX6 b).2.1 := by decide +kernel
theorem tyX6_ok : ∀ k, k < 2 → parseFieldDescriptor (TX6 k).2.2.1 = some (tyX6 k) := by decide +kernel
abbrev cX6_init : ByteArray := prog_8_method_1_code
def yX6_init : MethodName := ⟨RX6, "<init>", "()V"⟩
abbrev cX6_append : ByteArray := prog_8_method_2_code
def yX6_append : MethodName := ⟨RX6, "append", "(C)V"⟩
abbrev cX6_signAt : ByteArray := prog_8_method_3_code
def yX6_signAt : MethodName := ⟨RX6, "signAt", "(I)C"⟩
abbrev cX6_playerOf : ByteArray := prog_8_method_4_code
def yX6_playerOf : MethodName := ⟨RX6, "playerOf", "(C)I"⟩
abbrev cX6_firstFault : ByteArray := prog_8_method_5_code
def yX6_firstFault : MethodName := ⟨RX6, "firstFault", "(I)I"⟩
abbrev cX6_faultInItem : ByteArray := prog_8_method_6_code
def yX6_faultInItem : MethodName := ⟨RX6, "faultInItem", "(I)I"⟩
abbrev cX6_itemLength : ByteArray := prog_8_method_7_code
def yX6_itemLength : MethodName := ⟨RX6, "itemLength", "(I)I"⟩
def RX7 : String := "SixWhoTurn"
def TX7 : u_T := fun k => match k with
  | 0 => ("SixWhoTurn", "numbers", "LSixWhoTurn$Numbers;", true)
  | 1 => ("SixWhoTurn", "squad0", "LSixWhoTurn$Squad;", true)
  | 2 => ("SixWhoTurn", "squad1", "LSixWhoTurn$Squad;", true)
  | 3 => ("SixWhoTurn", "court0", "LSixWhoTurn$Court;", true)
  | 4 => ("SixWhoTurn", "court1", "LSixWhoTurn$Court;", true)
  | 5 => ("SixWhoTurn", "course", "LSixWhoTurn$Course;", true)
  | 6 => ("SixWhoTurn", "savedCourt0", "LSixWhoTurn$Court;", true)
  | 7 => ("SixWhoTurn", "savedCourt1", "LSixWhoTurn$Court;", true)
  | 8 => ("SixWhoTurn", "savedCourse", "LSixWhoTurn$Course;", true)
  | 9 => ("SixWhoTurn", "stance0", "LSixWhoTurn$Stance;", true)
  | 10 => ("SixWhoTurn", "stance1", "LSixWhoTurn$Stance;", true)
  | 11 => ("SixWhoTurn", "text", "LSixWhoTurn$Text;", true)
  | 12 => ("SixWhoTurn", "chances", "LSixWhoTurn$Chances;", true)
  | 13 => ("SixWhoTurn", "rowSize", "I", false)
  | _ => ("SixWhoTurn", "rowNumber", "I", false)
def tyX7 : Nat → FieldType := fun k => match k with
  | 0 => .object "SixWhoTurn$Numbers"
  | 1 => .object "SixWhoTurn$Squad"
  | 2 => .object "SixWhoTurn$Squad"
  | 3 => .object "SixWhoTurn$Court"
  | 4 => .object "SixWhoTurn$Court"
  | 5 => .object "SixWhoTurn$Course"
  | 6 => .object "SixWhoTurn$Court"
  | 7 => .object "SixWhoTurn$Court"
  | 8 => .object "SixWhoTurn$Course"
  | 9 => .object "SixWhoTurn$Stance"
  | 10 => .object "SixWhoTurn$Stance"
  | 11 => .object "SixWhoTurn$Text"
  | 12 => .object "SixWhoTurn$Chances"
  | 13 => .int
  | _ => .int
abbrev wsX70 : List Cond := u_ws RX7 TX7 15
theorem nmX7 : ∀ a, a < 15 → ∀ b, b < 15 → a ≠ b → (TX7 a).2.1 ≠ (TX7 b).2.1 := by decide +kernel
theorem tyX7_ok : ∀ k, k < 15 → parseFieldDescriptor (TX7 k).2.2.1 = some (tyX7 k) := by decide +kernel
abbrev cX7_init : ByteArray := prog_1_method_1_code
def yX7_init : MethodName := ⟨RX7, "<init>", "()V"⟩
abbrev cX7_skill : ByteArray := prog_1_method_2_code
def yX7_skill : MethodName := ⟨RX7, "skill", "(IIII)I"⟩
abbrev cX7_libre : ByteArray := prog_1_method_3_code
def yX7_libre : MethodName := ⟨RX7, "libre", "(II)I"⟩
abbrev cX7_set : ByteArray := prog_1_method_4_code
def yX7_set : MethodName := ⟨RX7, "set", "(II)I"⟩
abbrev cX7_lineUp : ByteArray := prog_1_method_5_code
def yX7_lineUp : MethodName := ⟨RX7, "lineUp", "(IIIIIII)Z"⟩
abbrev cX7_begin : ByteArray := prog_1_method_6_code
def yX7_begin : MethodName := ⟨RX7, "begin", "(I)I"⟩
abbrev cX7_rally : ByteArray := prog_1_method_7_code
def yX7_rally : MethodName := ⟨RX7, "rally", "(I)I"⟩
abbrev cX7_may : ByteArray := prog_1_method_8_code
def yX7_may : MethodName := ⟨RX7, "may", "(III)I"⟩
abbrev cX7_change : ByteArray := prog_1_method_9_code
def yX7_change : MethodName := ⟨RX7, "change", "(III)I"⟩
abbrev cX7_free : ByteArray := prog_1_method_10_code
def yX7_free : MethodName := ⟨RX7, "free", "(II)I"⟩
abbrev cX7_pause : ByteArray := prog_1_method_11_code
def yX7_pause : MethodName := ⟨RX7, "pause", "(I)I"⟩
abbrev cX7_wrong : ByteArray := prog_1_method_12_code
def yX7_wrong : MethodName := ⟨RX7, "wrong", "(I)I"⟩
abbrev cX7_at : ByteArray := prog_1_method_13_code
def yX7_at : MethodName := ⟨RX7, "at", "(II)I"⟩
abbrev cX7_of : ByteArray := prog_1_method_14_code
def yX7_of : MethodName := ⟨RX7, "of", "(II)I"⟩
abbrev cX7_count : ByteArray := prog_1_method_15_code
def yX7_count : MethodName := ⟨RX7, "count", "(I)I"⟩
abbrev cX7_served : ByteArray := prog_1_method_16_code
def yX7_served : MethodName := ⟨RX7, "served", "(II)I"⟩
abbrev cX7_feet : ByteArray := prog_1_method_17_code
def yX7_feet : MethodName := ⟨RX7, "feet", "(IIII)Z"⟩
abbrev cX7_overlap : ByteArray := prog_1_method_18_code
def yX7_overlap : MethodName := ⟨RX7, "overlap", "(I)I"⟩
abbrev cX7_sign : ByteArray := prog_1_method_19_code
def yX7_sign : MethodName := ⟨RX7, "sign", "(I)I"⟩
abbrev cX7_end : ByteArray := prog_1_method_20_code
def yX7_end : MethodName := ⟨RX7, "end", "(I)Z"⟩
abbrev cX7_sheet : ByteArray := prog_1_method_21_code
def yX7_sheet : MethodName := ⟨RX7, "sheet", "()I"⟩
abbrev cX7_odds : ByteArray := prog_1_method_22_code
def yX7_odds : MethodName := ⟨RX7, "odds", "(III)I"⟩
abbrev cX7_chance : ByteArray := prog_1_method_23_code
def yX7_chance : MethodName := ⟨RX7, "chance", "()I"⟩
abbrev cX7_weight : ByteArray := prog_1_method_24_code
def yX7_weight : MethodName := ⟨RX7, "weight", "()I"⟩
abbrev cX7_turn : ByteArray := prog_1_method_25_code
def yX7_turn : MethodName := ⟨RX7, "turn", "(II)I"⟩
abbrev cX7_advice : ByteArray := prog_1_method_26_code
def yX7_advice : MethodName := ⟨RX7, "advice", "(I)I"⟩
abbrev cX7_row : ByteArray := prog_1_method_27_code
def yX7_row : MethodName := ⟨RX7, "row", "(I)I"⟩
abbrev cX7_isTeam : ByteArray := prog_1_method_28_code
def yX7_isTeam : MethodName := ⟨RX7, "isTeam", "(I)Z"⟩
abbrev cX7_isPlayer : ByteArray := prog_1_method_29_code
def yX7_isPlayer : MethodName := ⟨RX7, "isPlayer", "(I)Z"⟩
abbrev cX7_bitOf : ByteArray := prog_1_method_30_code
def yX7_bitOf : MethodName := ⟨RX7, "bitOf", "(I)I"⟩
abbrev cX7_squadOf : ByteArray := prog_1_method_31_code
def yX7_squadOf : MethodName := ⟨RX7, "squadOf", "(I)LSixWhoTurn$Squad;"⟩
abbrev cX7_courtOf : ByteArray := prog_1_method_32_code
def yX7_courtOf : MethodName := ⟨RX7, "courtOf", "(I)LSixWhoTurn$Court;"⟩
abbrev cX7_stanceOf : ByteArray := prog_1_method_33_code
def yX7_stanceOf : MethodName := ⟨RX7, "stanceOf", "(I)LSixWhoTurn$Stance;"⟩
abbrev cX7_winRally : ByteArray := prog_1_method_34_code
def yX7_winRally : MethodName := ⟨RX7, "winRally", "(I)I"⟩
abbrev cX7_closeIfWon : ByteArray := prog_1_method_35_code
def yX7_closeIfWon : MethodName := ⟨RX7, "closeIfWon", "(I)I"⟩
abbrev cX7_doItems : ByteArray := prog_1_method_36_code
def yX7_doItems : MethodName := ⟨RX7, "doItems", "(I)I"⟩
abbrev cX7_doItem : ByteArray := prog_1_method_37_code
def yX7_doItem : MethodName := ⟨RX7, "doItem", "(I)I"⟩
abbrev cX7_saveMatch : ByteArray := prog_1_method_38_code
def yX7_saveMatch : MethodName := ⟨RX7, "saveMatch", "()V"⟩
abbrev cX7_restoreMatch : ByteArray := prog_1_method_39_code
def yX7_restoreMatch : MethodName := ⟨RX7, "restoreMatch", "()V"⟩
abbrev cX7_takeCourts : ByteArray := prog_1_method_40_code
def yX7_takeCourts : MethodName := ⟨RX7, "takeCourts", "()V"⟩
abbrev cX7_chanceNow : ByteArray := prog_1_method_41_code
def yX7_chanceNow : MethodName := ⟨RX7, "chanceNow", "()I"⟩
abbrev cX7_chanceFrom : ByteArray := prog_1_method_42_code
def yX7_chanceFrom : MethodName := ⟨RX7, "chanceFrom", "(III)I"⟩
abbrev cX7_chanceAfter : ByteArray := prog_1_method_43_code
def yX7_chanceAfter : MethodName := ⟨RX7, "chanceAfter", "(III)I"⟩
abbrev cX7_isBetter : ByteArray := prog_1_method_44_code
def yX7_isBetter : MethodName := ⟨RX7, "isBetter", "(III)Z"⟩
abbrev cX7_tellRow : ByteArray := prog_1_method_45_code
def yX7_tellRow : MethodName := ⟨RX7, "tellRow", "(I)V"⟩
def RX8 : String := "SixWhoTurnModel"
def TX8 : u_T := fun k => match k with
  | 0 => ("SixWhoTurnModel", "skills", "[I", true)
  | 1 => ("SixWhoTurnModel", "libre", "[I", true)
  | 2 => ("SixWhoTurnModel", "numbers", "[I", true)
  | 3 => ("SixWhoTurnModel", "next", "[I", true)
  | 4 => ("SixWhoTurnModel", "isTold", "[Z", true)
  | 5 => ("SixWhoTurnModel", "w", "[I", true)
  | 6 => ("SixWhoTurnModel", "aside", "[I", true)
  | 7 => ("SixWhoTurnModel", "feetX", "[I", true)
  | 8 => ("SixWhoTurnModel", "feetY", "[I", true)
  | 9 => ("SixWhoTurnModel", "text", "[B", true)
  | 10 => ("SixWhoTurnModel", "typed", "I", false)
  | 11 => ("SixWhoTurnModel", "rowFirst", "I", false)
  | 12 => ("SixWhoTurnModel", "rowMany", "I", false)
  | 13 => ("SixWhoTurnModel", "thrown", "I", false)
  | 14 => ("SixWhoTurnModel", "six", "[I", true)
  | 15 => ("SixWhoTurnModel", "counts", "[I", true)
  | 16 => ("SixWhoTurnModel", "odds", "[I", true)
  | _ => ("SixWhoTurnModel", "table", "[J", true)
def tyX8 : Nat → FieldType := fun k => match k with
  | 0 => .array .int
  | 1 => .array .int
  | 2 => .array .int
  | 3 => .array .int
  | 4 => .array .boolean
  | 5 => .array .int
  | 6 => .array .int
  | 7 => .array .int
  | 8 => .array .int
  | 9 => .array .byte
  | 10 => .int
  | 11 => .int
  | 12 => .int
  | 13 => .int
  | 14 => .array .int
  | 15 => .array .int
  | 16 => .array .int
  | _ => .array .long
abbrev wsX80 : List Cond := u_ws RX8 TX8 18
theorem nmX8 : ∀ a, a < 18 → ∀ b, b < 18 → a ≠ b → (TX8 a).2.1 ≠ (TX8 b).2.1 := by decide +kernel
theorem tyX8_ok : ∀ k, k < 18 → parseFieldDescriptor (TX8 k).2.2.1 = some (tyX8 k) := by decide +kernel
abbrev cX8_init : ByteArray := prog_10_method_1_code
def yX8_init : MethodName := ⟨RX8, "<init>", "()V"⟩
abbrev cX8_thrown : ByteArray := prog_10_method_2_code
def yX8_thrown : MethodName := ⟨RX8, "thrown", "()I"⟩
abbrev cX8_in : ByteArray := prog_10_method_3_code
def yX8_in : MethodName := ⟨RX8, "in", "(III)Z"⟩
abbrev cX8_isTeam : ByteArray := prog_10_method_4_code
def yX8_isTeam : MethodName := ⟨RX8, "isTeam", "(I)Z"⟩
abbrev cX8_isPlayer : ByteArray := prog_10_method_5_code
def yX8_isPlayer : MethodName := ⟨RX8, "isPlayer", "(I)Z"⟩
abbrev cX8_get : ByteArray := prog_10_method_6_code
def yX8_get : MethodName := ⟨RX8, "get", "(II)I"⟩
abbrev cX8_put : ByteArray := prog_10_method_7_code
def yX8_put : MethodName := ⟨RX8, "put", "(III)V"⟩
abbrev cX8_isOn : ByteArray := prog_10_method_8_code
def yX8_isOn : MethodName := ⟨RX8, "isOn", "()Z"⟩
abbrev cX8_stand : ByteArray := prog_10_method_9_code
def yX8_stand : MethodName := ⟨RX8, "stand", "()V"⟩
abbrev cX8_skillOf : ByteArray := prog_10_method_10_code
def yX8_skillOf : MethodName := ⟨RX8, "skillOf", "(III)I"⟩
abbrev cX8_skill : ByteArray := prog_10_method_11_code
def yX8_skill : MethodName := ⟨RX8, "skill", "(IIII)I"⟩
abbrev cX8_libre : ByteArray := prog_10_method_12_code
def yX8_libre : MethodName := ⟨RX8, "libre", "(II)I"⟩
abbrev cX8_set : ByteArray := prog_10_method_13_code
def yX8_set : MethodName := ⟨RX8, "set", "(II)I"⟩
abbrev cX8_lineUp : ByteArray := prog_10_method_14_code
def yX8_lineUp : MethodName := ⟨RX8, "lineUp", "(IIIIIII)Z"⟩
abbrev cX8_hasFree : ByteArray := prog_10_method_15_code
def yX8_hasFree : MethodName := ⟨RX8, "hasFree", "(I)Z"⟩
abbrev cX8_begin : ByteArray := prog_10_method_16_code
def yX8_begin : MethodName := ⟨RX8, "begin", "(I)I"⟩
abbrev cX8_turn : ByteArray := prog_10_method_17_code
def yX8_turn : MethodName := ⟨RX8, "turn", "(I)V"⟩
abbrev cX8_isLastSet : ByteArray := prog_10_method_18_code
def yX8_isLastSet : MethodName := ⟨RX8, "isLastSet", "()Z"⟩
abbrev cX8_goal : ByteArray := prog_10_method_19_code
def yX8_goal : MethodName := ⟨RX8, "goal", "()I"⟩
abbrev cX8_wins : ByteArray := prog_10_method_20_code
def yX8_wins : MethodName := ⟨RX8, "wins", "(III)Z"⟩
abbrev cX8_point : ByteArray := prog_10_method_21_code
def yX8_point : MethodName := ⟨RX8, "point", "(I)I"⟩
abbrev cX8_rally : ByteArray := prog_10_method_22_code
def yX8_rally : MethodName := ⟨RX8, "rally", "(I)I"⟩
abbrev cX8_placeOf : ByteArray := prog_10_method_23_code
def yX8_placeOf : MethodName := ⟨RX8, "placeOf", "(II)I"⟩
abbrev cX8_mayNot : ByteArray := prog_10_method_24_code
def yX8_mayNot : MethodName := ⟨RX8, "mayNot", "(III)I"⟩
abbrev cX8_may : ByteArray := prog_10_method_25_code
def yX8_may : MethodName := ⟨RX8, "may", "(III)I"⟩
abbrev cX8_doChange : ByteArray := prog_10_method_26_code
def yX8_doChange : MethodName := ⟨RX8, "doChange", "(III)I"⟩
abbrev cX8_change : ByteArray := prog_10_method_27_code
def yX8_change : MethodName := ⟨RX8, "change", "(III)I"⟩
abbrev cX8_doFree : ByteArray := prog_10_method_28_code
def yX8_doFree : MethodName := ⟨RX8, "doFree", "(II)I"⟩
abbrev cX8_free : ByteArray := prog_10_method_29_code
def yX8_free : MethodName := ⟨RX8, "free", "(II)I"⟩
abbrev cX8_doPause : ByteArray := prog_10_method_30_code
def yX8_doPause : MethodName := ⟨RX8, "doPause", "(I)I"⟩
abbrev cX8_pause : ByteArray := prog_10_method_31_code
def yX8_pause : MethodName := ⟨RX8, "pause", "(I)I"⟩
abbrev cX8_wrong : ByteArray := prog_10_method_32_code
def yX8_wrong : MethodName := ⟨RX8, "wrong", "(I)I"⟩
abbrev cX8_at : ByteArray := prog_10_method_33_code
def yX8_at : MethodName := ⟨RX8, "at", "(II)I"⟩
abbrev cX8_of : ByteArray := prog_10_method_34_code
def yX8_of : MethodName := ⟨RX8, "of", "(II)I"⟩
abbrev cX8_count : ByteArray := prog_10_method_35_code
def yX8_count : MethodName := ⟨RX8, "count", "(I)I"⟩
abbrev cX8_served : ByteArray := prog_10_method_36_code
def yX8_served : MethodName := ⟨RX8, "served", "(II)I"⟩
abbrev cX8_feet : ByteArray := prog_10_method_37_code
def yX8_feet : MethodName := ⟨RX8, "feet", "(IIII)Z"⟩
abbrev cX8_overlap : ByteArray := prog_10_method_38_code
def yX8_overlap : MethodName := ⟨RX8, "overlap", "(I)I"⟩
abbrev cX8_sign : ByteArray := prog_10_method_39_code
def yX8_sign : MethodName := ⟨RX8, "sign", "(I)I"⟩
abbrev cX8_end : ByteArray := prog_10_method_40_code
def yX8_end : MethodName := ⟨RX8, "end", "(I)Z"⟩
abbrev cX8_playerOf : ByteArray := prog_10_method_41_code
def yX8_playerOf : MethodName := ⟨RX8, "playerOf", "(I)I"⟩
abbrev cX8_reads : ByteArray := prog_10_method_42_code
def yX8_reads : MethodName := ⟨RX8, "reads", "(II)I"⟩
abbrev cX8_doItem : ByteArray := prog_10_method_43_code
def yX8_doItem : MethodName := ⟨RX8, "doItem", "(I)Z"⟩
abbrev cX8_sheet : ByteArray := prog_10_method_44_code
def yX8_sheet : MethodName := ⟨RX8, "sheet", "()I"⟩
abbrev cX8_putAside : ByteArray := prog_10_method_45_code
def yX8_putAside : MethodName := ⟨RX8, "putAside", "()V"⟩
abbrev cX8_putBack : ByteArray := prog_10_method_46_code
def yX8_putBack : MethodName := ⟨RX8, "putBack", "()V"⟩
abbrev cX8_countNow : ByteArray := prog_10_method_47_code
def yX8_countNow : MethodName := ⟨RX8, "countNow", "()V"⟩
abbrev cX8_later : ByteArray := prog_10_method_48_code
def yX8_later : MethodName := ⟨RX8, "later", "(III)I"⟩
abbrev cX8_sum : ByteArray := prog_10_method_49_code
def yX8_sum : MethodName := ⟨RX8, "sum", "(IIIIII)I"⟩
abbrev cX8_oddsOf : ByteArray := prog_10_method_50_code
def yX8_oddsOf : MethodName := ⟨RX8, "oddsOf", "(III)I"⟩
abbrev cX8_odds : ByteArray := prog_10_method_51_code
def yX8_odds : MethodName := ⟨RX8, "odds", "(III)I"⟩
abbrev cX8_cell : ByteArray := prog_10_method_52_code
def yX8_cell : MethodName := ⟨RX8, "cell", "(IIIII)I"⟩
abbrev cX8_fill : ByteArray := prog_10_method_53_code
def yX8_fill : MethodName := ⟨RX8, "fill", "(I)V"⟩
abbrev cX8_mean : ByteArray := prog_10_method_54_code
def yX8_mean : MethodName := ⟨RX8, "mean", "(IJJ)J"⟩
abbrev cX8_now : ByteArray := prog_10_method_55_code
def yX8_now : MethodName := ⟨RX8, "now", "()I"⟩
abbrev cX8_chance : ByteArray := prog_10_method_56_code
def yX8_chance : MethodName := ⟨RX8, "chance", "()I"⟩
abbrev cX8_weight : ByteArray := prog_10_method_57_code
def yX8_weight : MethodName := ⟨RX8, "weight", "()I"⟩
abbrev cX8_turn_ : ByteArray := prog_10_method_58_code
def yX8_turn_ : MethodName := ⟨RX8, "turn", "(II)I"⟩
abbrev cX8_advice : ByteArray := prog_10_method_59_code
def yX8_advice : MethodName := ⟨RX8, "advice", "(I)I"⟩
abbrev cX8_row : ByteArray := prog_10_method_60_code
def yX8_row : MethodName := ⟨RX8, "row", "(I)I"⟩
def RJ6 : String := "java/lang/Integer"
abbrev cJ6_bitCount_0f7a4 : ByteArray := prog_12_method_49_code
def yJ6_bitCount_0f7a4 : MethodName := ⟨RJ6, "bitCount", "(I)I"⟩
def RJ9 : String := "java/lang/Math"
abbrev cJ9_floorMod_7cf53 : ByteArray := prog_13_method_50_code
def yJ9_floorMod_7cf53 : MethodName := ⟨RJ9, "floorMod", "(II)I"⟩
abbrev cJ9_max_7cf53 : ByteArray := prog_13_method_65_code
def yJ9_max_7cf53 : MethodName := ⟨RJ9, "max", "(II)I"⟩
abbrev cJ9_min_7cf53 : ByteArray := prog_13_method_69_code
def yJ9_min_7cf53 : MethodName := ⟨RJ9, "min", "(II)I"⟩
def RJ10 : String := "java/lang/System"
def RL : String := "SixWhoTurnLaw"
abbrev cL_row : ByteArray := method_3_code
def yL_row : MethodName := ⟨RL, "row", "(LSixWhoTurn;I[J)I"⟩
abbrev cL_law : ByteArray := code
def yL_law : MethodName := ⟨RL, "law", "([I)Z"⟩
end
section
/-! THE ABSTRACT MACHINE: one world of numbered cells (class, model, law), memory as functions, rows for each instruction -/
abbrev mx_Mem : Type := (Nat → Nat → Int32) × (Nat → Nat → Int64)
/-- a row of ints becomes f -/
def mR (M : mx_Mem) (k : Nat) (f : Nat → Int32) : mx_Mem := (fun a => if a = k then f else M.1 a, M.2)
/-- a row of longs becomes f -/
def mS (M : mx_Mem) (k : Nat) (f : Nat → Int64) : mx_Mem := (M.1, fun a => if a = k then f else M.2 a)
def mI (M : mx_Mem) (k j : Nat) (v : Int32) : mx_Mem := mR M k (upd (M.1 k) j v)
def mL (M : mx_Mem) (k j : Nat) (v : Int64) : mx_Mem := mS M k (vp_updL (M.2 k) j v)
/-- a cell's shape: an array by type and length; an object by class and fields (none: a number; some k: the cell k, for ever) -/
abbrev mx_Shp : Type := (FieldType × Nat) ⊕ (Nat × List (Option Nat))
def mx_court (k : Nat) : mx_Shp := .inr (2, [some (k + 1), some (k + 2), some (k + 3), some (k + 4), none, none, none, none, none, none, none, none])
def mx_arr (n : Nat) : mx_Shp := .inl (.int, n)
def mx_shL : List mx_Shp := [
  .inr (7, [some 1, some 3, some 6, some 9, some 14, some 19, some 20, some 25, some 30, some 31, some 34, some 37, some 39, none, none]),
  .inr (3, [some 2]), mx_arr 6,
  .inr (4, [some 4, some 5, none, none]), mx_arr 48, mx_arr 6,
  .inr (4, [some 7, some 8, none, none]), mx_arr 48, mx_arr 6,
  mx_court 9, mx_arr 6, mx_arr 12, mx_arr 12, mx_arr 12,
  mx_court 14, mx_arr 6, mx_arr 12, mx_arr 12, mx_arr 12,
  .inr (1, [none, none, none, none, none, none, none]),
  mx_court 20, mx_arr 6, mx_arr 12, mx_arr 12, mx_arr 12,
  mx_court 25, mx_arr 6, mx_arr 12, mx_arr 12, mx_arr 12,
  .inr (1, [none, none, none, none, none, none, none]),
  .inr (5, [some 32, some 33]), mx_arr 6, mx_arr 6,
  .inr (5, [some 35, some 36]), mx_arr 6, mx_arr 6,
  .inr (6, [some 38, none]), .inl (.char, 100),
  .inr (0, [some 40, some 41, some 42, some 43, none]), mx_arr 6, mx_arr 6, mx_arr 12, .inl (.array .int, 2), mx_arr 372, mx_arr 372,
  .inr (8, [some 47, some 48, some 49, some 50, some 51, some 52, some 53, some 54, some 55, some 56, none, none, none, none, some 57, some 58, some 59, some 60]),
  mx_arr 96, mx_arr 2, mx_arr 6, mx_arr 12, .inl (.boolean, 2), mx_arr 106, mx_arr 106, mx_arr 12, mx_arr 12, .inl (.byte, 100), mx_arr 6, mx_arr 12, mx_arr 72, .inl (.long, 69192),
  .inl (.long, 1)]
def mx_sh (k : Nat) : mx_Shp := mx_shL.getD k (mx_arr 0)
/-- the cells of the rows of Chances -/
def mx_row (j : Nat) : Nat := 44 + j
abbrev mx_cl : List vw_C := [(RX0, TX0, 5), (RX1, TX1, 7), (RX2, TX2, 12), (RX3, TX3, 1), (RX4, TX4, 4), (RX5, TX5, 2), (RX6, TX6, 2), (RX7, TX7, 15), (RX8, TX8, 18)]
/-- base, cells that are there, addresses, classes, array classes, the script -/
abbrev mx_G : Type := Nat × Nat × (Nat → Nat) × va_G × (FieldType → ClassId) × Nat × (Nat → Int32)
abbrev mx_base (G : mx_G) : Nat := G.1
abbrev mx_n (G : mx_G) : Nat := G.2.1
abbrev mx_ad (G : mx_G) : Nat → Nat := G.2.2.1
abbrev mx_D (G : mx_G) : va_G := G.2.2.2.1
abbrev mx_cA (G : mx_G) : FieldType → ClassId := G.2.2.2.2.1
abbrev mx_sN (G : mx_G) : Nat := G.2.2.2.2.2.1
abbrev mx_sX (G : mx_G) : Nat → Int32 := G.2.2.2.2.2.2
def mx_A (G : mx_G) : Nat → Prop := fun q => mx_base G ≤ q
/-- a value: its cells by address -/
def mx_c (ad : Nat → Nat) (v : Value) : Value := match v with
  | .ref k => .ref (ad k)
  | v => v
def mx_fs (ad : Nat → Nat) (f : Nat → Int32) : Nat → List (Option Nat) → List Value
  | _, [] => []
  | j, none :: r => .int (f j) :: mx_fs ad f (j + 1) r
  | j, some i :: r => .ref (ad i) :: mx_fs ad f (j + 1) r
def mx_pay (G : mx_G) (M : mx_Mem) (k : Nat) (ty : FieldType) : (Nat → Int32) ⊕ (Nat → Int64) ⊕ (Nat → UInt32) ⊕ (Nat → UInt64) ⊕ (Nat → Option Nat) := match ty with
  | .long => .inr (.inl (M.2 k))
  | .array _ => .inr (.inr (.inr (.inr (fun j => some (mx_ad G (mx_row j))))))
  | _ => .inl (M.1 k)
def mx_e (G : mx_G) (M : mx_Mem) (k : Nat) (s : mx_Shp) : va_E := match s with
  | .inl (ty, n) => .inl (mx_cA G ty, n, mx_pay G M k ty)
  | .inr (ci, fs) => .inr (ci, mx_fs (mx_ad G) (M.1 k) 0 fs)
def mx_cell (G : mx_G) (M : mx_Mem) (k : Nat) : Nat × va_E := (mx_ad G k, mx_e G M k (mx_sh k))
def mx_ws (G : mx_G) (M : mx_Mem) : va_W := (List.range (mx_n G)).map (mx_cell G M)
def mx_tys (G : mx_G) : List (ClassId × FieldType) := [(mx_cA G .int, .int), (mx_cA G .boolean, .boolean), (mx_cA G .byte, .byte), (mx_cA G .char, .char), (mx_cA G .long, .long), (mx_cA G (.array .int), .array .int)]
/-- the tables' words that a callee may have -/
def mx_gW : List Cond := lw_tbl.filter goodWord
theorem mx_in {w : Cond} (h : (goodWord w && decide (w ∈ lw_tbl)) = true) : w ∈ mx_gW := by
  simp only [Bool.and_eq_true, decide_eq_true_eq] at h
  exact List.mem_filter.mpr ⟨h.2, h.1⟩
def mx_nest : List Cond := [
  .fieldLinkNest RX2 50 RX4 "lineUp" "[I" RX7, .fieldLinkNest RX7 264 RX4 "lineUp" "[I" RX7, .fieldLinkNest RX2 59 RX4 "freeOne" "I" RX7, .fieldLinkNest RX7 106 RX4 "freeOne" "I" RX7,
  .fieldLinkNest RX7 147 RX4 "told" "Z" RX7, .fieldLinkNest RX7 347 RX2 "order" "[I" RX7, .fieldLinkNest RX7 226 RX2 "servePoints" "[I" RX7, .fieldLinkNest RX7 185 RX2 "freeOne" "I" RX7,
  .fieldLinkNest RX7 182 RX2 "freeMoved" "Z" RX7, .fieldLinkNest RX7 202 RX2 "points" "I" RX7, .fieldLinkNest RX7 208 RX2 "setsWon" "I" RX7, .fieldLinkNest RX7 169 RX2 "changesDone" "I" RX7,
  .fieldLinkNest RX7 193 RX2 "pausesDone" "I" RX7, .fieldLinkNest RX7 214 RX2 "turnsDone" "I" RX7, .fieldLinkNest RX7 109 RX1 "number" "I" RX7, .fieldLinkNest RX7 102 RX1 "on" "Z" RX7,
  .fieldLinkNest RX7 199 RX1 "serving" "I" RX7, .fieldLinkNest RX7 196 RX1 "streak" "I" RX7, .fieldLinkNest RX7 217 RX1 "rallies" "I" RX7, .fieldLinkNest RX7 223 RX1 "setWinner" "I" RX7,
  .fieldLinkNest RX7 124 RX1 "matchWinner" "I" RX7, .fieldLinkNest RX7 220 RX6 "length" "I" RX7, .fieldLinkNest RX0 41 RX7 "BEHIND" "[I" RX7, .fieldLinkNest RX0 48 RX7 "FRONT" "[I" RX7,
  .methodLinkNest RX2 55 yX7_isPlayer RX7]
/-- the static rows: cell number, class, name, contents -/
def mx_stL : List (Nat × String × String × List Int32) := [(62, RX7, "FRONT", [1, 2, 3]), (63, RX7, "BEHIND", [0, 4, 5]), (64, RX3, "LEAST", [5, 5, 5, 1, 0, 0]), (65, RX3, "MOST", [25, 30, 25, 3, 12, 4]),
  (66, RX5, "X_AT_FIRST", [800, 800, 500, 200, 200, 500]), (67, RX5, "Y_AT_FIRST", [800, 200, 200, 200, 800, 800]), (68, RX5, "LOWER", [1, 2, 3, 3, 2, 4, 5]), (69, RX5, "HIGHER", [0, 5, 4, 2, 1, 5, 0]),
  (70, RX8, "LOW", [5, 5, 5, 1, 0, 0]), (71, RX8, "HIGH", [25, 30, 25, 3, 12, 4]), (72, RX8, "AHEAD", [1, 2, 3, 3, 2, 4, 5]), (73, RX8, "BEHIND", [0, 5, 4, 2, 1, 5, 0])]
def mx_stV (l : List Int32) : Nat → Value := fun j => .int (l.getD j 0)
/-- what every state of the run knows: tables, addresses, static rows, the script -/
def mx_SC (G : mx_G) (U : State) (H : Heap) : Prop :=
  va_K (mx_D G) mx_cl (mx_tys G) U ∧ (∀ w ∈ mx_nest, va_Nw w U) ∧ (∀ i j : Nat, i < mx_n G → j < mx_n G → mx_ad G i = mx_ad G j → i = j) ∧ (∀ i : Nat, i < mx_n G → mx_base G ≤ mx_ad G i) ∧ (61 ≤ mx_n G ∧ mx_base G ≤ H.size) ∧
  (∀ q ∈ mx_stL, va_Z q.2.1 q.2.2.1 "[I" (.ref (mx_ad G q.1)) (mx_A G) U H ∧ va_T .int (mx_ad G q.1) q.2.2.2.length (mx_stV q.2.2.2) (mx_A G) U H) ∧ (va_X (mx_ad G 74) (mx_sN G) (mx_sX G) U H ∧ mx_ad G 74 < H.size ∧ ¬ mx_A G (mx_ad G 74))
abbrev mx_X : Type := Program × Launch × Env × Room × State × MethodId × Array Value × List Frame × Method × Code × (State → Prop) × Nat × Nat
/-- the locals: known ones by their values, .null where nothing is known -/
def mx_lh (G : mx_G) (ls : Array Slot) (L : List Value) : Prop := ls.size = L.length ∧ lv_wf ls ∧ ∀ (i : Nat) (v : Value), L[i]? = some v → v ≠ .null → ls[i]? = some (.val (mx_c (mx_ad G) v))
/-- THE JUDGEMENT: at pc, with locals L, stack S and memory M, the machine comes to X's end -/
def mx_WW (G : mx_G) (X : mx_X) (pc : Nat) (L S : List Value) (M : mx_Mem) : Prop := match X with
  | (p, l, e, R, s, m, args, below, meth, c, Q, cells, slots) => ∀ (H : Heap) (locs : List Loc) (ls : Array Slot), va_P (mx_D G) mx_cl (mx_ws G M) H → va_S (mx_A G) s.heap H locs → mx_lh G ls L →
    W p l e R s m args below meth c H locs cells slots Q (F0 m pc ls (S.map (mx_c (mx_ad G))))
/-- what holds of a method's frame -/
def mx_OK (G : mx_G) (X : mx_X) (own : String) (cc : ByteArray) (nL : Nat) : Prop := match X with
  | (p, _, _, _, s, m, args, _, _, c, _, _, _) => p.tables.exec = Jvm.exec ∧ c.code = cc ∧ c.maxLocals = nL ∧ s.vm.findClass own = some m.cls ∧ (∀ w ∈ mx_gW, w.before args s = true) ∧ mx_SC G s s.heap
theorem mR_ne (M : mx_Mem) {k k' : Nat} (f : Nat → Int32) (h : k' ≠ k) : (mR M k f).1 k' = M.1 k' := if_neg h
theorem mR_self (M : mx_Mem) (k : Nat) (f : Nat → Int32) : (mR M k f).1 k = f := if_pos rfl
theorem mS_ne (M : mx_Mem) {k k' : Nat} (f : Nat → Int64) (h : k' ≠ k) : (mS M k f).2 k' = M.2 k' := if_neg h
theorem mS_self (M : mx_Mem) (k : Nat) (f : Nat → Int64) : (mS M k f).2 k = f := if_pos rfl
theorem mx_pay_eq (G : mx_G) {M M' : mx_Mem} {k : Nat} (ty : FieldType) (h1 : M.1 k = M'.1 k) (h2 : M.2 k = M'.2 k) : mx_pay G M k ty = mx_pay G M' k ty := by
  unfold mx_pay
  rw [h1, h2]
theorem mx_cell_eq (G : mx_G) {M M' : mx_Mem} {k : Nat} (h1 : M.1 k = M'.1 k) (h2 : M.2 k = M'.2 k) : mx_cell G M k = mx_cell G M' k := by
  unfold mx_cell mx_e
  rcases mx_sh k with ⟨ty, n⟩ | ⟨ci, fs⟩
  · show (_, Sum.inl (_, _, mx_pay G M k ty)) = _
    rw [mx_pay_eq G ty h1 h2]
  · show (_, Sum.inr (_, mx_fs _ (M.1 k) 0 fs)) = _
    rw [h1]
theorem mx_ws_at (G : mx_G) (M : mx_Mem) {k : Nat} (h : k < mx_n G) : (mx_ws G M)[k]? = some (mx_cell G M k) := by
  unfold mx_ws
  rw [List.getElem?_map, List.getElem?_range h]
  rfl
theorem mx_ws_set (G : mx_G) (M M' : mx_Mem) {k : Nat} (h : k < mx_n G) (h1 : ∀ a, a ≠ k → M'.1 a = M.1 a) (h2 : ∀ a, a ≠ k → M'.2 a = M.2 a) : (mx_ws G M).set k (mx_cell G M' k) = mx_ws G M' := by
  apply List.ext_getElem?
  intro i
  by_cases hi : i = k
  · subst hi
    rw [List.getElem?_set_self (by simp [mx_ws]; exact h), mx_ws_at G M' h]
  · rw [List.getElem?_set_ne (Ne.symm hi)]
    by_cases hl : i < mx_n G
    · rw [mx_ws_at G M hl, mx_ws_at G M' hl, mx_cell_eq G (h1 i hi) (h2 i hi)]
    · rw [List.getElem?_eq_none (by simp [mx_ws]; omega), List.getElem?_eq_none (by simp [mx_ws]; omega)]
theorem mx_ws_len (G : mx_G) (M : mx_Mem) : (mx_ws G M).length = mx_n G := by simp [mx_ws]
theorem mx_ws_get {G : mx_G} {M : mx_Mem} {k : Nat} {q : Nat × va_E} (h : (mx_ws G M)[k]? = some q) : k < mx_n G ∧ q = mx_cell G M k := by
  have hk : k < mx_n G := by
    have := (List.getElem?_eq_some_iff.mp h).1
    rw [mx_ws_len] at this
    exact this
  rw [mx_ws_at G M hk] at h
  exact ⟨hk, (Option.some.inj h).symm⟩
theorem mx_D_of {G : mx_G} {U : State} {H : Heap} (h : mx_SC G U H) (M : mx_Mem) : va_D (mx_A G) (mx_ws G M) := by
  obtain ⟨-, -, h1, h2, -⟩ := h
  refine ⟨fun i j p q hi hj hpq => ?_, fun k q hk => ?_⟩
  · obtain ⟨a1, rfl⟩ := mx_ws_get hi
    obtain ⟨a2, rfl⟩ := mx_ws_get hj
    exact h1 i j a1 a2 hpq
  · obtain ⟨a1, rfl⟩ := mx_ws_get hk
    exact h2 k a1
theorem mx_nth {G : mx_G} {ls : Array Slot} {L : List Value} (h : mx_lh G ls L) {i : Nat} {v : Value} (hi : L[i]? = some v) (hv : v ≠ .null) : ls[i]? = some (.val (mx_c (mx_ad G) v)) := h.2.2 i v hi hv
theorem mx_cat (ad : Nat → Nat) (v : Value) : (mx_c ad v).category = v.category := by cases v <;> rfl
end
section
theorem mx_c_int (ad : Nat → Nat) (x : Int32) : mx_c ad (.int x) = .int x := rfl
theorem mx_c_long (ad : Nat → Nat) (x : Int64) : mx_c ad (.long x) = .long x := rfl
theorem mx_c_ref (ad : Nat → Nat) (x : Nat) : mx_c ad (.ref x) = .ref (ad x) := rfl
def mx_st1 (L : List Value) (i : Nat) : Bool := decide (i < L.length) && (i == 0 || (L.getD (i - 1) .null).category != 2)
def mx_st2 (L : List Value) (i : Nat) : Bool := decide (i + 1 < L.length) && (i == 0 || (L.getD (i - 1) .null).category != 2)
theorem mx_store1 {G : mx_G} {ls : Array Slot} {L : List Value} {i : Nat} {v : Value} (h : mx_lh G ls L) (hi : mx_st1 L i = true) (hc : v.category = 1) :
    ∃ ls', storeLocals ls i (mx_c (mx_ad G) v) = some ls' ∧ mx_lh G ls' (L.set i v) := by
  obtain ⟨hs, hw, hq⟩ := h
  simp only [mx_st1, Bool.and_eq_true, decide_eq_true_eq, Bool.or_eq_true, beq_iff_eq, bne_iff_ne, ne_eq] at hi
  have hc' : (mx_c (mx_ad G) v).category = 1 := by rw [mx_cat]; exact hc
  obtain ⟨ls', e', h1, h2, h3⟩ := lv_store1 (l := []) (v := mx_c (mx_ad G) v) ⟨hs, hw, fun q hq => by cases hq⟩ hi.1 hc'
  refine ⟨ls', e', by rw [List.length_set]; exact h1, h2, fun j w hj hw0 => ?_⟩
  by_cases hji : j = i
  · subst hji
    rw [List.getElem?_set_self hi.1] at hj
    cases hj
    exact h3 (j, _) List.mem_cons_self
  · rw [List.getElem?_set_ne (Ne.symm hji)] at hj
    obtain ⟨ls2, e2, -, -, h5⟩ := lv_store1 (l := [(j, mx_c (mx_ad G) w)]) (v := mx_c (mx_ad G) v) ⟨hs, hw, fun q hq2 => by
      rw [List.mem_singleton] at hq2
      subst hq2
      exact hq j w hj hw0⟩ hi.1 hc'
    cases e'.symm.trans e2
    refine h5 (j, _) (List.mem_cons_of_mem _ (List.mem_filter.mpr ⟨List.mem_singleton.mpr rfl, ?_⟩))
    simp only [Bool.and_eq_true, Bool.not_eq_true', beq_eq_false_iff_ne, ne_eq, Bool.and_eq_false_iff]
    refine ⟨hji, ?_⟩
    by_cases hj1 : j + 1 = i
    · right
      show ¬ (mx_c (mx_ad G) w).category = 2
      rw [mx_cat]
      rcases hi.2 with h0 | h0
      · omega
      · subst hj1
        have : L.getD (j + 1 - 1) .null = w := by simp [hj]
        rw [this] at h0
        exact h0
    · left
      exact hj1
theorem mx_store2 {G : mx_G} {ls : Array Slot} {L : List Value} {i : Nat} {x : Int64} (h : mx_lh G ls L) (hi : mx_st2 L i = true) :
    ∃ ls', storeLocals ls i (.long x) = some ls' ∧ mx_lh G ls' ((L.set i (.long x)).set (i + 1) .null) := by
  obtain ⟨hs, hw, hq⟩ := h
  simp only [mx_st2, Bool.and_eq_true, decide_eq_true_eq, Bool.or_eq_true, beq_iff_eq, bne_iff_ne, ne_eq] at hi
  obtain ⟨ls', e', h1, h2, h3⟩ := lv_store2 (l := []) (v := .long x) ⟨hs, hw, fun q hq => by cases hq⟩ hi.1 rfl
  refine ⟨ls', e', by rw [List.length_set, List.length_set]; exact h1, h2, fun j w hj hw0 => ?_⟩
  by_cases hj2 : j = i + 1
  · subst hj2
    rw [List.getElem?_set_self (by rw [List.length_set]; exact hi.1)] at hj
    cases hj
    exact absurd rfl hw0
  · rw [List.getElem?_set_ne (Ne.symm hj2)] at hj
    by_cases hji : j = i
    · subst hji
      rw [List.getElem?_set_self (by omega)] at hj
      cases hj
      exact h3 (j, _) List.mem_cons_self
    · rw [List.getElem?_set_ne (Ne.symm hji)] at hj
      obtain ⟨ls2, e2, -, -, h5⟩ := lv_store2 (l := [(j, mx_c (mx_ad G) w)]) (v := .long x) ⟨hs, hw, fun q hq2 => by
        rw [List.mem_singleton] at hq2
        subst hq2
        exact hq j w hj hw0⟩ hi.1 rfl
      cases e'.symm.trans e2
      refine h5 (j, _) (List.mem_cons_of_mem _ (List.mem_filter.mpr ⟨List.mem_singleton.mpr rfl, ?_⟩))
      simp only [Bool.and_eq_true, Bool.not_eq_true', beq_eq_false_iff_ne, ne_eq, Bool.and_eq_false_iff]
      refine ⟨hji, hj2, ?_⟩
      by_cases hj1 : j + 1 = i
      · right
        show ¬ (mx_c (mx_ad G) w).category = 2
        rw [mx_cat]
        rcases hi.2 with h0 | h0
        · omega
        · subst hj1
          have : L.getD (j + 1 - 1) .null = w := by simp [hj]
          rw [this] at h0
          exact h0
      · left
        exact hj1

section MXR
variable {G : mx_G} {X : mx_X} {own : String} {cc : ByteArray} {nL pc : Nat} {L S : List Value} {M : mx_Mem}

theorem r_iconst (q : Nat) (hX : mx_OK G X own cc nL) {n : Int} {v : Int32} (hd : decode cc pc = .ok (.iconst n, 1)) (hv : Int32.ofInt n = v) (kk : mx_WW G X q L (.int v :: S) M) (hq : pc + 1 = q := by rfl) : mx_WW G X pc L (S) M := by
  obtain ⟨p, l, e, R, s, m, args, below, meth, c, Q, cells, slots⟩ := X
  obtain ⟨hx, hb, hml, hown, hts, hSC⟩ := hX
  subst hq
  intro H locs ls hP hS hl
  exact lv_iconst hx hb hd hv (kk H locs ls hP hS hl)
theorem r_bipush (q : Nat) (hX : mx_OK G X own cc nL) {n : Int} {v : Int32} (hd : decode cc pc = .ok (.bipush n, 2)) (hv : (Int8.ofInt n).toInt32 = v) (kk : mx_WW G X q L (.int v :: S) M) (hq : pc + 2 = q := by rfl) : mx_WW G X pc L (S) M := by
  obtain ⟨p, l, e, R, s, m, args, below, meth, c, Q, cells, slots⟩ := X
  obtain ⟨hx, hb, hml, hown, hts, hSC⟩ := hX
  subst hq
  intro H locs ls hP hS hl
  exact lv_bipush hx hb hd hv (kk H locs ls hP hS hl)
theorem r_sipush (q : Nat) (hX : mx_OK G X own cc nL) {n : Int} {v : Int32} (hd : decode cc pc = .ok (.sipush n, 3)) (hv : (Int16.ofInt n).toInt32 = v) (kk : mx_WW G X q L (.int v :: S) M) (hq : pc + 3 = q := by rfl) : mx_WW G X pc L (S) M := by
  obtain ⟨p, l, e, R, s, m, args, below, meth, c, Q, cells, slots⟩ := X
  obtain ⟨hx, hb, hml, hown, hts, hSC⟩ := hX
  subst hq
  intro H locs ls hP hS hl
  exact lv_sipush hx hb hd hv (kk H locs ls hP hS hl)
theorem r_lconst (q : Nat) (hX : mx_OK G X own cc nL) {n : Fin 2} {v : Int64} (hd : decode cc pc = .ok (.lconst n, 1)) (hv : Int64.ofNat (n : Nat) = v) (kk : mx_WW G X q L (.long v :: S) M) (hq : pc + 1 = q := by rfl) : mx_WW G X pc L (S) M := by
  obtain ⟨p, l, e, R, s, m, args, below, meth, c, Q, cells, slots⟩ := X
  obtain ⟨hx, hb, hml, hown, hts, hSC⟩ := hX
  subst hq
  intro H locs ls hP hS hl
  exact lv_lconst hx hb hd hv (kk H locs ls hP hS hl)
theorem r_iload_n (q : Nat) (hX : mx_OK G X own cc nL) {k : Fin 4} {x : Int32} (hd : decode cc pc = .ok (.iload_n k, 1)) (hv : L[(k : Nat)]? = some (.int x)) (kk : mx_WW G X q L (.int x :: S) M) (hq : pc + 1 = q := by rfl) : mx_WW G X pc L (S) M := by
  obtain ⟨p, l, e, R, s, m, args, below, meth, c, Q, cells, slots⟩ := X
  obtain ⟨hx, hb, hml, hown, hts, hSC⟩ := hX
  subst hq
  intro H locs ls hP hS hl
  exact lv_iload_n hx hb hd rfl (mx_nth hl hv (fun h => by cases h)) (kk H locs ls hP hS hl)
theorem r_iload (q : Nat) (hX : mx_OK G X own cc nL) {k : Nat} {x : Int32} (hd : decode cc pc = .ok (.iload k, 2)) (hv : L[k]? = some (.int x)) (kk : mx_WW G X q L (.int x :: S) M) (hq : pc + 2 = q := by rfl) : mx_WW G X pc L (S) M := by
  obtain ⟨p, l, e, R, s, m, args, below, meth, c, Q, cells, slots⟩ := X
  obtain ⟨hx, hb, hml, hown, hts, hSC⟩ := hX
  subst hq
  intro H locs ls hP hS hl
  exact lv_iload hx hb hd (mx_nth hl hv (fun h => by cases h)) (kk H locs ls hP hS hl)
theorem r_lload_n (q : Nat) (hX : mx_OK G X own cc nL) {k : Fin 4} {x : Int64} (hd : decode cc pc = .ok (.lload_n k, 1)) (hv : L[(k : Nat)]? = some (.long x)) (kk : mx_WW G X q L (.long x :: S) M) (hq : pc + 1 = q := by rfl) : mx_WW G X pc L (S) M := by
  obtain ⟨p, l, e, R, s, m, args, below, meth, c, Q, cells, slots⟩ := X
  obtain ⟨hx, hb, hml, hown, hts, hSC⟩ := hX
  subst hq
  intro H locs ls hP hS hl
  exact lv_lload_n hx hb hd rfl (mx_nth hl hv (fun h => by cases h)) (kk H locs ls hP hS hl)
theorem r_lload (q : Nat) (hX : mx_OK G X own cc nL) {k : Nat} {x : Int64} (hd : decode cc pc = .ok (.lload k, 2)) (hv : L[k]? = some (.long x)) (kk : mx_WW G X q L (.long x :: S) M) (hq : pc + 2 = q := by rfl) : mx_WW G X pc L (S) M := by
  obtain ⟨p, l, e, R, s, m, args, below, meth, c, Q, cells, slots⟩ := X
  obtain ⟨hx, hb, hml, hown, hts, hSC⟩ := hX
  subst hq
  intro H locs ls hP hS hl
  exact lv_lload hx hb hd (mx_nth hl hv (fun h => by cases h)) (kk H locs ls hP hS hl)
theorem r_aload_n (q : Nat) (hX : mx_OK G X own cc nL) {k : Fin 4} {x : Nat} (hd : decode cc pc = .ok (.aload_n k, 1)) (hv : L[(k : Nat)]? = some (.ref x)) (kk : mx_WW G X q L (.ref x :: S) M) (hq : pc + 1 = q := by rfl) : mx_WW G X pc L (S) M := by
  obtain ⟨p, l, e, R, s, m, args, below, meth, c, Q, cells, slots⟩ := X
  obtain ⟨hx, hb, hml, hown, hts, hSC⟩ := hX
  subst hq
  intro H locs ls hP hS hl
  exact lv_aload_n hx hb hd rfl (mx_nth hl hv (fun h => by cases h)) (kk H locs ls hP hS hl)
theorem r_aload (q : Nat) (hX : mx_OK G X own cc nL) {k : Nat} {x : Nat} (hd : decode cc pc = .ok (.aload k, 2)) (hv : L[k]? = some (.ref x)) (kk : mx_WW G X q L (.ref x :: S) M) (hq : pc + 2 = q := by rfl) : mx_WW G X pc L (S) M := by
  obtain ⟨p, l, e, R, s, m, args, below, meth, c, Q, cells, slots⟩ := X
  obtain ⟨hx, hb, hml, hown, hts, hSC⟩ := hX
  subst hq
  intro H locs ls hP hS hl
  exact lv_aload hx hb hd (mx_nth hl hv (fun h => by cases h)) (kk H locs ls hP hS hl)
theorem r_istore_n (q : Nat) (hX : mx_OK G X own cc nL) {k : Fin 4} {x : Int32} (hd : decode cc pc = .ok (.istore_n k, 1)) (hi : mx_st1 L (k : Nat) = true) (kk : mx_WW G X q (L.set (k : Nat) (.int x)) S M) (hq : pc + 1 = q := by rfl) : mx_WW G X pc L (.int x :: S) M := by
  obtain ⟨p, l, e, R, s, m, args, below, meth, c, Q, cells, slots⟩ := X
  obtain ⟨hx, hb, hml, hown, hts, hSC⟩ := hX
  subst hq
  intro H locs ls hP hS hl
  obtain ⟨ls', e', h'⟩ := mx_store1 (v := .int x) hl hi rfl
  intro T hT X9
  obtain ⟨t, a, b⟩ := kk H locs ls' hP hS h' T hT X9
  refine ⟨t, ?_, b⟩
  try simp only [mx_c] at e'
  jvm_step X9.here [X9.here.top, ↓top_set X9.here.top, hx, hb, hd, mx_c, List.map_cons, Value.isRef, e']
  exact a
theorem r_istore (q : Nat) (hX : mx_OK G X own cc nL) {k : Nat} {x : Int32} (hd : decode cc pc = .ok (.istore k, 2)) (hi : mx_st1 L k = true) (kk : mx_WW G X q (L.set k (.int x)) S M) (hq : pc + 2 = q := by rfl) : mx_WW G X pc L (.int x :: S) M := by
  obtain ⟨p, l, e, R, s, m, args, below, meth, c, Q, cells, slots⟩ := X
  obtain ⟨hx, hb, hml, hown, hts, hSC⟩ := hX
  subst hq
  intro H locs ls hP hS hl
  obtain ⟨ls', e', h'⟩ := mx_store1 (v := .int x) hl hi rfl
  intro T hT X9
  obtain ⟨t, a, b⟩ := kk H locs ls' hP hS h' T hT X9
  refine ⟨t, ?_, b⟩
  try simp only [mx_c] at e'
  jvm_step X9.here [X9.here.top, ↓top_set X9.here.top, hx, hb, hd, mx_c, List.map_cons, Value.isRef, e']
  exact a
theorem r_astore_n (q : Nat) (hX : mx_OK G X own cc nL) {k : Fin 4} {x : Nat} (hd : decode cc pc = .ok (.astore_n k, 1)) (hi : mx_st1 L (k : Nat) = true) (kk : mx_WW G X q (L.set (k : Nat) (.ref x)) S M) (hq : pc + 1 = q := by rfl) : mx_WW G X pc L (.ref x :: S) M := by
  obtain ⟨p, l, e, R, s, m, args, below, meth, c, Q, cells, slots⟩ := X
  obtain ⟨hx, hb, hml, hown, hts, hSC⟩ := hX
  subst hq
  intro H locs ls hP hS hl
  obtain ⟨ls', e', h'⟩ := mx_store1 (v := .ref x) hl hi rfl
  intro T hT X9
  obtain ⟨t, a, b⟩ := kk H locs ls' hP hS h' T hT X9
  refine ⟨t, ?_, b⟩
  try simp only [mx_c] at e'
  jvm_step X9.here [X9.here.top, ↓top_set X9.here.top, hx, hb, hd, mx_c, List.map_cons, Value.isRef, e']
  exact a
theorem r_astore (q : Nat) (hX : mx_OK G X own cc nL) {k : Nat} {x : Nat} (hd : decode cc pc = .ok (.astore k, 2)) (hi : mx_st1 L k = true) (kk : mx_WW G X q (L.set k (.ref x)) S M) (hq : pc + 2 = q := by rfl) : mx_WW G X pc L (.ref x :: S) M := by
  obtain ⟨p, l, e, R, s, m, args, below, meth, c, Q, cells, slots⟩ := X
  obtain ⟨hx, hb, hml, hown, hts, hSC⟩ := hX
  subst hq
  intro H locs ls hP hS hl
  obtain ⟨ls', e', h'⟩ := mx_store1 (v := .ref x) hl hi rfl
  intro T hT X9
  obtain ⟨t, a, b⟩ := kk H locs ls' hP hS h' T hT X9
  refine ⟨t, ?_, b⟩
  try simp only [mx_c] at e'
  jvm_step X9.here [X9.here.top, ↓top_set X9.here.top, hx, hb, hd, mx_c, List.map_cons, Value.isRef, e']
  exact a
theorem r_lstore (q : Nat) (hX : mx_OK G X own cc nL) {k : Nat} {x : Int64} (hd : decode cc pc = .ok (.lstore k, 2)) (hi : mx_st2 L k = true) (kk : mx_WW G X q ((L.set k (.long x)).set (k + 1) .null) S M) (hq : pc + 2 = q := by rfl) : mx_WW G X pc L (.long x :: S) M := by
  obtain ⟨p, l, e, R, s, m, args, below, meth, c, Q, cells, slots⟩ := X
  obtain ⟨hx, hb, hml, hown, hts, hSC⟩ := hX
  subst hq
  intro H locs ls hP hS hl
  obtain ⟨ls', e', h'⟩ := mx_store2 (x := x) hl hi
  intro T hT X9
  obtain ⟨t, a, b⟩ := kk H locs ls' hP hS h' T hT X9
  refine ⟨t, ?_, b⟩
  try simp only [mx_c] at e'
  jvm_step X9.here [X9.here.top, ↓top_set X9.here.top, hx, hb, hd, mx_c, List.map_cons, Value.isRef, e']
  exact a
theorem r_iinc (q : Nat) (hX : mx_OK G X own cc nL) {k : Nat} {n : Int} {x : Int32} {v : Int32} (hd : decode cc pc = .ok (.iinc k n, 3)) (hv : L[k]? = some (.int x)) (hn : Int32.ofInt n = v) (hi : mx_st1 L k = true) (kk : mx_WW G X q (L.set k (.int (x + v))) S M) (hq : pc + 3 = q := by rfl) : mx_WW G X pc L S M := by
  obtain ⟨p, l, e, R, s, m, args, below, meth, c, Q, cells, slots⟩ := X
  obtain ⟨hx, hb, hml, hown, hts, hSC⟩ := hX
  subst hq
  intro H locs ls hP hS hl
  subst hn
  obtain ⟨ls', e', h'⟩ := mx_store1 (v := .int (x + Int32.ofInt n)) hl hi rfl
  have hg : ls[k]? = some (.val (.int x)) := mx_nth hl hv (fun h => by cases h)
  intro T hT X9
  obtain ⟨t, a, b⟩ := kk H locs ls' hP hS h' T hT X9
  refine ⟨t, ?_, b⟩
  try simp only [mx_c] at e'
  jvm_step X9.here [X9.here.top, ↓top_set X9.here.top, hx, hb, hd, hg, e']
  exact a
theorem r_iadd (q : Nat) (hX : mx_OK G X own cc nL) {x y : Int32} (hd : decode cc pc = .ok (.iadd, 1))  (kk : mx_WW G X q L (.int (x + y) :: S) M) (hq : pc + 1 = q := by rfl) : mx_WW G X pc L (.int y :: .int x :: S) M := by
  obtain ⟨p, l, e, R, s, m, args, below, meth, c, Q, cells, slots⟩ := X
  obtain ⟨hx, hb, hml, hown, hts, hSC⟩ := hX
  subst hq
  intro H locs ls hP hS hl
  exact lv_iadd hx hb hd (kk H locs ls hP hS hl)
theorem r_isub (q : Nat) (hX : mx_OK G X own cc nL) {x y : Int32} (hd : decode cc pc = .ok (.isub, 1))  (kk : mx_WW G X q L (.int (x - y) :: S) M) (hq : pc + 1 = q := by rfl) : mx_WW G X pc L (.int y :: .int x :: S) M := by
  obtain ⟨p, l, e, R, s, m, args, below, meth, c, Q, cells, slots⟩ := X
  obtain ⟨hx, hb, hml, hown, hts, hSC⟩ := hX
  subst hq
  intro H locs ls hP hS hl
  exact lv_isub hx hb hd (kk H locs ls hP hS hl)
theorem r_imul (q : Nat) (hX : mx_OK G X own cc nL) {x y : Int32} (hd : decode cc pc = .ok (.imul, 1))  (kk : mx_WW G X q L (.int (x * y) :: S) M) (hq : pc + 1 = q := by rfl) : mx_WW G X pc L (.int y :: .int x :: S) M := by
  obtain ⟨p, l, e, R, s, m, args, below, meth, c, Q, cells, slots⟩ := X
  obtain ⟨hx, hb, hml, hown, hts, hSC⟩ := hX
  subst hq
  intro H locs ls hP hS hl
  exact lv_imul hx hb hd (kk H locs ls hP hS hl)
theorem r_iand (q : Nat) (hX : mx_OK G X own cc nL) {x y : Int32} (hd : decode cc pc = .ok (.iand, 1))  (kk : mx_WW G X q L (.int (x &&& y) :: S) M) (hq : pc + 1 = q := by rfl) : mx_WW G X pc L (.int y :: .int x :: S) M := by
  obtain ⟨p, l, e, R, s, m, args, below, meth, c, Q, cells, slots⟩ := X
  obtain ⟨hx, hb, hml, hown, hts, hSC⟩ := hX
  subst hq
  intro H locs ls hP hS hl
  exact lv_iand hx hb hd (kk H locs ls hP hS hl)
theorem r_ior (q : Nat) (hX : mx_OK G X own cc nL) {x y : Int32} (hd : decode cc pc = .ok (.ior, 1))  (kk : mx_WW G X q L (.int (x ||| y) :: S) M) (hq : pc + 1 = q := by rfl) : mx_WW G X pc L (.int y :: .int x :: S) M := by
  obtain ⟨p, l, e, R, s, m, args, below, meth, c, Q, cells, slots⟩ := X
  obtain ⟨hx, hb, hml, hown, hts, hSC⟩ := hX
  subst hq
  intro H locs ls hP hS hl
  exact lv_ior hx hb hd (kk H locs ls hP hS hl)
theorem r_ishl (q : Nat) (hX : mx_OK G X own cc nL) {x y : Int32} (hd : decode cc pc = .ok (.ishl, 1))  (kk : mx_WW G X q L (.int (x <<< (y &&& 31)) :: S) M) (hq : pc + 1 = q := by rfl) : mx_WW G X pc L (.int y :: .int x :: S) M := by
  obtain ⟨p, l, e, R, s, m, args, below, meth, c, Q, cells, slots⟩ := X
  obtain ⟨hx, hb, hml, hown, hts, hSC⟩ := hX
  subst hq
  intro H locs ls hP hS hl
  exact lv_ishl hx hb hd (kk H locs ls hP hS hl)
theorem r_ishr (q : Nat) (hX : mx_OK G X own cc nL) {x y : Int32} (hd : decode cc pc = .ok (.ishr, 1))  (kk : mx_WW G X q L (.int (x >>> (y &&& 31)) :: S) M) (hq : pc + 1 = q := by rfl) : mx_WW G X pc L (.int y :: .int x :: S) M := by
  obtain ⟨p, l, e, R, s, m, args, below, meth, c, Q, cells, slots⟩ := X
  obtain ⟨hx, hb, hml, hown, hts, hSC⟩ := hX
  subst hq
  intro H locs ls hP hS hl
  exact lv_ishr hx hb hd (kk H locs ls hP hS hl)
theorem r_idiv (q : Nat) (hX : mx_OK G X own cc nL) {x y : Int32} (hd : decode cc pc = .ok (.idiv, 1)) (hne : ¬ y = 0) (kk : mx_WW G X q L (.int (x / y) :: S) M) (hq : pc + 1 = q := by rfl) : mx_WW G X pc L (.int y :: .int x :: S) M := by
  obtain ⟨p, l, e, R, s, m, args, below, meth, c, Q, cells, slots⟩ := X
  obtain ⟨hx, hb, hml, hown, hts, hSC⟩ := hX
  subst hq
  intro H locs ls hP hS hl
  exact lv_idiv hx hb hd hne (kk H locs ls hP hS hl)
theorem r_irem (q : Nat) (hX : mx_OK G X own cc nL) {x y : Int32} (hd : decode cc pc = .ok (.irem, 1)) (hne : ¬ y = 0) (kk : mx_WW G X q L (.int (x - x / y * y) :: S) M) (hq : pc + 1 = q := by rfl) : mx_WW G X pc L (.int y :: .int x :: S) M := by
  obtain ⟨p, l, e, R, s, m, args, below, meth, c, Q, cells, slots⟩ := X
  obtain ⟨hx, hb, hml, hown, hts, hSC⟩ := hX
  subst hq
  intro H locs ls hP hS hl
  exact lv_irem hx hb hd hne (kk H locs ls hP hS hl)
theorem r_iushr (q : Nat) (hX : mx_OK G X own cc nL) {x y : Int32} (hd : decode cc pc = .ok (.iushr, 1))  (kk : mx_WW G X q L (.int ((x.toUInt32 >>> (y.toUInt32 &&& Int32.toUInt32 31)).toInt32) :: S) M) (hq : pc + 1 = q := by rfl) : mx_WW G X pc L (.int y :: .int x :: S) M := by
  obtain ⟨p, l, e, R, s, m, args, below, meth, c, Q, cells, slots⟩ := X
  obtain ⟨hx, hb, hml, hown, hts, hSC⟩ := hX
  subst hq
  intro H locs ls hP hS hl
  exact lv_iushr hx hb hd rfl (kk H locs ls hP hS hl)
theorem r_ladd (q : Nat) (hX : mx_OK G X own cc nL) {x y : Int64} (hd : decode cc pc = .ok (.ladd, 1))  (kk : mx_WW G X q L (.long (x + y) :: S) M) (hq : pc + 1 = q := by rfl) : mx_WW G X pc L (.long y :: .long x :: S) M := by
  obtain ⟨p, l, e, R, s, m, args, below, meth, c, Q, cells, slots⟩ := X
  obtain ⟨hx, hb, hml, hown, hts, hSC⟩ := hX
  subst hq
  intro H locs ls hP hS hl
  exact lv_ladd hx hb hd (kk H locs ls hP hS hl)
theorem r_lsub (q : Nat) (hX : mx_OK G X own cc nL) {x y : Int64} (hd : decode cc pc = .ok (.lsub, 1))  (kk : mx_WW G X q L (.long (x - y) :: S) M) (hq : pc + 1 = q := by rfl) : mx_WW G X pc L (.long y :: .long x :: S) M := by
  obtain ⟨p, l, e, R, s, m, args, below, meth, c, Q, cells, slots⟩ := X
  obtain ⟨hx, hb, hml, hown, hts, hSC⟩ := hX
  subst hq
  intro H locs ls hP hS hl
  exact lv_lsub hx hb hd (kk H locs ls hP hS hl)
theorem r_lmul (q : Nat) (hX : mx_OK G X own cc nL) {x y : Int64} (hd : decode cc pc = .ok (.lmul, 1))  (kk : mx_WW G X q L (.long (x * y) :: S) M) (hq : pc + 1 = q := by rfl) : mx_WW G X pc L (.long y :: .long x :: S) M := by
  obtain ⟨p, l, e, R, s, m, args, below, meth, c, Q, cells, slots⟩ := X
  obtain ⟨hx, hb, hml, hown, hts, hSC⟩ := hX
  subst hq
  intro H locs ls hP hS hl
  exact lv_lmul hx hb hd (kk H locs ls hP hS hl)
theorem r_ldiv (q : Nat) (hX : mx_OK G X own cc nL) {x y : Int64} (hd : decode cc pc = .ok (.ldiv, 1)) (hne : ¬ y = 0) (kk : mx_WW G X q L (.long (x / y) :: S) M) (hq : pc + 1 = q := by rfl) : mx_WW G X pc L (.long y :: .long x :: S) M := by
  obtain ⟨p, l, e, R, s, m, args, below, meth, c, Q, cells, slots⟩ := X
  obtain ⟨hx, hb, hml, hown, hts, hSC⟩ := hX
  subst hq
  intro H locs ls hP hS hl
  exact lv_ldiv hx hb hd hne (kk H locs ls hP hS hl)
theorem r_lcmp (q : Nat) (hX : mx_OK G X own cc nL) {x y : Int64} (hd : decode cc pc = .ok (.lcmp, 1))  (kk : mx_WW G X q L (.int (lg_cmp x y) :: S) M) (hq : pc + 1 = q := by rfl) : mx_WW G X pc L (.long y :: .long x :: S) M := by
  obtain ⟨p, l, e, R, s, m, args, below, meth, c, Q, cells, slots⟩ := X
  obtain ⟨hx, hb, hml, hown, hts, hSC⟩ := hX
  subst hq
  intro H locs ls hP hS hl
  exact W.lcmp hx hb hd (kk H locs ls hP hS hl)
theorem r_i2l (q : Nat) (hX : mx_OK G X own cc nL) {x : Int32} (hd : decode cc pc = .ok (.i2l, 1))  (kk : mx_WW G X q L (.long x.toInt64 :: S) M) (hq : pc + 1 = q := by rfl) : mx_WW G X pc L (.int x :: S) M := by
  obtain ⟨p, l, e, R, s, m, args, below, meth, c, Q, cells, slots⟩ := X
  obtain ⟨hx, hb, hml, hown, hts, hSC⟩ := hX
  subst hq
  intro H locs ls hP hS hl
  exact lv_i2l hx hb hd rfl (kk H locs ls hP hS hl)
theorem r_l2i (q : Nat) (hX : mx_OK G X own cc nL) {x : Int64} (hd : decode cc pc = .ok (.l2i, 1))  (kk : mx_WW G X q L (.int x.toInt32 :: S) M) (hq : pc + 1 = q := by rfl) : mx_WW G X pc L (.long x :: S) M := by
  obtain ⟨p, l, e, R, s, m, args, below, meth, c, Q, cells, slots⟩ := X
  obtain ⟨hx, hb, hml, hown, hts, hSC⟩ := hX
  subst hq
  intro H locs ls hP hS hl
  exact lv_l2i hx hb hd rfl (kk H locs ls hP hS hl)
theorem r_i2c (q : Nat) (hX : mx_OK G X own cc nL) {x : Int32} (hd : decode cc pc = .ok (.i2c, 1))  (kk : mx_WW G X q L (.int (x.toUInt32 % 65536).toInt32 :: S) M) (hq : pc + 1 = q := by rfl) : mx_WW G X pc L (.int x :: S) M := by
  obtain ⟨p, l, e, R, s, m, args, below, meth, c, Q, cells, slots⟩ := X
  obtain ⟨hx, hb, hml, hown, hts, hSC⟩ := hX
  subst hq
  intro H locs ls hP hS hl
  exact lv_i2c hx hb hd rfl (kk H locs ls hP hS hl)
theorem r_i2b (q : Nat) (hX : mx_OK G X own cc nL) {x : Int32} (hd : decode cc pc = .ok (.i2b, 1))  (kk : mx_WW G X q L (.int x.toInt8.toInt32 :: S) M) (hq : pc + 1 = q := by rfl) : mx_WW G X pc L (.int x :: S) M := by
  obtain ⟨p, l, e, R, s, m, args, below, meth, c, Q, cells, slots⟩ := X
  obtain ⟨hx, hb, hml, hown, hts, hSC⟩ := hX
  subst hq
  intro H locs ls hP hS hl
  exact lv_i2b hx hb hd rfl (kk H locs ls hP hS hl)
theorem r_dup (q : Nat) (hX : mx_OK G X own cc nL) {a : Value} (hd : decode cc pc = .ok (.dup, 1)) (ha : a.category = 1) (kk : mx_WW G X q L (a :: a :: S) M) (hq : pc + 1 = q := by rfl) : mx_WW G X pc L (a :: S) M := by
  obtain ⟨p, l, e, R, s, m, args, below, meth, c, Q, cells, slots⟩ := X
  obtain ⟨hx, hb, hml, hown, hts, hSC⟩ := hX
  subst hq
  intro H locs ls hP hS hl
  exact lv_dup hx hb hd (by rw [mx_cat]; exact ha) (kk H locs ls hP hS hl)
theorem r_dup_x1 (q : Nat) (hX : mx_OK G X own cc nL) {a b : Value} (hd : decode cc pc = .ok (.dup_x1, 1)) (ha : a.category = 1) (hb2 : b.category = 1) (kk : mx_WW G X q L (a :: b :: a :: S) M) (hq : pc + 1 = q := by rfl) : mx_WW G X pc L (a :: b :: S) M := by
  obtain ⟨p, l, e, R, s, m, args, below, meth, c, Q, cells, slots⟩ := X
  obtain ⟨hx, hb, hml, hown, hts, hSC⟩ := hX
  subst hq
  intro H locs ls hP hS hl
  exact lv_dup_x1 hx hb hd (by rw [mx_cat]; exact ha) (by rw [mx_cat]; exact hb2) (kk H locs ls hP hS hl)
theorem r_dup2 (q : Nat) (hX : mx_OK G X own cc nL) {a b : Value} (hd : decode cc pc = .ok (.dup2, 1)) (ha : a.category = 1) (hb2 : b.category = 1) (kk : mx_WW G X q L (a :: b :: a :: b :: S) M) (hq : pc + 1 = q := by rfl) : mx_WW G X pc L (a :: b :: S) M := by
  obtain ⟨p, l, e, R, s, m, args, below, meth, c, Q, cells, slots⟩ := X
  obtain ⟨hx, hb, hml, hown, hts, hSC⟩ := hX
  subst hq
  intro H locs ls hP hS hl
  exact lv_dup2_11 hx hb hd (by rw [mx_cat]; exact ha) (by rw [mx_cat]; exact hb2) (kk H locs ls hP hS hl)
theorem r_pop (q : Nat) (hX : mx_OK G X own cc nL) {a : Value} (hd : decode cc pc = .ok (.pop, 1)) (ha : a.category = 1) (kk : mx_WW G X q L (S) M) (hq : pc + 1 = q := by rfl) : mx_WW G X pc L (a :: S) M := by
  obtain ⟨p, l, e, R, s, m, args, below, meth, c, Q, cells, slots⟩ := X
  obtain ⟨hx, hb, hml, hown, hts, hSC⟩ := hX
  subst hq
  intro H locs ls hP hS hl
  exact lv_pop hx hb hd (by rw [mx_cat]; exact ha) (kk H locs ls hP hS hl)
theorem r_if_eq (q t : Nat) (hX : mx_OK G X own cc nL) {x : Int32} {off : Int} (hd : decode cc pc = .ok (.ifCond .eq off, 3)) (kt : x = 0 → mx_WW G X t L S M) (kf : ¬ x = 0 → mx_WW G X q L S M) (ht : (pc : Int) + off = (t : Int) := by decide) (hq : pc + 3 = q := by rfl) : mx_WW G X pc L (.int x :: S) M := by
  obtain ⟨p, l, e, R, s, m, args, below, meth, c, Q, cells, slots⟩ := X
  obtain ⟨hx, hb, hml, hown, hts, hSC⟩ := hX
  subst hq
  intro H locs ls hP hS hl
  exact lv_if_eq hx hb hd ht (fun h => kt h H locs ls hP hS hl) (fun h => kf h H locs ls hP hS hl)
theorem r_icmp_eq (q t : Nat) (hX : mx_OK G X own cc nL) {x y : Int32} {off : Int} (hd : decode cc pc = .ok (.if_icmp .eq off, 3)) (kt : x = y → mx_WW G X t L S M) (kf : ¬ x = y → mx_WW G X q L S M) (ht : (pc : Int) + off = (t : Int) := by decide) (hq : pc + 3 = q := by rfl) : mx_WW G X pc L (.int y :: .int x :: S) M := by
  obtain ⟨p, l, e, R, s, m, args, below, meth, c, Q, cells, slots⟩ := X
  obtain ⟨hx, hb, hml, hown, hts, hSC⟩ := hX
  subst hq
  intro H locs ls hP hS hl
  exact lv_icmp_eq hx hb hd ht (fun h => kt h H locs ls hP hS hl) (fun h => kf h H locs ls hP hS hl)
theorem r_if_ne (q t : Nat) (hX : mx_OK G X own cc nL) {x : Int32} {off : Int} (hd : decode cc pc = .ok (.ifCond .ne off, 3)) (kt : ¬ x = 0 → mx_WW G X t L S M) (kf : x = 0 → mx_WW G X q L S M) (ht : (pc : Int) + off = (t : Int) := by decide) (hq : pc + 3 = q := by rfl) : mx_WW G X pc L (.int x :: S) M := by
  obtain ⟨p, l, e, R, s, m, args, below, meth, c, Q, cells, slots⟩ := X
  obtain ⟨hx, hb, hml, hown, hts, hSC⟩ := hX
  subst hq
  intro H locs ls hP hS hl
  exact lv_if_ne hx hb hd ht (fun h => kt h H locs ls hP hS hl) (fun h => kf h H locs ls hP hS hl)
theorem r_icmp_ne (q t : Nat) (hX : mx_OK G X own cc nL) {x y : Int32} {off : Int} (hd : decode cc pc = .ok (.if_icmp .ne off, 3)) (kt : ¬ x = y → mx_WW G X t L S M) (kf : x = y → mx_WW G X q L S M) (ht : (pc : Int) + off = (t : Int) := by decide) (hq : pc + 3 = q := by rfl) : mx_WW G X pc L (.int y :: .int x :: S) M := by
  obtain ⟨p, l, e, R, s, m, args, below, meth, c, Q, cells, slots⟩ := X
  obtain ⟨hx, hb, hml, hown, hts, hSC⟩ := hX
  subst hq
  intro H locs ls hP hS hl
  exact lv_icmp_ne hx hb hd ht (fun h => kt h H locs ls hP hS hl) (fun h => kf h H locs ls hP hS hl)
theorem r_if_lt (q t : Nat) (hX : mx_OK G X own cc nL) {x : Int32} {off : Int} (hd : decode cc pc = .ok (.ifCond .lt off, 3)) (kt : x < 0 → mx_WW G X t L S M) (kf : ¬ x < 0 → mx_WW G X q L S M) (ht : (pc : Int) + off = (t : Int) := by decide) (hq : pc + 3 = q := by rfl) : mx_WW G X pc L (.int x :: S) M := by
  obtain ⟨p, l, e, R, s, m, args, below, meth, c, Q, cells, slots⟩ := X
  obtain ⟨hx, hb, hml, hown, hts, hSC⟩ := hX
  subst hq
  intro H locs ls hP hS hl
  exact lv_if_lt hx hb hd ht (fun h => kt h H locs ls hP hS hl) (fun h => kf h H locs ls hP hS hl)
theorem r_icmp_lt (q t : Nat) (hX : mx_OK G X own cc nL) {x y : Int32} {off : Int} (hd : decode cc pc = .ok (.if_icmp .lt off, 3)) (kt : x < y → mx_WW G X t L S M) (kf : ¬ x < y → mx_WW G X q L S M) (ht : (pc : Int) + off = (t : Int) := by decide) (hq : pc + 3 = q := by rfl) : mx_WW G X pc L (.int y :: .int x :: S) M := by
  obtain ⟨p, l, e, R, s, m, args, below, meth, c, Q, cells, slots⟩ := X
  obtain ⟨hx, hb, hml, hown, hts, hSC⟩ := hX
  subst hq
  intro H locs ls hP hS hl
  exact lv_icmp_lt hx hb hd ht (fun h => kt h H locs ls hP hS hl) (fun h => kf h H locs ls hP hS hl)
theorem r_if_ge (q t : Nat) (hX : mx_OK G X own cc nL) {x : Int32} {off : Int} (hd : decode cc pc = .ok (.ifCond .ge off, 3)) (kt : 0 ≤ x → mx_WW G X t L S M) (kf : ¬ 0 ≤ x → mx_WW G X q L S M) (ht : (pc : Int) + off = (t : Int) := by decide) (hq : pc + 3 = q := by rfl) : mx_WW G X pc L (.int x :: S) M := by
  obtain ⟨p, l, e, R, s, m, args, below, meth, c, Q, cells, slots⟩ := X
  obtain ⟨hx, hb, hml, hown, hts, hSC⟩ := hX
  subst hq
  intro H locs ls hP hS hl
  exact lv_if_ge hx hb hd ht (fun h => kt h H locs ls hP hS hl) (fun h => kf h H locs ls hP hS hl)
theorem r_icmp_ge (q t : Nat) (hX : mx_OK G X own cc nL) {x y : Int32} {off : Int} (hd : decode cc pc = .ok (.if_icmp .ge off, 3)) (kt : y ≤ x → mx_WW G X t L S M) (kf : ¬ y ≤ x → mx_WW G X q L S M) (ht : (pc : Int) + off = (t : Int) := by decide) (hq : pc + 3 = q := by rfl) : mx_WW G X pc L (.int y :: .int x :: S) M := by
  obtain ⟨p, l, e, R, s, m, args, below, meth, c, Q, cells, slots⟩ := X
  obtain ⟨hx, hb, hml, hown, hts, hSC⟩ := hX
  subst hq
  intro H locs ls hP hS hl
  exact lv_icmp_ge hx hb hd ht (fun h => kt h H locs ls hP hS hl) (fun h => kf h H locs ls hP hS hl)
theorem r_if_gt (q t : Nat) (hX : mx_OK G X own cc nL) {x : Int32} {off : Int} (hd : decode cc pc = .ok (.ifCond .gt off, 3)) (kt : 0 < x → mx_WW G X t L S M) (kf : ¬ 0 < x → mx_WW G X q L S M) (ht : (pc : Int) + off = (t : Int) := by decide) (hq : pc + 3 = q := by rfl) : mx_WW G X pc L (.int x :: S) M := by
  obtain ⟨p, l, e, R, s, m, args, below, meth, c, Q, cells, slots⟩ := X
  obtain ⟨hx, hb, hml, hown, hts, hSC⟩ := hX
  subst hq
  intro H locs ls hP hS hl
  exact lv_if_gt hx hb hd ht (fun h => kt h H locs ls hP hS hl) (fun h => kf h H locs ls hP hS hl)
theorem r_icmp_gt (q t : Nat) (hX : mx_OK G X own cc nL) {x y : Int32} {off : Int} (hd : decode cc pc = .ok (.if_icmp .gt off, 3)) (kt : y < x → mx_WW G X t L S M) (kf : ¬ y < x → mx_WW G X q L S M) (ht : (pc : Int) + off = (t : Int) := by decide) (hq : pc + 3 = q := by rfl) : mx_WW G X pc L (.int y :: .int x :: S) M := by
  obtain ⟨p, l, e, R, s, m, args, below, meth, c, Q, cells, slots⟩ := X
  obtain ⟨hx, hb, hml, hown, hts, hSC⟩ := hX
  subst hq
  intro H locs ls hP hS hl
  exact lv_icmp_gt hx hb hd ht (fun h => kt h H locs ls hP hS hl) (fun h => kf h H locs ls hP hS hl)
theorem r_if_le (q t : Nat) (hX : mx_OK G X own cc nL) {x : Int32} {off : Int} (hd : decode cc pc = .ok (.ifCond .le off, 3)) (kt : x ≤ 0 → mx_WW G X t L S M) (kf : ¬ x ≤ 0 → mx_WW G X q L S M) (ht : (pc : Int) + off = (t : Int) := by decide) (hq : pc + 3 = q := by rfl) : mx_WW G X pc L (.int x :: S) M := by
  obtain ⟨p, l, e, R, s, m, args, below, meth, c, Q, cells, slots⟩ := X
  obtain ⟨hx, hb, hml, hown, hts, hSC⟩ := hX
  subst hq
  intro H locs ls hP hS hl
  exact lv_if_le hx hb hd ht (fun h => kt h H locs ls hP hS hl) (fun h => kf h H locs ls hP hS hl)
theorem r_icmp_le (q t : Nat) (hX : mx_OK G X own cc nL) {x y : Int32} {off : Int} (hd : decode cc pc = .ok (.if_icmp .le off, 3)) (kt : x ≤ y → mx_WW G X t L S M) (kf : ¬ x ≤ y → mx_WW G X q L S M) (ht : (pc : Int) + off = (t : Int) := by decide) (hq : pc + 3 = q := by rfl) : mx_WW G X pc L (.int y :: .int x :: S) M := by
  obtain ⟨p, l, e, R, s, m, args, below, meth, c, Q, cells, slots⟩ := X
  obtain ⟨hx, hb, hml, hown, hts, hSC⟩ := hX
  subst hq
  intro H locs ls hP hS hl
  exact lv_icmp_le hx hb hd ht (fun h => kt h H locs ls hP hS hl) (fun h => kf h H locs ls hP hS hl)
theorem r_goto (t : Nat) (hX : mx_OK G X own cc nL) {off : Int} (hd : decode cc pc = .ok (.goto off, 3)) (kk : mx_WW G X t L S M) (ht : (pc : Int) + off = (t : Int) := by decide) : mx_WW G X pc L S M := by
  obtain ⟨p, l, e, R, s, m, args, below, meth, c, Q, cells, slots⟩ := X
  obtain ⟨hx, hb, hml, hown, hts, hSC⟩ := hX
  intro H locs ls hP hS hl
  exact lv_goto hx hb hd ht (kk H locs ls hP hS hl)
theorem r_tableOut (t : Nat) (hX : mx_OK G X own cc nL) {dflt lo hi : Int} {offs : Array Int} {len : Nat} {x : Int32} (hd : decode cc pc = .ok (.tableswitch dflt lo hi offs, len)) (h : x.toInt < lo ∨ hi < x.toInt) (kk : mx_WW G X t L S M) (ht : (pc : Int) + dflt = (t : Int) := by decide) : mx_WW G X pc L (.int x :: S) M := by
  obtain ⟨p, l, e, R, s, m, args, below, meth, c, Q, cells, slots⟩ := X
  obtain ⟨hx, hb, hml, hown, hts, hSC⟩ := hX
  intro H locs ls hP hS hl
  exact lv_tableOut hx hb hd h ht (kk H locs ls hP hS hl)
theorem r_tableIn (t : Nat) (hX : mx_OK G X own cc nL) {dflt lo hi : Int} {offs : Array Int} {len : Nat} {x : Int32} {off : Int} (hd : decode cc pc = .ok (.tableswitch dflt lo hi offs, len)) (h1 : ¬ x.toInt < lo) (h2 : ¬ hi < x.toInt) (ho : offs[(x.toInt - lo).toNat]? = some off) (kk : mx_WW G X t L S M) (ht : (pc : Int) + off = (t : Int) := by decide) : mx_WW G X pc L (.int x :: S) M := by
  obtain ⟨p, l, e, R, s, m, args, below, meth, c, Q, cells, slots⟩ := X
  obtain ⟨hx, hb, hml, hown, hts, hSC⟩ := hX
  intro H locs ls hP hS hl
  exact lv_tableIn hx hb hd h1 h2 ho ht (kk H locs ls hP hS hl)
theorem r_ldc (q : Nat) (hX : mx_OK G X own cc nL) {i : Nat} {v : Int32} (hd : decode cc pc = .ok (.ldc i, 2)) (hc : Cond.constant own i v ∈ mx_gW) (kk : mx_WW G X q L (.int v :: S) M) (hq : pc + 2 = q := by rfl) : mx_WW G X pc L (S) M := by
  obtain ⟨p, l, e, R, s, m, args, below, meth, c, Q, cells, slots⟩ := X
  obtain ⟨hx, hb, hml, hown, hts, hSC⟩ := hX
  subst hq
  intro H locs ls hP hS hl
  exact lv_ldc hx hb hown (hts _ hc) hd (kk H locs ls hP hS hl)
theorem r_ldcw (q : Nat) (hX : mx_OK G X own cc nL) {i : Nat} {v : Int32} (hd : decode cc pc = .ok (.ldc_w i, 3)) (hc : Cond.constant own i v ∈ mx_gW) (kk : mx_WW G X q L (.int v :: S) M) (hq : pc + 3 = q := by rfl) : mx_WW G X pc L (S) M := by
  obtain ⟨p, l, e, R, s, m, args, below, meth, c, Q, cells, slots⟩ := X
  obtain ⟨hx, hb, hml, hown, hts, hSC⟩ := hX
  subst hq
  intro H locs ls hP hS hl
  exact lv_ldcw hx hb hown (hts _ hc) hd (kk H locs ls hP hS hl)
theorem r_ldc2 (q : Nat) (hX : mx_OK G X own cc nL) {i : Nat} {v : Int64} (hd : decode cc pc = .ok (.ldc2_w i, 3)) (hc : Cond.constantLong own i v ∈ mx_gW) (kk : mx_WW G X q L (.long v :: S) M) (hq : pc + 3 = q := by rfl) : mx_WW G X pc L (S) M := by
  obtain ⟨p, l, e, R, s, m, args, below, meth, c, Q, cells, slots⟩ := X
  obtain ⟨hx, hb, hml, hown, hts, hSC⟩ := hX
  subst hq
  intro H locs ls hP hS hl
  exact lv_ldc2 hx hb hown (hts _ hc) hd (kk H locs ls hP hS hl)
end MXR
end
section
def mx_ck (ci : Nat) (C : String) (T : u_T) (N : Nat) : Prop := mx_cl[ci]? = some (C, T, N) ∧ (∀ w ∈ u_ws C T N, w ∈ mx_gW) ∧ (∃ ty0 : Nat → FieldType, ∀ k, k < N → parseFieldDescriptor (T k).2.2.1 = some (ty0 k)) ∧ ∀ a, a < N → ∀ b, b < N → a ≠ b → (T a).2.1 ≠ (T b).2.1
theorem mx_sub {ws : List Cond} (h : ws.all (fun w => goodWord w && decide (w ∈ lw_tbl)) = true) : ∀ w ∈ ws, w ∈ mx_gW := fun w hw => mx_in (List.all_eq_true.mp h w hw)
theorem mx_ck0 : mx_ck 0 RX0 TX0 5 := ⟨rfl, mx_sub (by decide +kernel), ⟨tyX0, tyX0_ok⟩, nmX0⟩
theorem mx_ck1 : mx_ck 1 RX1 TX1 7 := ⟨rfl, mx_sub (by decide +kernel), ⟨tyX1, tyX1_ok⟩, nmX1⟩
theorem mx_ck2 : mx_ck 2 RX2 TX2 12 := ⟨rfl, mx_sub (by decide +kernel), ⟨tyX2, tyX2_ok⟩, nmX2⟩
theorem mx_ck3 : mx_ck 3 RX3 TX3 1 := ⟨rfl, mx_sub (by decide +kernel), ⟨tyX3, tyX3_ok⟩, nmX3⟩
theorem mx_ck4 : mx_ck 4 RX4 TX4 4 := ⟨rfl, mx_sub (by decide +kernel), ⟨tyX4, tyX4_ok⟩, nmX4⟩
theorem mx_ck5 : mx_ck 5 RX5 TX5 2 := ⟨rfl, mx_sub (by decide +kernel), ⟨tyX5, tyX5_ok⟩, nmX5⟩
theorem mx_ck6 : mx_ck 6 RX6 TX6 2 := ⟨rfl, mx_sub (by decide +kernel), ⟨tyX6, tyX6_ok⟩, nmX6⟩
theorem mx_ck7 : mx_ck 7 RX7 TX7 15 := ⟨rfl, mx_sub (by decide +kernel), ⟨tyX7, tyX7_ok⟩, nmX7⟩
theorem mx_ck8 : mx_ck 8 RX8 TX8 18 := ⟨rfl, mx_sub (by decide +kernel), ⟨tyX8, tyX8_ok⟩, nmX8⟩
/-- entry idx of class own's pool is field j of class ci -/
def mx_fl (own : String) (idx ci j : Nat) : Prop := ∃ (C : String) (T : u_T) (N : Nat), mx_ck ci C T N ∧ j < N ∧ (Cond.fieldLink own idx (T j).1 (T j).2.1 (T j).2.2.1 ∈ mx_gW ∨ Cond.fieldLinkNest own idx (T j).1 (T j).2.1 (T j).2.2.1 RX7 ∈ mx_nest)
/-- field j of class ci may be written, its type is ty -/
def mx_fp (ci j : Nat) (ty : FieldType) : Prop := ∀ (C : String) (T : u_T) (N : Nat), mx_cl[ci]? = some (C, T, N) → (T j).2.2.2 = false ∧ parseFieldDescriptor (T j).2.2.1 = some ty
theorem mx_fs_i {ad : Nat → Nat} {f : Nat → Int32} : ∀ (fs : List (Option Nat)) (i j : Nat), fs[j]? = some none → (mx_fs ad f i fs)[j]? = some (.int (f (i + j)))
  | [], i, j, h => by simp at h
  | none :: r, i, 0, h => rfl
  | some a :: r, i, 0, h => by simp at h
  | none :: r, i, j + 1, h => by
    have := mx_fs_i (ad := ad) (f := f) r (i + 1) j (by simpa using h)
    rw [show i + (j + 1) = i + 1 + j by omega]
    simpa [mx_fs] using this
  | some a :: r, i, j + 1, h => by
    have := mx_fs_i (ad := ad) (f := f) r (i + 1) j (by simpa using h)
    rw [show i + (j + 1) = i + 1 + j by omega]
    simpa [mx_fs] using this
theorem mx_fs_r {ad : Nat → Nat} {f : Nat → Int32} {k : Nat} : ∀ (fs : List (Option Nat)) (i j : Nat), fs[j]? = some (some k) → (mx_fs ad f i fs)[j]? = some (.ref (ad k))
  | [], i, j, h => by simp at h
  | none :: r, i, 0, h => by simp at h
  | some a :: r, i, 0, h => by
    simp at h
    subst h
    rfl
  | none :: r, i, j + 1, h => by
    have := mx_fs_r (ad := ad) (f := f) (k := k) r (i + 1) j (by simpa using h)
    simpa [mx_fs] using this
  | some a :: r, i, j + 1, h => by
    have := mx_fs_r (ad := ad) (f := f) (k := k) r (i + 1) j (by simpa using h)
    simpa [mx_fs] using this
theorem mx_fs_same {ad : Nat → Nat} {f g : Nat → Int32} : ∀ (fs : List (Option Nat)) (i : Nat), (∀ a, i ≤ a → f a = g a) → mx_fs ad f i fs = mx_fs ad g i fs
  | [], i, h => rfl
  | none :: r, i, h => by
    simp only [mx_fs]
    rw [h i (Nat.le_refl i), mx_fs_same r (i + 1) (fun a ha => h a (by omega))]
  | some a :: r, i, h => by
    simp only [mx_fs]
    rw [mx_fs_same r (i + 1) (fun a ha => h a (by omega))]
theorem mx_fs_set {ad : Nat → Nat} {f : Nat → Int32} {v : Int32} : ∀ (fs : List (Option Nat)) (i j : Nat), fs[j]? = some none → (mx_fs ad f i fs).set j (.int v) = mx_fs ad (upd f (i + j) v) i fs
  | [], i, j, h => by simp at h
  | none :: r, i, 0, h => by
    simp only [mx_fs, List.set_cons_zero, Nat.add_zero]
    rw [mx_fs_same r (i + 1) (f := f) (g := upd f i v) (fun a ha => by simp [upd]; omega)]
    simp [upd]
  | some a :: r, i, 0, h => by simp at h
  | none :: r, i, j + 1, h => by
    have := mx_fs_set (ad := ad) (f := f) (v := v) r (i + 1) j (by simpa using h)
    simp only [mx_fs, List.set_cons_succ]
    rw [this, show i + 1 + j = i + (j + 1) by omega]
    simp [upd, show ¬ i = i + (j + 1) by omega]
  | some a :: r, i, j + 1, h => by
    have := mx_fs_set (ad := ad) (f := f) (v := v) r (i + 1) j (by simpa using h)
    simp only [mx_fs, List.set_cons_succ]
    rw [this, show i + 1 + j = i + (j + 1) by omega]
theorem mx_fs_len {ad : Nat → Nat} {f : Nat → Int32} : ∀ (fs : List (Option Nat)) (i : Nat), (mx_fs ad f i fs).length = fs.length
  | [], i => rfl
  | none :: r, i => by simp [mx_fs, mx_fs_len r (i + 1)]
  | some a :: r, i => by simp [mx_fs, mx_fs_len r (i + 1)]
theorem mx_lt {G : mx_G} {U : State} {H : Heap} (h : mx_SC G U H) {k : Nat} (hk : Nat.blt k 61 = true) : k < mx_n G := by
  have h1 : k < 61 := by simpa [Nat.blt_eq] using hk
  obtain ⟨-, -, -, -, ⟨h2, -⟩, -⟩ := h
  omega
theorem mx_obj {G : mx_G} {M : mx_Mem} {k ci : Nat} {fs : List (Option Nat)} (hk : k < mx_n G) (hs : mx_sh k = .inr (ci, fs)) : (mx_ws G M)[k]? = some (mx_ad G k, .inr (ci, mx_fs (mx_ad G) (M.1 k) 0 fs)) := by
  rw [mx_ws_at G M hk, mx_cell, hs]
  rfl
theorem mx_ar {G : mx_G} {M : mx_Mem} {k n : Nat} {ty : FieldType} (hk : k < mx_n G) (hs : mx_sh k = .inl (ty, n)) : (mx_ws G M)[k]? = some (mx_ad G k, .inl (mx_cA G ty, n, mx_pay G M k ty)) := by
  rw [mx_ws_at G M hk, mx_cell, hs]
  rfl
theorem mx_setI {G : mx_G} {M : mx_Mem} {k j ci : Nat} {v : Int32} {fs : List (Option Nat)} (hk : k < mx_n G) (hs : mx_sh k = .inr (ci, fs)) (hj : fs[j]? = some none) : (mx_ws G M).set k (mx_ad G k, .inr (ci, (mx_fs (mx_ad G) (M.1 k) 0 fs).set j (.int v))) = mx_ws G (mI M k j v) := by
  rw [← mx_ws_set G M (mI M k j v) hk (fun a ha => mR_ne M _ ha) (fun a ha => rfl)]
  rw [mx_cell, hs, mx_fs_set fs 0 j hj, Nat.zero_add]
  show _ = List.set _ k (_, Sum.inr (ci, mx_fs _ ((mI M k j v).1 k) 0 fs))
  rw [mI, mR_self]
theorem mx_setA {G : mx_G} {M : mx_Mem} {k n : Nat} {ty : FieldType} {f : Nat → Int32} (hk : k < mx_n G) (hs : mx_sh k = .inl (ty, n)) (hp : mx_pay G (mR M k f) k ty = .inl ((mR M k f).1 k)) : (mx_ws G M).set k (mx_ad G k, .inl (mx_cA G ty, n, .inl f)) = mx_ws G (mR M k f) := by
  rw [← mx_ws_set G M (mR M k f) hk (fun a ha => mR_ne M _ ha) (fun a ha => rfl)]
  rw [mx_cell, hs]
  show _ = List.set _ k (_, Sum.inl (_, n, mx_pay G (mR M k f) k ty))
  rw [hp, mR_self]
theorem mx_setL {G : mx_G} {M : mx_Mem} {k n : Nat} {f : Nat → Int64} (hk : k < mx_n G) (hs : mx_sh k = .inl (.long, n)) : (mx_ws G M).set k (mx_ad G k, .inl (mx_cA G .long, n, .inr (.inl f))) = mx_ws G (mS M k f) := by
  rw [← mx_ws_set G M (mS M k f) hk (fun a ha => rfl) (fun a ha => mS_ne M _ ha)]
  rw [mx_cell, hs]
  show _ = List.set _ k (_, Sum.inl (_, n, Sum.inr (Sum.inl ((mS M k f).2 k))))
  rw [mS_self]
section MXH
variable {G : mx_G} {X : mx_X} {own : String} {cc : ByteArray} {nL pc : Nat} {L S : List Value} {M : mx_Mem}

theorem r_getI (q : Nat) (hX : mx_OK G X own cc nL) {i ci j k : Nat} {fs : List (Option Nat)} (hd : decode cc pc = .ok (.getfield i, 3)) (hf : mx_fl own i ci j) (hs : mx_sh k = .inr (ci, fs)) (hj : fs[j]? = some none) (hk : Nat.blt k 61 = true) (kk : mx_WW G X q L (.int (M.1 k j) :: S) M) (hq : pc + 3 = q := by rfl) : mx_WW G X pc L (.ref k :: S) M := by
  obtain ⟨p, l, e, R, s, m, args, below, meth, c, Q, cells, slots⟩ := X
  obtain ⟨hx, hb, hml, hown, hts, hSC⟩ := hX
  subst hq
  intro H locs ls hP hS hl
  obtain ⟨C, T, N, ⟨c1, c2, -, -⟩, h2, h3⟩ := hf
  have hg := mx_fs_i (ad := mx_ad G) (f := M.1 k) fs 0 j hj
  rw [Nat.zero_add] at hg
  rcases h3 with h3 | h3
  · exact va_get hx hb hts c2 hown hSC.1 hP k (mx_obj (mx_lt hSC hk) hs) c1 j h2 (hts _ h3) (fun _ h => h) hg hd (kk H locs ls hP hS hl)
  · exact va_getN hx hb hts c2 hown hSC.1 hP k (mx_obj (mx_lt hSC hk) hs) c1 j h2 (va_Nw.use rfl (hSC.2.1 _ h3)) (fun _ h => h) hg hd (kk H locs ls hP hS hl)
theorem r_getR (q : Nat) (hX : mx_OK G X own cc nL) {i ci j k a : Nat} {fs : List (Option Nat)} (hd : decode cc pc = .ok (.getfield i, 3)) (hf : mx_fl own i ci j) (hs : mx_sh k = .inr (ci, fs)) (hj : fs[j]? = some (some a)) (hk : Nat.blt k 61 = true) (kk : mx_WW G X q L (.ref a :: S) M) (hq : pc + 3 = q := by rfl) : mx_WW G X pc L (.ref k :: S) M := by
  obtain ⟨p, l, e, R, s, m, args, below, meth, c, Q, cells, slots⟩ := X
  obtain ⟨hx, hb, hml, hown, hts, hSC⟩ := hX
  subst hq
  intro H locs ls hP hS hl
  obtain ⟨C, T, N, ⟨c1, c2, -, -⟩, h2, h3⟩ := hf
  have hg := mx_fs_r (ad := mx_ad G) (f := M.1 k) fs 0 j hj
  rcases h3 with h3 | h3
  · exact va_get hx hb hts c2 hown hSC.1 hP k (mx_obj (mx_lt hSC hk) hs) c1 j h2 (hts _ h3) (fun _ h => h) hg hd (kk H locs ls hP hS hl)
  · exact va_getN hx hb hts c2 hown hSC.1 hP k (mx_obj (mx_lt hSC hk) hs) c1 j h2 (va_Nw.use rfl (hSC.2.1 _ h3)) (fun _ h => h) hg hd (kk H locs ls hP hS hl)
theorem r_put (q : Nat) (hX : mx_OK G X own cc nL) {i ci j k : Nat} {fs : List (Option Nat)} {v : Int32} {ty : FieldType} (hd : decode cc pc = .ok (.putfield i, 3)) (hf : mx_fl own i ci j) (hp : mx_fp ci j ty) (hs : mx_sh k = .inr (ci, fs)) (hj : fs[j]? = some none) (hk : Nat.blt k 61 = true) (hn : narrow ty (.int v) = .int v) (hfit : fits ty (.int v) = true) (kk : mx_WW G X q L S (mI M k j v)) (hq : pc + 3 = q := by rfl) : mx_WW G X pc L (.int v :: .ref k :: S) M := by
  obtain ⟨p, l, e, R, s, m, args, below, meth, c, Q, cells, slots⟩ := X
  obtain ⟨hx, hb, hml, hown, hts, hSC⟩ := hX
  subst hq
  intro H locs ls hP hS hl
  obtain ⟨C, T, N, ⟨c1, c2, ⟨ty0, c3⟩, c4⟩, h2, h3⟩ := hf
  obtain ⟨p1, p2⟩ := hp C T N c1
  have hlen : j < (mx_fs (mx_ad G) (M.1 k) 0 fs).length := by
    rw [mx_fs_len]
    exact (List.getElem?_eq_some_iff.mp hj).1
  have hD := mx_D_of hSC M
  rcases h3 with h3 | h3
  · refine va_put hx hb hts c2 ty0 c3 c4 hown hSC.1 hP hD hS k (mx_obj (mx_lt hSC hk) hs) c1 j h2 (hts _ h3) (fun _ h => h) p1 p2 hn hfit hlen hd (fun H1 locs1 g1 g2 g3 => ?_)
    rw [mx_c_int, mx_setI (mx_lt hSC hk) hs hj] at g1
    exact kk H1 locs1 ls g1 g3 hl
  · refine va_putN hx hb hts c2 ty0 c3 c4 hown hSC.1 hP hD hS k (mx_obj (mx_lt hSC hk) hs) c1 j h2 (va_Nw.use rfl (hSC.2.1 _ h3)) (fun _ h => h) p1 p2 hn hfit hlen hd (fun H1 locs1 g1 g2 g3 => ?_)
    rw [mx_c_int, mx_setI (mx_lt hSC hk) hs hj] at g1
    exact kk H1 locs1 ls g1 g3 hl
theorem r_putI (q : Nat) (hX : mx_OK G X own cc nL) {i ci j k : Nat} {fs : List (Option Nat)} {v : Int32} (hd : decode cc pc = .ok (.putfield i, 3)) (hf : mx_fl own i ci j) (hp : mx_fp ci j .int) (hs : mx_sh k = .inr (ci, fs)) (hj : fs[j]? = some none) (hk : Nat.blt k 61 = true) (kk : mx_WW G X q L S (mI M k j v)) (hq : pc + 3 = q := by rfl) : mx_WW G X pc L (.int v :: .ref k :: S) M :=
  r_put q hX hd hf hp hs hj hk rfl rfl kk hq
theorem mx_zn {v : Int32} (h : v = 0 ∨ v = 1) : narrow .boolean (.int v) = .int v ∧ fits .boolean (.int v) = true := by
  rcases h with rfl | rfl <;> exact ⟨by decide, by decide⟩
theorem r_putZ (q : Nat) (hX : mx_OK G X own cc nL) {i ci j k : Nat} {fs : List (Option Nat)} {v : Int32} (hd : decode cc pc = .ok (.putfield i, 3)) (hf : mx_fl own i ci j) (hp : mx_fp ci j .boolean) (hs : mx_sh k = .inr (ci, fs)) (hj : fs[j]? = some none) (hk : Nat.blt k 61 = true) (hv : v = 0 ∨ v = 1) (kk : mx_WW G X q L S (mI M k j v)) (hq : pc + 3 = q := by rfl) : mx_WW G X pc L (.int v :: .ref k :: S) M :=
  r_put q hX hd hf hp hs hj hk (mx_zn hv).1 (mx_zn hv).2 kk hq
theorem r_iald (q : Nat) (hX : mx_OK G X own cc nL) {k n : Nat} {i : Int32} (hd : decode cc pc = .ok (.iaload, 1)) (hs : mx_sh k = .inl (.int, n)) (hk : Nat.blt k 61 = true) (hi : vp_in i n) (kk : mx_WW G X q L (.int (M.1 k i.toNatClampNeg) :: S) M) (hq : pc + 1 = q := by rfl) : mx_WW G X pc L (.int i :: .ref k :: S) M := by
  obtain ⟨p, l, e, R, s, m, args, below, meth, c, Q, cells, slots⟩ := X
  obtain ⟨hx, hb, hml, hown, hts, hSC⟩ := hX
  subst hq
  intro H locs ls hP hS hl
  exact va_iald hx hb hSC.1 hP k 0 (mx_ar (mx_lt hSC hk) hs) rfl hi hd (kk H locs ls hP hS hl)
theorem r_zald (q : Nat) (hX : mx_OK G X own cc nL) {k n : Nat} {i : Int32} (hd : decode cc pc = .ok (.baload, 1)) (hs : mx_sh k = .inl (.boolean, n)) (hk : Nat.blt k 61 = true) (hi : vp_in i n) (kk : mx_WW G X q L (.int (M.1 k i.toNatClampNeg) :: S) M) (hq : pc + 1 = q := by rfl) : mx_WW G X pc L (.int i :: .ref k :: S) M := by
  obtain ⟨p, l, e, R, s, m, args, below, meth, c, Q, cells, slots⟩ := X
  obtain ⟨hx, hb, hml, hown, hts, hSC⟩ := hX
  subst hq
  intro H locs ls hP hS hl
  exact va_zald hx hb hSC.1 hP k 1 (mx_ar (mx_lt hSC hk) hs) rfl hi hd (kk H locs ls hP hS hl)
theorem r_bald (q : Nat) (hX : mx_OK G X own cc nL) {k n : Nat} {i : Int32} (hd : decode cc pc = .ok (.baload, 1)) (hs : mx_sh k = .inl (.byte, n)) (hk : Nat.blt k 61 = true) (hi : vp_in i n) (kk : mx_WW G X q L (.int (M.1 k i.toNatClampNeg) :: S) M) (hq : pc + 1 = q := by rfl) : mx_WW G X pc L (.int i :: .ref k :: S) M := by
  obtain ⟨p, l, e, R, s, m, args, below, meth, c, Q, cells, slots⟩ := X
  obtain ⟨hx, hb, hml, hown, hts, hSC⟩ := hX
  subst hq
  intro H locs ls hP hS hl
  exact va_bald hx hb hSC.1 hP k 2 (mx_ar (mx_lt hSC hk) hs) rfl hi hd (kk H locs ls hP hS hl)
theorem r_cald (q : Nat) (hX : mx_OK G X own cc nL) {k n : Nat} {i : Int32} (hd : decode cc pc = .ok (.caload, 1)) (hs : mx_sh k = .inl (.char, n)) (hk : Nat.blt k 61 = true) (hi : vp_in i n) (kk : mx_WW G X q L (.int (M.1 k i.toNatClampNeg) :: S) M) (hq : pc + 1 = q := by rfl) : mx_WW G X pc L (.int i :: .ref k :: S) M := by
  obtain ⟨p, l, e, R, s, m, args, below, meth, c, Q, cells, slots⟩ := X
  obtain ⟨hx, hb, hml, hown, hts, hSC⟩ := hX
  subst hq
  intro H locs ls hP hS hl
  exact va_cald hx hb hSC.1 hP k 3 (mx_ar (mx_lt hSC hk) hs) rfl hi hd (kk H locs ls hP hS hl)
theorem r_lald (q : Nat) (hX : mx_OK G X own cc nL) {k n : Nat} {i : Int32} (hd : decode cc pc = .ok (.laload, 1)) (hs : mx_sh k = .inl (.long, n)) (hk : Nat.blt k 61 = true) (hi : vp_in i n) (kk : mx_WW G X q L (.long (M.2 k i.toNatClampNeg) :: S) M) (hq : pc + 1 = q := by rfl) : mx_WW G X pc L (.int i :: .ref k :: S) M := by
  obtain ⟨p, l, e, R, s, m, args, below, meth, c, Q, cells, slots⟩ := X
  obtain ⟨hx, hb, hml, hown, hts, hSC⟩ := hX
  subst hq
  intro H locs ls hP hS hl
  exact va_lald hx hb hSC.1 hP k 4 (mx_ar (mx_lt hSC hk) hs) rfl hi hd (kk H locs ls hP hS hl)
theorem r_iast (q : Nat) (hX : mx_OK G X own cc nL) {k n : Nat} {i x : Int32} (hd : decode cc pc = .ok (.iastore, 1)) (hs : mx_sh k = .inl (.int, n)) (hk : Nat.blt k 61 = true) (hi : vp_in i n) (kk : mx_WW G X q L S (mI M k i.toNatClampNeg x)) (hq : pc + 1 = q := by rfl) : mx_WW G X pc L (.int x :: .int i :: .ref k :: S) M := by
  obtain ⟨p, l, e, R, s, m, args, below, meth, c, Q, cells, slots⟩ := X
  obtain ⟨hx, hb, hml, hown, hts, hSC⟩ := hX
  subst hq
  intro H locs ls hP hS hl
  refine va_iast hx hb hSC.1 hP (mx_D_of hSC M) hS k 0 (mx_ar (mx_lt hSC hk) hs) rfl hi hd (fun H1 locs1 g1 g2 g3 => ?_)
  rw [mx_setA (mx_lt hSC hk) hs rfl] at g1
  exact kk H1 locs1 ls g1 g3 hl
theorem r_zast (q : Nat) (hX : mx_OK G X own cc nL) {k n : Nat} {i x : Int32} (hd : decode cc pc = .ok (.bastore, 1)) (hs : mx_sh k = .inl (.boolean, n)) (hk : Nat.blt k 61 = true) (hi : vp_in i n) (kk : mx_WW G X q L S (mI M k i.toNatClampNeg (vp_nar .boolean x))) (hq : pc + 1 = q := by rfl) : mx_WW G X pc L (.int x :: .int i :: .ref k :: S) M := by
  obtain ⟨p, l, e, R, s, m, args, below, meth, c, Q, cells, slots⟩ := X
  obtain ⟨hx, hb, hml, hown, hts, hSC⟩ := hX
  subst hq
  intro H locs ls hP hS hl
  refine va_zast hx hb hSC.1 hP (mx_D_of hSC M) hS k 1 (mx_ar (mx_lt hSC hk) hs) rfl hi hd (fun H1 locs1 g1 g2 g3 => ?_)
  rw [mx_setA (mx_lt hSC hk) hs rfl] at g1
  exact kk H1 locs1 ls g1 g3 hl
theorem r_bast (q : Nat) (hX : mx_OK G X own cc nL) {k n : Nat} {i x : Int32} (hd : decode cc pc = .ok (.bastore, 1)) (hs : mx_sh k = .inl (.byte, n)) (hk : Nat.blt k 61 = true) (hi : vp_in i n) (kk : mx_WW G X q L S (mI M k i.toNatClampNeg (vp_nar .byte x))) (hq : pc + 1 = q := by rfl) : mx_WW G X pc L (.int x :: .int i :: .ref k :: S) M := by
  obtain ⟨p, l, e, R, s, m, args, below, meth, c, Q, cells, slots⟩ := X
  obtain ⟨hx, hb, hml, hown, hts, hSC⟩ := hX
  subst hq
  intro H locs ls hP hS hl
  refine va_bast hx hb hSC.1 hP (mx_D_of hSC M) hS k 2 (mx_ar (mx_lt hSC hk) hs) rfl hi hd (fun H1 locs1 g1 g2 g3 => ?_)
  rw [mx_setA (mx_lt hSC hk) hs rfl] at g1
  exact kk H1 locs1 ls g1 g3 hl
theorem r_cast (q : Nat) (hX : mx_OK G X own cc nL) {k n : Nat} {i x : Int32} (hd : decode cc pc = .ok (.castore, 1)) (hs : mx_sh k = .inl (.char, n)) (hk : Nat.blt k 61 = true) (hi : vp_in i n) (kk : mx_WW G X q L S (mI M k i.toNatClampNeg (vp_nar .char x))) (hq : pc + 1 = q := by rfl) : mx_WW G X pc L (.int x :: .int i :: .ref k :: S) M := by
  obtain ⟨p, l, e, R, s, m, args, below, meth, c, Q, cells, slots⟩ := X
  obtain ⟨hx, hb, hml, hown, hts, hSC⟩ := hX
  subst hq
  intro H locs ls hP hS hl
  refine va_cast hx hb hSC.1 hP (mx_D_of hSC M) hS k 3 (mx_ar (mx_lt hSC hk) hs) rfl hi hd (fun H1 locs1 g1 g2 g3 => ?_)
  rw [mx_setA (mx_lt hSC hk) hs rfl] at g1
  exact kk H1 locs1 ls g1 g3 hl
theorem r_last (q : Nat) (hX : mx_OK G X own cc nL) {k n : Nat} {i : Int32} {x : Int64} (hd : decode cc pc = .ok (.lastore, 1)) (hs : mx_sh k = .inl (.long, n)) (hk : Nat.blt k 61 = true) (hi : vp_in i n) (kk : mx_WW G X q L S (mL M k i.toNatClampNeg x)) (hq : pc + 1 = q := by rfl) : mx_WW G X pc L (.long x :: .int i :: .ref k :: S) M := by
  obtain ⟨p, l, e, R, s, m, args, below, meth, c, Q, cells, slots⟩ := X
  obtain ⟨hx, hb, hml, hown, hts, hSC⟩ := hX
  subst hq
  intro H locs ls hP hS hl
  refine va_last hx hb hSC.1 hP (mx_D_of hSC M) hS k 4 (mx_ar (mx_lt hSC hk) hs) rfl hi hd (fun H1 locs1 g1 g2 g3 => ?_)
  rw [mx_setL (mx_lt hSC hk) hs] at g1
  exact kk H1 locs1 ls g1 g3 hl
theorem r_aald (q : Nat) (hX : mx_OK G X own cc nL) {k n : Nat} {i : Int32} (hd : decode cc pc = .ok (.aaload, 1)) (hs : mx_sh k = .inl (.array .int, n)) (hk : Nat.blt k 61 = true) (hi : vp_in i n) (kk : mx_WW G X q L (.ref (mx_row i.toNatClampNeg) :: S) M) (hq : pc + 1 = q := by rfl) : mx_WW G X pc L (.int i :: .ref k :: S) M := by
  obtain ⟨p, l, e, R, s, m, args, below, meth, c, Q, cells, slots⟩ := X
  obtain ⟨hx, hb, hml, hown, hts, hSC⟩ := hX
  subst hq
  intro H locs ls hP hS hl
  have ha := mx_ar (M := M) (mx_lt hSC hk) hs
  have hlt : i.toNatClampNeg < n := Nat.not_le.mp fun q => hi (Or.inr q)
  exact W.aald (v := .ref (mx_ad G (mx_row i.toNatClampNeg))) (ty := .array .int) hx hb (hP k _ ha) ((hSC.1.2 5 _ rfl).1 n (fun j => va_rf (some (mx_ad G (mx_row j))))) rfl (fun q => by cases q) (by show ¬ (i < 0 ∨ (arrV _ _ _).slots.size ≤ _); rw [arrV_size]; exact hi) (by show (arrV _ _ _).slots[_]? = _; rw [arrV_read _ _ hlt]; rfl) rfl rfl hd (kk H locs ls hP hS hl)
theorem r_alen (q : Nat) (hX : mx_OK G X own cc nL) {k n : Nat} {v : Int32} (hd : decode cc pc = .ok (.arraylength, 1)) (hs : mx_sh k = .inl (.int, n)) (hk : Nat.blt k 61 = true) (hv : Int32.ofNat n = v) (kk : mx_WW G X q L (.int v :: S) M) (hq : pc + 1 = q := by rfl) : mx_WW G X pc L (.ref k :: S) M := by
  obtain ⟨p, l, e, R, s, m, args, below, meth, c, Q, cells, slots⟩ := X
  obtain ⟨hx, hb, hml, hown, hts, hSC⟩ := hX
  subst hq
  intro H locs ls hP hS hl
  exact va_alen hx hb hSC.1 hP k 0 (mx_ar (mx_lt hSC hk) hs) rfl hv hd (kk H locs ls hP hS hl)
/-- a static row: which, its link -/
def mx_sl (own : String) (idx i : Nat) : Prop := ∃ q, mx_stL[i]? = some q ∧ q.1 = 62 + i ∧ (Cond.fieldLink own idx q.2.1 q.2.2.1 "[I" ∈ mx_gW ∨ Cond.fieldLinkNest own idx q.2.1 q.2.2.1 "[I" RX7 ∈ mx_nest)
theorem r_gets (q : Nat) (hX : mx_OK G X own cc nL) {idx i : Nat} (hd : decode cc pc = .ok (.getstatic idx, 3)) (hf : mx_sl own idx i) (kk : mx_WW G X q L (.ref (62 + i) :: S) M) (hq : pc + 3 = q := by rfl) : mx_WW G X pc L S M := by
  obtain ⟨p, l, e, R, s, m, args, below, meth, c, Q, cells, slots⟩ := X
  obtain ⟨hx, hb, hml, hown, hts, hSC⟩ := hX
  subst hq
  intro H locs ls hP hS hl
  obtain ⟨z, hz, hz1, hf⟩ := hf
  obtain ⟨h1, h2⟩ := hSC.2.2.2.2.2.1 z (List.mem_of_getElem? hz)
  rw [hz1] at h1
  rcases hf with hf | hf
  · exact va_gets hx hb h1 hS hown (hts _ hf) (fun _ h => h) hd (kk H locs ls hP hS hl)
  · exact va_getsN hx hb h1 hS hown (va_Nw.use rfl (hSC.2.1 _ hf)) (fun _ h => h) hd (kk H locs ls hP hS hl)
theorem r_tald (q : Nat) (hX : mx_OK G X own cc nL) {k j : Nat} {i : Int32} {C n9 : String} {l9 : List Int32} (hd : decode cc pc = .ok (.iaload, 1)) (hs : mx_stL[j]? = some (k, C, n9, l9)) (hi : vp_in i l9.length) (kk : mx_WW G X q L (.int (l9.getD i.toNatClampNeg 0) :: S) M) (hq : pc + 1 = q := by rfl) : mx_WW G X pc L (.int i :: .ref k :: S) M := by
  obtain ⟨p, l, e, R, s, m, args, below, meth, c, Q, cells, slots⟩ := X
  obtain ⟨hx, hb, hml, hown, hts, hSC⟩ := hX
  subst hq
  intro H locs ls hP hS hl
  obtain ⟨h1, h2⟩ := hSC.2.2.2.2.2.1 _ (List.mem_of_getElem? hs)
  exact va_ti hx hb h2 hS hi rfl hd (kk H locs ls hP hS hl)
theorem r_tlen (q : Nat) (hX : mx_OK G X own cc nL) {k j : Nat} {v : Int32} {C n9 : String} {l9 : List Int32} (hd : decode cc pc = .ok (.arraylength, 1)) (hs : mx_stL[j]? = some (k, C, n9, l9)) (hv : Int32.ofNat l9.length = v) (kk : mx_WW G X q L (.int v :: S) M) (hq : pc + 1 = q := by rfl) : mx_WW G X pc L (.ref k :: S) M := by
  obtain ⟨p, l, e, R, s, m, args, below, meth, c, Q, cells, slots⟩ := X
  obtain ⟨hx, hb, hml, hown, hts, hSC⟩ := hX
  subst hq
  intro H locs ls hP hS hl
  obtain ⟨h1, h2⟩ := hSC.2.2.2.2.2.1 _ (List.mem_of_getElem? hs)
  exact va_tlen hx hb h2 hS hv hd (kk H locs ls hP hS hl)
theorem r_sald (q : Nat) (hX : mx_OK G X own cc nL) {i : Int32} (hd : decode cc pc = .ok (.iaload, 1)) (hi : vp_in i (mx_sN G)) (kk : mx_WW G X q L (.int (mx_sX G i.toNatClampNeg) :: S) M) (hq : pc + 1 = q := by rfl) : mx_WW G X pc L (.int i :: .ref 74 :: S) M := by
  obtain ⟨p, l, e, R, s, m, args, below, meth, c, Q, cells, slots⟩ := X
  obtain ⟨hx, hb, hml, hown, hts, hSC⟩ := hX
  subst hq
  intro H locs ls hP hS hl
  obtain ⟨h1, h2, h3⟩ := hSC.2.2.2.2.2.2
  exact va_sld hx hb h1 h2 h3 hS hi hd (kk H locs ls hP hS hl)
theorem r_slen (q : Nat) (hX : mx_OK G X own cc nL) (hd : decode cc pc = .ok (.arraylength, 1)) (kk : mx_WW G X q L (.int (Int32.ofNat (mx_sN G)) :: S) M) (hq : pc + 1 = q := by rfl) : mx_WW G X pc L (.ref 74 :: S) M := by
  obtain ⟨p, l, e, R, s, m, args, below, meth, c, Q, cells, slots⟩ := X
  obtain ⟨hx, hb, hml, hown, hts, hSC⟩ := hX
  subst hq
  intro H locs ls hP hS hl
  obtain ⟨h1, h2, h3⟩ := hSC.2.2.2.2.2.2
  exact va_slen hx hb h1 h2 h3 hS hd (kk H locs ls hP hS hl)
end MXH
/-! contracts -/
theorem mx_nest_form : ∀ w ∈ mx_nest, (∃ a i b n d h, w = .fieldLinkNest a i b n d h) ∨ ∃ a i x h, w = .methodLinkNest a i x h := by
  refine List.forall_mem_cons.mpr ⟨Or.inl ⟨_, _, _, _, _, _, rfl⟩, List.forall_mem_cons.mpr ⟨Or.inl ⟨_, _, _, _, _, _, rfl⟩, List.forall_mem_cons.mpr ⟨Or.inl ⟨_, _, _, _, _, _, rfl⟩, List.forall_mem_cons.mpr ⟨Or.inl ⟨_, _, _, _, _, _, rfl⟩, List.forall_mem_cons.mpr ⟨Or.inl ⟨_, _, _, _, _, _, rfl⟩, List.forall_mem_cons.mpr ⟨Or.inl ⟨_, _, _, _, _, _, rfl⟩, List.forall_mem_cons.mpr ⟨Or.inl ⟨_, _, _, _, _, _, rfl⟩, List.forall_mem_cons.mpr ⟨Or.inl ⟨_, _, _, _, _, _, rfl⟩, List.forall_mem_cons.mpr ⟨Or.inl ⟨_, _, _, _, _, _, rfl⟩, List.forall_mem_cons.mpr ⟨Or.inl ⟨_, _, _, _, _, _, rfl⟩, List.forall_mem_cons.mpr ⟨Or.inl ⟨_, _, _, _, _, _, rfl⟩, List.forall_mem_cons.mpr ⟨Or.inl ⟨_, _, _, _, _, _, rfl⟩, List.forall_mem_cons.mpr ⟨Or.inl ⟨_, _, _, _, _, _, rfl⟩, List.forall_mem_cons.mpr ⟨Or.inl ⟨_, _, _, _, _, _, rfl⟩, List.forall_mem_cons.mpr ⟨Or.inl ⟨_, _, _, _, _, _, rfl⟩, List.forall_mem_cons.mpr ⟨Or.inl ⟨_, _, _, _, _, _, rfl⟩, List.forall_mem_cons.mpr ⟨Or.inl ⟨_, _, _, _, _, _, rfl⟩, List.forall_mem_cons.mpr ⟨Or.inl ⟨_, _, _, _, _, _, rfl⟩, List.forall_mem_cons.mpr ⟨Or.inl ⟨_, _, _, _, _, _, rfl⟩, List.forall_mem_cons.mpr ⟨Or.inl ⟨_, _, _, _, _, _, rfl⟩, List.forall_mem_cons.mpr ⟨Or.inl ⟨_, _, _, _, _, _, rfl⟩, List.forall_mem_cons.mpr ⟨Or.inl ⟨_, _, _, _, _, _, rfl⟩, List.forall_mem_cons.mpr ⟨Or.inl ⟨_, _, _, _, _, _, rfl⟩, List.forall_mem_cons.mpr ⟨Or.inl ⟨_, _, _, _, _, _, rfl⟩, List.forall_mem_cons.mpr ⟨Or.inr ⟨_, _, _, _, rfl⟩, fun _ h => absurd h List.not_mem_nil⟩⟩⟩⟩⟩⟩⟩⟩⟩⟩⟩⟩⟩⟩⟩⟩⟩⟩⟩⟩⟩⟩⟩⟩⟩
theorem mx_nest_same {u U : State} (h : u.vm = U.vm) (hN : ∀ w ∈ mx_nest, va_Nw w u) : ∀ w ∈ mx_nest, va_Nw w U := by
  intro w hw
  have h1 := hN w hw
  rcases mx_nest_form w hw with ⟨a, i, b, n, d, h9, rfl⟩ | ⟨a, i, x, h9, rfl⟩
  · exact va_Nw.same rfl h h1
  · exact va_Nw.same rfl h h1
theorem mx_nest_warm {s U : State} (hW : s.WarmedH U.vm) (hN : ∀ w ∈ mx_nest, va_Nw w s) : ∀ w ∈ mx_nest, va_Nw w U := by
  intro w hw
  have h1 := hN w hw
  rcases mx_nest_form w hw with ⟨a, i, b, n, d, h9, rfl⟩ | ⟨a, i, x, h9, rfl⟩
  · exact va_Nw.warmF hW h1
  · exact va_Nw.warmM hW h1
theorem mx_SC_warm {G : mx_G} {s U : State} {H : Heap} {locs : List Loc} (hW : s.WarmedH U.vm) (hS : va_S (mx_A G) s.heap H locs) (h : mx_SC G s s.heap) : mx_SC G U H := by
  obtain ⟨h1, h2, h3, h4, ⟨h5, h5b⟩, h6, h7, h8, h9⟩ := h
  refine ⟨va_K.moved hW.alike h1, mx_nest_warm hW h2, h3, h4, ⟨h5, Nat.le_trans h5b hS.1⟩, fun q hq => ?_, ?_, Nat.lt_of_lt_of_le h8 hS.1, h9⟩
  · obtain ⟨g1, g2⟩ := h6 q hq
    exact ⟨va_Z.moved hW.alike (g1.kept (fun a ha hA => hS.2.1 a ha hA)), va_T.moved hW.alike (g2.kept (fun a ha hA => hS.2.1 a ha hA))⟩
  · exact va_X.moved hW.alike (h7.kept (hS.2.1 _ h8 h9))
theorem mx_SC_same {G : mx_G} {s U : State} {H : Heap} (hv : s.vm = U.vm) (h : mx_SC G s H) : mx_SC G U H := by
  have ha : s.vm.Alike U.vm := by rw [← hv]; exact Vm.Alike.refl s.vm
  obtain ⟨h1, h2, h3, h4, h5, h6, h7, h8⟩ := h
  exact ⟨va_K.moved ha h1, mx_nest_same hv h2, h3, h4, h5, fun q hq => ⟨va_Z.moved ha (h6 q hq).1, va_T.moved ha (h6 q hq).2⟩, va_X.moved ha h7, h8⟩
def mx_Pc (G : mx_G) (av : List Value) (M : mx_Mem) : Array Value → State → Prop := fun v U => v = (av.map (mx_c (mx_ad G))).toArray ∧ mx_SC G U U.heap ∧ va_P (mx_D G) mx_cl (mx_ws G M) U.heap
def mx_Qc (G : mx_G) (Post : Option Value → mx_Mem → Prop) : Array Value → State → Outcome → State → Prop := fun _ st oc t => ∃ (r : Option Value) (M' : mx_Mem), oc = .returned (r.map (mx_c (mx_ad G))) ∧ Post r M' ∧ va_P (mx_D G) mx_cl (mx_ws G M') t.heap ∧ va_F (mx_A G) st t
/-- A METHOD'S CONTRACT: called with av in memory M it returns r in memory M' with Post r M' -/
def mx_Met (l : Launch) (G : mx_G) (y : MethodName) (cc : ByteArray) (maxL : Nat) (ret : Option FieldType) (fr lo : Nat) (av : List Value) (M : mx_Mem) (Post : Option Value → mx_Mem → Prop) : Prop :=
  Met l y (Cond.code y cc maxL ret :: mx_gW) ({ frames := fr, cells := 0, slots := 0, locals := lo } : Room) (mx_Pc G av M) (mx_Qc G Post) 0 0 (mx_A G)
/-- room of a frame -/
def mx_RM (X : mx_X) (fr lo : Nat) : Prop := match X with
  | (_, _, _, R, _, _, _, _, _, _, _, cells, slots) => R.frames = fr ∧ R.locals = lo ∧ cells ≤ R.cells ∧ slots ≤ R.slots
/-- how a frame may end -/
def mx_RT (G : mx_G) (X : mx_X) (ret : Option FieldType) (Post : Option Value → mx_Mem → Prop) : Prop := match X with
  | (_, _, _, _, s, _, args, below, meth, _, Q, cells, slots) => meth.sig.returnType = ret ∧ meth.locks = false ∧ Q = MQ below (mx_Qc G Post) args s cells slots (mx_A G)
def mx_l (X : mx_X) : Launch := X.2.1
def mx_ex : List Value → List Value
  | [] => []
  | v :: r => if v.category = 2 then v :: .null :: mx_ex r else v :: mx_ex r
theorem mx_ex_in {ad : Nat → Nat} : ∀ (av : List Value) (i j : Nat) (v : Value), (mx_ex av)[j]? = some v → v ≠ .null → (i + j, mx_c ad v) ∈ lv_args i (av.map (mx_c ad))
  | [], i, j, v, h, _ => by simp [mx_ex] at h
  | a :: r, i, j, v, h, hv => by
    simp only [mx_ex] at h
    simp only [List.map_cons, lv_args, mx_cat]
    by_cases hc : a.category = 2
    · rw [if_pos hc] at h
      rw [if_pos hc]
      match j, h with
      | 0, h => simp at h; subst h; exact List.mem_cons_self
      | 1, h => simp at h; exact absurd h.symm hv
      | j + 2, h =>
        have := mx_ex_in (ad := ad) r (i + 2) j v (by simpa using h) hv
        rw [show i + 2 + j = i + (j + 2) by omega] at this
        exact List.mem_cons_of_mem _ this
    · rw [if_neg hc] at h
      rw [if_neg hc]
      match j, h with
      | 0, h => simp at h; subst h; exact List.mem_cons_self
      | j + 1, h =>
        have := mx_ex_in (ad := ad) r (i + 1) j v (by simpa using h) hv
        rw [show i + 1 + j = i + (j + 1) by omega] at this
        exact List.mem_cons_of_mem _ this
theorem mx_ex_len {ad : Nat → Nat} : ∀ av : List Value, (lg_sl (av.map (mx_c ad))).length = (mx_ex av).length
  | [] => rfl
  | a :: r => by
    have ih := mx_ex_len (ad := ad) r
    simp only [lg_sl] at ih ⊢
    simp only [List.map_cons, List.flatMap_cons, List.length_append, mx_ex, mx_cat]
    split <;> simp [ih] <;> omega
def mx_L0 (av : List Value) (n : Nat) : List Value := mx_ex av ++ List.replicate (n - (mx_ex av).length) .null
theorem mx_entry {G : mx_G} {av : List Value} {n : Nat} (h : (mx_ex av).length ≤ n) : mx_lh G ((lg_sl (av.map (mx_c (mx_ad G))) ++ List.replicate (n - (lg_sl (av.map (mx_c (mx_ad G)))).length) Slot.unset).toArray) (mx_L0 av n) := by
  have hlen := mx_ex_len (ad := mx_ad G) av
  obtain ⟨h1, h2, h3⟩ := lv_entry (av.map (mx_c (mx_ad G))) (n := n) (by rw [hlen]; exact h)
  refine ⟨?_, h2, fun i v hi hv => ?_⟩
  · rw [h1]
    simp [mx_L0]
    omega
  · by_cases hl : i < (mx_ex av).length
    · rw [mx_L0, List.getElem?_append_left hl] at hi
      have := mx_ex_in (ad := mx_ad G) av 0 i v hi hv
      rw [Nat.zero_add] at this
      exact h3 _ this
    · rw [mx_L0, List.getElem?_append_right (by omega)] at hi
      have := List.mem_of_getElem? hi
      rw [List.mem_replicate] at this
      exact absurd this.2 hv
/-- a contract, by the judgement at the entry -/
theorem mx_enter {l : Launch} {G : mx_G} {y : MethodName} {own : String} {cc : ByteArray} {maxL fr lo : Nat} {ret : Option FieldType} {av L : List Value} {M : mx_Mem} {Post : Option Value → mx_Mem → Prop}
    (hy : plainFor y = true) (hown : y.cls = own) (hlen : Nat.ble (mx_ex av).length maxL = true) (hL : mx_L0 av maxL = L)
    (body : ∀ X : mx_X, mx_l X = l → mx_OK G X own cc maxL → mx_RM X fr lo → mx_RT G X ret Post → mx_WW G X 0 L [] M) : mx_Met l G y cc maxL ret fr lo av M Post := by
  refine va_MetF (cc := cc) (maxL := maxL) (ret := ret) hy rfl ?_
  intro p e s m args below meth c s₁ B hml hv
  obtain ⟨rfl, hSC, hP⟩ := hv
  have hts : ∀ w ∈ Cond.code y cc maxL ret :: mx_gW, w.before _ s = true := atoms_spec B.pre
  have ho : s.vm.findClass own = some m.cls := by rw [← hown]; exact findClass_of_methodNamed B.named
  rw [lg_entry_eq]
  have hl := mx_entry (G := G) (Nat.le_of_ble_eq_true hlen)
  subst hL
  exact body (p, l, e, _, s, m, _, below, meth, c, _, 0, 0) rfl ⟨B.exec, B.bytes, hml, ho, fun w hw => hts w (List.mem_cons_of_mem _ hw), hSC⟩ ⟨rfl, rfl, Nat.zero_le _, Nat.zero_le _⟩ ⟨B.returns, B.notSynchronized, rfl⟩ s.heap [] _ hP va_S.rf hl
section MXC
variable {G : mx_G} {X : mx_X} {own : String} {cc : ByteArray} {nL pc : Nat} {L S : List Value} {M : mx_Mem}

theorem r_iret (hX : mx_OK G X own cc nL) {v : Int32} {Post : Option Value → mx_Mem → Prop} (hT : mx_RT G X (some .int) Post) (hd : decode cc pc = .ok (.ireturn, 1))  (hp : Post (some (.int v)) M) : mx_WW G X pc L [.int v] M := by
  obtain ⟨p, l, e, R, s, m, args, below, meth, c, Q, cells, slots⟩ := X
  obtain ⟨hx, hb, hml, hown, hts, hSC⟩ := hX
  obtain ⟨hr, hlocks, rfl⟩ := hT
  intro H locs ls hP hS hl
  exact W.iret hx hb hr (fun t ht hW => ⟨_, M, rfl, hp, by rw [ht]; exact hP, hS.F ht⟩) hS.2.2 hd hlocks
theorem r_zret (hX : mx_OK G X own cc nL) {v : Int32} {Post : Option Value → mx_Mem → Prop} (hT : mx_RT G X (some .boolean) Post) (hd : decode cc pc = .ok (.ireturn, 1)) (hv : v = 0 ∨ v = 1) (hp : Post (some (.int v)) M) : mx_WW G X pc L [.int v] M := by
  obtain ⟨p, l, e, R, s, m, args, below, meth, c, Q, cells, slots⟩ := X
  obtain ⟨hx, hb, hml, hown, hts, hSC⟩ := hX
  obtain ⟨hr, hlocks, rfl⟩ := hT
  intro H locs ls hP hS hl
  exact W.zret hx hb hr (mx_zn hv).1 (fun t ht hW => ⟨_, M, rfl, hp, by rw [ht]; exact hP, hS.F ht⟩) hS.2.2 hd hlocks
theorem r_cret (hX : mx_OK G X own cc nL) {v : Int32} {Post : Option Value → mx_Mem → Prop} (hT : mx_RT G X (some .char) Post) (hd : decode cc pc = .ok (.ireturn, 1)) (hv : narrow .char (.int v) = .int v) (hp : Post (some (.int v)) M) : mx_WW G X pc L [.int v] M := by
  obtain ⟨p, l, e, R, s, m, args, below, meth, c, Q, cells, slots⟩ := X
  obtain ⟨hx, hb, hml, hown, hts, hSC⟩ := hX
  obtain ⟨hr, hlocks, rfl⟩ := hT
  intro H locs ls hP hS hl
  exact W.zret hx hb hr hv (fun t ht hW => ⟨_, M, rfl, hp, by rw [ht]; exact hP, hS.F ht⟩) hS.2.2 hd hlocks
theorem r_lret (hX : mx_OK G X own cc nL) {v : Int64} {Post : Option Value → mx_Mem → Prop} (hT : mx_RT G X (some .long) Post) (hd : decode cc pc = .ok (.lreturn, 1))  (hp : Post (some (.long v)) M) : mx_WW G X pc L [.long v] M := by
  obtain ⟨p, l, e, R, s, m, args, below, meth, c, Q, cells, slots⟩ := X
  obtain ⟨hx, hb, hml, hown, hts, hSC⟩ := hX
  obtain ⟨hr, hlocks, rfl⟩ := hT
  intro H locs ls hP hS hl
  exact W.lret hx hb hr (fun t ht hW => ⟨_, M, rfl, hp, by rw [ht]; exact hP, hS.F ht⟩) hS.2.2 hd hlocks
theorem r_vret (hX : mx_OK G X own cc nL)  {Post : Option Value → mx_Mem → Prop} (hT : mx_RT G X none Post) (hd : decode cc pc = .ok (.return_, 1))  (hp : Post (none) M) : mx_WW G X pc L [] M := by
  obtain ⟨p, l, e, R, s, m, args, below, meth, c, Q, cells, slots⟩ := X
  obtain ⟨hx, hb, hml, hown, hts, hSC⟩ := hX
  obtain ⟨hr, hlocks, rfl⟩ := hT
  intro H locs ls hP hS hl
  exact W.vret hx hb hr (fun t ht hW => ⟨_, M, rfl, hp, by rw [ht]; exact hP, hS.F ht⟩) hS.2.2 hd hlocks
theorem r_aret (hX : mx_OK G X own cc nL) {k : Nat} {rt : FieldType} {Post : Option Value → mx_Mem → Prop} (hT : mx_RT G X (some rt) Post) (hd : decode cc pc = .ok (.areturn, 1)) (hrt : (∃ n, rt = .object n) ∨ ∃ t, rt = .array t) (hp : Post (some (.ref k)) M) : mx_WW G X pc L [.ref k] M := by
  obtain ⟨p, l, e, R, s, m, args, below, meth, c, Q, cells, slots⟩ := X
  obtain ⟨hx, hb, hml, hown, hts, hSC⟩ := hX
  obtain ⟨hr, hlocks, rfl⟩ := hT
  intro H locs ls hP hS hl
  exact W.aret hx hb hr hrt (Or.inr ⟨_, rfl⟩) (fun t ht hW => ⟨_, M, rfl, hp, by rw [ht]; exact hP, hS.F ht⟩) hS.2.2 hd hlocks
theorem mx_call {p : Program} {l : Launch} {e : Env} {R : Room} {s : State} {m : MethodId} {args a : Array Value} {below : List Frame} {meth : Method} {c : Code} {H : Heap} {locs : List Loc} {cells slots : Nat} {Q : State → Prop} {pc : Nat} {ls : Array Slot} {st0 rest : List Value} {Post : Option Value → mx_Mem → Prop}
    (hr : va_Run p l e R s m args below meth c H locs cells slots 0 0 (F0 m pc ls st0) rest (mx_Qc G Post a) (mx_A G)) (hS : va_S (mx_A G) s.heap H locs)
    (kk : ∀ (r : Option Value) (M' : mx_Mem) (H1 : Heap) (locs1 : List Loc), Post r M' → va_P (mx_D G) mx_cl (mx_ws G M') H1 → va_S (mx_A G) s.heap H1 locs1 → W p l e R s m args below meth c H1 locs1 cells slots Q (F0 m (pc + 3) ls ((r.map (mx_c (mx_ad G))).toList ++ rest))) :
    W p l e R s m args below meth c H locs cells slots Q (F0 m pc ls st0) := by
  intro T hT X
  obtain ⟨v, st₀, t, T', L, h0, X', hL, e1, e2, ⟨r, M', hv, hp, hP, hz, hk⟩, st⟩ := hr T hT X
  cases hv
  rw [h0] at hz hk
  obtain ⟨t2, a1, b1⟩ := kk r M' T'.heap (locs ++ L) hp (by rw [e1]; exact hP)
    ⟨Nat.le_trans hS.1 (by rw [e1]; exact hz), fun q h1 h2 => by rw [e1, hk q (Nat.lt_of_lt_of_le h1 hS.1) h2]; exact hS.2.1 q h1 h2, fun q hq => by
      rcases List.mem_append.mp hq with h | h
      · exact hS.2.2 q h
      · exact hL q h⟩ T' rfl X'
  exact ⟨t2, st t2 a1, b1⟩
/-- the callee y, by the tables: its code, that it can be called; n: its parameters -/
def mx_cd (y : MethodName) (cc : ByteArray) (maxL : Nat) (ret : Option FieldType) (n : Nat) : Prop := Cond.code y cc maxL ret ∈ mx_gW ∧ Cond.initialized y.cls ∈ mx_gW ∧ (y.cls ≠ "java/lang/invoke/MethodHandle" ∧ y.cls ≠ "java/lang/invoke/VarHandle") ∧ (parseMethodDescriptor y.desc).map (fun d => d.parameters.length) = some n
theorem mx_good {y : MethodName} {cc : ByteArray} {maxL : Nat} {ret : Option FieldType} (h : Cond.code y cc maxL ret ∈ mx_gW) : GoodIn mx_gW (Cond.code y cc maxL ret :: mx_gW) := by
  have key : ∀ w ∈ mx_gW, w ∈ mx_gW ∧ ((w.onTables && w.keeps) = true ∨ ∃ ty, w = .arrayClass ty) := fun w hw => ⟨hw, good_of_word (List.mem_filter.mp hw).2⟩
  intro w hw
  rcases List.mem_cons.mp hw with rfl | hw
  · exact key _ h
  · exact key _ hw
theorem mx_cb {R : Room} {s : State} {args : Array Value} {own : String} {idx : Nat} {y : MethodName} {cc : ByteArray} {maxL n fr lo fr1 lo1 : Nat} {ret : Option FieldType} (hts : ∀ w ∈ mx_gW, w.before args s = true) (hc : mx_cd y cc maxL ret n) (hl : Cond.methodLink own idx y ∈ mx_gW) (h1 : R.frames = fr1) (h2 : R.locals = lo1) (hR : (Nat.ble (fr + 1) fr1 && Nat.ble (8 + (maxL + 11) + lo) lo1) = true) :
    CallB R s args own idx y cc maxL ret (Cond.code y cc maxL ret :: mx_gW) { frames := fr, cells := 0, slots := 0, locals := lo } 0 0 n := by
  simp only [Bool.and_eq_true] at hR
  exact callB_of n hts (mx_good hc.1) rfl rfl rfl (hts _ hc.2.1) (hts _ hl) ⟨hc.2.2.1.1, hc.2.2.1.2, hc.2.2.2⟩ ⟨by rw [h1]; exact Nat.le_of_ble_eq_true hR.1, by rw [h2]; exact Nat.le_of_ble_eq_true hR.2⟩
theorem mx_blind (G : mx_G) (av : List Value) (M : mx_Mem) : FrameBlind (mx_Pc G av M) := fun a U g mk h => ⟨h.1, mx_SC_same (s := U) (U := U.calling g mk a) rfl h.2.1, h.2.2⟩
/-- the stack below a call has room -/
def mx_rs (S : List Value) : Bool := Nat.ble (S.map fun v => v.category).sum 8
theorem mx_rsum (G : mx_G) {S : List Value} (h : mx_rs S = true) : ((S.map (mx_c (mx_ad G))).map fun v => v.category).sum ≤ 8 := by
  have := Nat.le_of_ble_eq_true h
  rw [List.map_map]
  rw [show ((fun v : Value => v.category) ∘ mx_c (mx_ad G)) = (fun v => v.category) from funext fun v => mx_cat _ v]
  exact this
theorem mx_tl (G : mx_G) (r : Option Value) (S : List Value) : (r.toList ++ S).map (mx_c (mx_ad G)) = (r.map (mx_c (mx_ad G))).toList ++ S.map (mx_c (mx_ad G)) := by
  cases r <;> simp

theorem r_callV (q : Nat) (hX : mx_OK G X own cc nL) {fr lo fr1 lo1 idx maxL b ci n : Nat} (hR : mx_RM X fr1 lo1) {y : MethodName} {cy : ByteArray} {ret : Option FieldType} {fs : List (Option Nat)} {As : List Value} {Post : Option Value → mx_Mem → Prop} (hM : mx_Met (mx_l X) G y cy maxL ret fr lo (.ref b :: As) M Post) (hd : decode cc pc = .ok (.invokevirtual idx, 3)) (hc : mx_cd y cy maxL ret n) (hli : Cond.methodLink own idx y ∈ mx_gW ∧ Cond.instanceMethod y ∈ mx_gW ∧ Cond.selects y.cls y y ∈ mx_gW)
    (hs : mx_sh b = .inr (ci, fs)) (hcl : (mx_cl[ci]?).map (fun z => z.1) = some y.cls) (hk : Nat.blt b 61 = true) (hn : As.length = n) (hrs : mx_rs S = true) (hro : (Nat.ble (fr + 1) fr1 && Nat.ble (8 + (maxL + 11) + lo) lo1) = true) (hnL : L.length = nL) (kk : ∀ (r : Option Value) (M' : mx_Mem), Post r M' → mx_WW G X q L (r.toList ++ S) M') (hq : pc + 3 = q := by rfl) : mx_WW G X pc L (As.reverse ++ .ref b :: S) M := by
  obtain ⟨p, l, e, R, s, m, args, below, meth, c, Q, cells, slots⟩ := X
  obtain ⟨hx, hb, hml, hown, hts, hSC⟩ := hX
  obtain ⟨hR1, hR2, hR3, hR4⟩ := hR
  subst hq
  intro H locs ls hP hS hl
  have hrec : ∃ cellB : Cell, H[mx_ad G b]? = some cellB ∧ cellB.vm.isStatics = false ∧ s.vm.findClass y.cls = some cellB.cls := by
    cases hcc : mx_cl[ci]? with
    | none => rw [hcc] at hcl; cases hcl
    | some z =>
      rw [hcc] at hcl
      have := va_recv hSC.1 hP hcc (mx_obj (mx_lt hSC hk) hs)
      rw [← Option.some.inj hcl]
      exact this
  refine mx_call (rest := S.map (mx_c (mx_ad G))) (va_runV (C := y.cls) (b := mx_ad G b) (As := As.map (mx_c (mx_ad G))) (n := n) ⟨hx, hb, hml, hown, hts⟩ hM ⟨mx_cb hts hc hli.1 hR1 hR2 hro, hts _ hli.2.1, hts _ hli.2.2⟩
    ⟨mx_blind G _ M, hrec, fun U hU hW => ⟨rfl, by rw [hU]; exact mx_SC_warm hW hS hSC, by rw [hU]; exact hP⟩⟩ rfl (by rw [List.length_map]; exact hn) (hl.1.trans hnL) (by simp [mx_c_ref]) (lv_room (mx_rsum G hrs)) hd ⟨hR3, hR4⟩) hS (fun r M' H1 locs1 hp g1 g2 => by
    have := kk r M' hp H1 locs1 ls g1 g2 hl
    rw [mx_tl] at this
    exact this)
theorem r_callS (q : Nat) (hX : mx_OK G X own cc nL) {fr lo fr1 lo1 idx maxL n : Nat} (hR : mx_RM X fr1 lo1) {y : MethodName} {cy : ByteArray} {ret : Option FieldType} {As : List Value} {Post : Option Value → mx_Mem → Prop} (hM : mx_Met (mx_l X) G y cy maxL ret fr lo As M Post) (hd : decode cc pc = .ok (.invokestatic idx, 3)) (hc : mx_cd y cy maxL ret n) (hli : Cond.methodLink own idx y ∈ mx_gW ∧ Cond.static y ∈ mx_gW)
    (hn : As.length = n) (hrs : mx_rs S = true) (hro : (Nat.ble (fr + 1) fr1 && Nat.ble (8 + (maxL + 11) + lo) lo1) = true) (hnL : L.length = nL) (kk : ∀ (r : Option Value) (M' : mx_Mem), Post r M' → mx_WW G X q L (r.toList ++ S) M') (hq : pc + 3 = q := by rfl) : mx_WW G X pc L (As.reverse ++ S) M := by
  obtain ⟨p, l, e, R, s, m, args, below, meth, c, Q, cells, slots⟩ := X
  obtain ⟨hx, hb, hml, hown, hts, hSC⟩ := hX
  obtain ⟨hR1, hR2, hR3, hR4⟩ := hR
  subst hq
  intro H locs ls hP hS hl
  refine mx_call (rest := S.map (mx_c (mx_ad G))) (va_runS (As := As.map (mx_c (mx_ad G))) (n := n) ⟨hx, hb, hml, hown, hts⟩ hM ⟨mx_cb hts hc hli.1 hR1 hR2 hro, hts _ hli.2⟩
    ⟨mx_blind G _ M, fun U hU hW => ⟨rfl, by rw [hU]; exact mx_SC_warm hW hS hSC, by rw [hU]; exact hP⟩⟩ rfl (by rw [List.length_map]; exact hn) (hl.1.trans hnL) (by simp) (lv_room (mx_rsum G hrs)) hd ⟨hR3, hR4⟩) hS (fun r M' H1 locs1 hp g1 g2 => by
    have := kk r M' hp H1 locs1 ls g1 g2 hl
    rw [mx_tl] at this
    exact this)
theorem r_callSN (q : Nat) (hX : mx_OK G X own cc nL) {fr lo fr1 lo1 idx maxL n : Nat} (hR : mx_RM X fr1 lo1) {y : MethodName} {cy : ByteArray} {ret : Option FieldType} {As : List Value} {Post : Option Value → mx_Mem → Prop} (hM : mx_Met (mx_l X) G y cy maxL ret fr lo As M Post) (hd : decode cc pc = .ok (.invokestatic idx, 3)) (hc : mx_cd y cy maxL ret n) (hli : Cond.methodLinkNest own idx y RX7 ∈ mx_nest ∧ Cond.static y ∈ mx_gW)
    (hn : As.length = n) (hrs : mx_rs S = true) (hro : (Nat.ble (fr + 1) fr1 && Nat.ble (8 + (maxL + 11) + lo) lo1) = true) (hnL : L.length = nL) (kk : ∀ (r : Option Value) (M' : mx_Mem), Post r M' → mx_WW G X q L (r.toList ++ S) M') (hq : pc + 3 = q := by rfl) : mx_WW G X pc L (As.reverse ++ S) M := by
  obtain ⟨p, l, e, R, s, m, args, below, meth, c, Q, cells, slots⟩ := X
  obtain ⟨hx, hb, hml, hown, hts, hSC⟩ := hX
  obtain ⟨hR1, hR2, hR3, hR4⟩ := hR
  subst hq
  intro H locs ls hP hS hl
  simp only [Bool.and_eq_true] at hro
  refine mx_call (rest := S.map (mx_c (mx_ad G))) (va_runSN (As := As.map (mx_c (mx_ad G))) (n := n) ⟨hx, hb, hml, hown, hts⟩ hM ⟨va_cnB n hts (mx_good hc.1) rfl rfl rfl (hSC.2.1 _ hli.1) (hts _ hc.2.1) ⟨hc.2.2.1.1, hc.2.2.1.2, hc.2.2.2⟩ ⟨by rw [hR1]; exact Nat.le_of_ble_eq_true hro.1, by rw [hR2]; exact Nat.le_of_ble_eq_true hro.2⟩, hts _ hli.2, trivial⟩
    ⟨mx_blind G _ M, fun U hU hW => ⟨rfl, by rw [hU]; exact mx_SC_warm hW hS hSC, by rw [hU]; exact hP⟩⟩ rfl (by rw [List.length_map]; exact hn) (hl.1.trans hnL) (by simp) (lv_room (mx_rsum G hrs)) hd ⟨hR3, hR4⟩) hS (fun r M' H1 locs1 hp g1 g2 => by
    have := kk r M' hp H1 locs1 ls g1 g2 hl
    rw [mx_tl] at this
    exact this)
end MXC
end

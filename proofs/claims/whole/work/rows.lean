section
-- ===== PART A: goes FIRST, ahead of the names: the tables' words, and 'selects' of the private methods out of them =====
/-- a private method of a class that the tables say can be made, by its rows of tables_1 -/
def lw_okq (q : MethodName × Nat) : Prop := (q.1.cls ≠ "java/lang/invoke/MethodHandle" ∧ q.1.cls ≠ "java/lang/invoke/VarHandle") ∧ Cond.instantiable q.1.cls q.2 ∈ tables_1 ∧ Cond.privateMethod q.1 ∈ tables_1 ∧ Cond.instanceMethod q.1 ∈ tables_1
theorem lw_p0 : lw_okq (⟨"SixWhoTurn", "squadOf", "(I)LSixWhoTurn$Squad;"⟩, 15) := ⟨⟨by decide +kernel, by decide +kernel⟩, List.mem_of_getElem? (i := 18) (by decide +kernel), List.mem_of_getElem? (i := 256) (by decide +kernel), List.mem_of_getElem? (i := 257) (by decide +kernel)⟩
theorem lw_p1 : lw_okq (⟨"SixWhoTurn", "winRally", "(I)I"⟩, 15) := ⟨⟨by decide +kernel, by decide +kernel⟩, List.mem_of_getElem? (i := 18) (by decide +kernel), List.mem_of_getElem? (i := 341) (by decide +kernel), List.mem_of_getElem? (i := 342) (by decide +kernel)⟩
theorem lw_p2 : lw_okq (⟨"SixWhoTurn", "courtOf", "(I)LSixWhoTurn$Court;"⟩, 15) := ⟨⟨by decide +kernel, by decide +kernel⟩, List.mem_of_getElem? (i := 18) (by decide +kernel), List.mem_of_getElem? (i := 345) (by decide +kernel), List.mem_of_getElem? (i := 346) (by decide +kernel)⟩
theorem lw_p3 : lw_okq (⟨"SixWhoTurn", "closeIfWon", "(I)I"⟩, 15) := ⟨⟨by decide +kernel, by decide +kernel⟩, List.mem_of_getElem? (i := 18) (by decide +kernel), List.mem_of_getElem? (i := 357) (by decide +kernel), List.mem_of_getElem? (i := 358) (by decide +kernel)⟩
theorem lw_p4 : lw_okq (⟨"SixWhoTurn", "stanceOf", "(I)LSixWhoTurn$Stance;"⟩, 15) := ⟨⟨by decide +kernel, by decide +kernel⟩, List.mem_of_getElem? (i := 18) (by decide +kernel), List.mem_of_getElem? (i := 446) (by decide +kernel), List.mem_of_getElem? (i := 447) (by decide +kernel)⟩
theorem lw_p5 : lw_okq (⟨"SixWhoTurn$Text", "faultInItem", "(I)I"⟩, 2) := ⟨⟨by decide +kernel, by decide +kernel⟩, List.mem_of_getElem? (i := 161) (by decide +kernel), List.mem_of_getElem? (i := 489) (by decide +kernel), List.mem_of_getElem? (i := 490) (by decide +kernel)⟩
theorem lw_p6 : lw_okq (⟨"SixWhoTurn", "doItems", "(I)I"⟩, 15) := ⟨⟨by decide +kernel, by decide +kernel⟩, List.mem_of_getElem? (i := 18) (by decide +kernel), List.mem_of_getElem? (i := 507) (by decide +kernel), List.mem_of_getElem? (i := 508) (by decide +kernel)⟩
theorem lw_p7 : lw_okq (⟨"SixWhoTurn", "saveMatch", "()V"⟩, 15) := ⟨⟨by decide +kernel, by decide +kernel⟩, List.mem_of_getElem? (i := 18) (by decide +kernel), List.mem_of_getElem? (i := 511) (by decide +kernel), List.mem_of_getElem? (i := 512) (by decide +kernel)⟩
theorem lw_p8 : lw_okq (⟨"SixWhoTurn", "doItem", "(I)I"⟩, 15) := ⟨⟨by decide +kernel, by decide +kernel⟩, List.mem_of_getElem? (i := 18) (by decide +kernel), List.mem_of_getElem? (i := 524) (by decide +kernel), List.mem_of_getElem? (i := 525) (by decide +kernel)⟩
theorem lw_p9 : lw_okq (⟨"SixWhoTurn", "restoreMatch", "()V"⟩, 15) := ⟨⟨by decide +kernel, by decide +kernel⟩, List.mem_of_getElem? (i := 18) (by decide +kernel), List.mem_of_getElem? (i := 534) (by decide +kernel), List.mem_of_getElem? (i := 535) (by decide +kernel)⟩
theorem lw_p10 : lw_okq (⟨"SixWhoTurn", "takeCourts", "()V"⟩, 15) := ⟨⟨by decide +kernel, by decide +kernel⟩, List.mem_of_getElem? (i := 18) (by decide +kernel), List.mem_of_getElem? (i := 544) (by decide +kernel), List.mem_of_getElem? (i := 545) (by decide +kernel)⟩
theorem lw_p11 : lw_okq (⟨"SixWhoTurn", "chanceNow", "()I"⟩, 15) := ⟨⟨by decide +kernel, by decide +kernel⟩, List.mem_of_getElem? (i := 18) (by decide +kernel), List.mem_of_getElem? (i := 576) (by decide +kernel), List.mem_of_getElem? (i := 577) (by decide +kernel)⟩
theorem lw_p12 : lw_okq (⟨"SixWhoTurn", "chanceFrom", "(III)I"⟩, 15) := ⟨⟨by decide +kernel, by decide +kernel⟩, List.mem_of_getElem? (i := 18) (by decide +kernel), List.mem_of_getElem? (i := 580) (by decide +kernel), List.mem_of_getElem? (i := 581) (by decide +kernel)⟩
theorem lw_p13 : lw_okq (⟨"SixWhoTurn$Chances", "fillScore", "(III)V"⟩, 5) := ⟨⟨by decide +kernel, by decide +kernel⟩, List.mem_of_getElem? (i := 176) (by decide +kernel), List.mem_of_getElem? (i := 595) (by decide +kernel), List.mem_of_getElem? (i := 596) (by decide +kernel)⟩
theorem lw_p14 : lw_okq (⟨"SixWhoTurn$Chances", "reckonScore", "(II)V"⟩, 5) := ⟨⟨by decide +kernel, by decide +kernel⟩, List.mem_of_getElem? (i := 176) (by decide +kernel), List.mem_of_getElem? (i := 599) (by decide +kernel), List.mem_of_getElem? (i := 600) (by decide +kernel)⟩
theorem lw_p15 : lw_okq (⟨"SixWhoTurn$Chances", "valueAt", "(III)I"⟩, 5) := ⟨⟨by decide +kernel, by decide +kernel⟩, List.mem_of_getElem? (i := 176) (by decide +kernel), List.mem_of_getElem? (i := 604) (by decide +kernel), List.mem_of_getElem? (i := 605) (by decide +kernel)⟩
def lw_privs_1 : List (MethodName × Nat) := [(⟨"SixWhoTurn", "squadOf", "(I)LSixWhoTurn$Squad;"⟩, 15), (⟨"SixWhoTurn", "winRally", "(I)I"⟩, 15), (⟨"SixWhoTurn", "courtOf", "(I)LSixWhoTurn$Court;"⟩, 15), (⟨"SixWhoTurn", "closeIfWon", "(I)I"⟩, 15), (⟨"SixWhoTurn", "stanceOf", "(I)LSixWhoTurn$Stance;"⟩, 15), (⟨"SixWhoTurn$Text", "faultInItem", "(I)I"⟩, 2), (⟨"SixWhoTurn", "doItems", "(I)I"⟩, 15), (⟨"SixWhoTurn", "saveMatch", "()V"⟩, 15), (⟨"SixWhoTurn", "doItem", "(I)I"⟩, 15), (⟨"SixWhoTurn", "restoreMatch", "()V"⟩, 15), (⟨"SixWhoTurn", "takeCourts", "()V"⟩, 15), (⟨"SixWhoTurn", "chanceNow", "()I"⟩, 15), (⟨"SixWhoTurn", "chanceFrom", "(III)I"⟩, 15), (⟨"SixWhoTurn$Chances", "fillScore", "(III)V"⟩, 5), (⟨"SixWhoTurn$Chances", "reckonScore", "(II)V"⟩, 5), (⟨"SixWhoTurn$Chances", "valueAt", "(III)I"⟩, 5)]
theorem lw_r1 : ∀ q ∈ lw_privs_1, lw_okq q := List.forall_mem_cons.mpr ⟨lw_p0, List.forall_mem_cons.mpr ⟨lw_p1, List.forall_mem_cons.mpr ⟨lw_p2, List.forall_mem_cons.mpr ⟨lw_p3, List.forall_mem_cons.mpr ⟨lw_p4, List.forall_mem_cons.mpr ⟨lw_p5, List.forall_mem_cons.mpr ⟨lw_p6, List.forall_mem_cons.mpr ⟨lw_p7, List.forall_mem_cons.mpr ⟨lw_p8, List.forall_mem_cons.mpr ⟨lw_p9, List.forall_mem_cons.mpr ⟨lw_p10, List.forall_mem_cons.mpr ⟨lw_p11, List.forall_mem_cons.mpr ⟨lw_p12, List.forall_mem_cons.mpr ⟨lw_p13, List.forall_mem_cons.mpr ⟨lw_p14, List.forall_mem_cons.mpr ⟨lw_p15, fun _ h => absurd h List.not_mem_nil⟩⟩⟩⟩⟩⟩⟩⟩⟩⟩⟩⟩⟩⟩⟩⟩
theorem lw_p16 : lw_okq (⟨"SixWhoTurn", "tellRow", "(I)V"⟩, 15) := ⟨⟨by decide +kernel, by decide +kernel⟩, List.mem_of_getElem? (i := 18) (by decide +kernel), List.mem_of_getElem? (i := 623) (by decide +kernel), List.mem_of_getElem? (i := 624) (by decide +kernel)⟩
theorem lw_p17 : lw_okq (⟨"SixWhoTurn", "chanceAfter", "(III)I"⟩, 15) := ⟨⟨by decide +kernel, by decide +kernel⟩, List.mem_of_getElem? (i := 18) (by decide +kernel), List.mem_of_getElem? (i := 631) (by decide +kernel), List.mem_of_getElem? (i := 632) (by decide +kernel)⟩
theorem lw_p18 : lw_okq (⟨"java/lang/Throwable", "fillInStackTrace", "(I)Ljava/lang/Throwable;"⟩, 6) := ⟨⟨by decide +kernel, by decide +kernel⟩, List.mem_of_getElem? (i := 683) (by decide +kernel), List.mem_of_getElem? (i := 681) (by decide +kernel), List.mem_of_getElem? (i := 682) (by decide +kernel)⟩
theorem lw_p19 : lw_okq (⟨"SixWhoTurnModel", "put", "(III)V"⟩, 18) := ⟨⟨by decide +kernel, by decide +kernel⟩, List.mem_of_getElem? (i := 708) (by decide +kernel), List.mem_of_getElem? (i := 715) (by decide +kernel), List.mem_of_getElem? (i := 716) (by decide +kernel)⟩
theorem lw_p20 : lw_okq (⟨"SixWhoTurnModel", "stand", "()V"⟩, 18) := ⟨⟨by decide +kernel, by decide +kernel⟩, List.mem_of_getElem? (i := 708) (by decide +kernel), List.mem_of_getElem? (i := 719) (by decide +kernel), List.mem_of_getElem? (i := 720) (by decide +kernel)⟩
theorem lw_p21 : lw_okq (⟨"SixWhoTurnModel", "skillOf", "(III)I"⟩, 18) := ⟨⟨by decide +kernel, by decide +kernel⟩, List.mem_of_getElem? (i := 708) (by decide +kernel), List.mem_of_getElem? (i := 798) (by decide +kernel), List.mem_of_getElem? (i := 799) (by decide +kernel)⟩
theorem lw_p22 : lw_okq (⟨"SixWhoTurnModel", "isOn", "()Z"⟩, 18) := ⟨⟨by decide +kernel, by decide +kernel⟩, List.mem_of_getElem? (i := 708) (by decide +kernel), List.mem_of_getElem? (i := 806) (by decide +kernel), List.mem_of_getElem? (i := 807) (by decide +kernel)⟩
theorem lw_p23 : lw_okq (⟨"SixWhoTurnModel", "hasFree", "(I)Z"⟩, 18) := ⟨⟨by decide +kernel, by decide +kernel⟩, List.mem_of_getElem? (i := 708) (by decide +kernel), List.mem_of_getElem? (i := 826) (by decide +kernel), List.mem_of_getElem? (i := 827) (by decide +kernel)⟩
theorem lw_p24 : lw_okq (⟨"SixWhoTurnModel", "get", "(II)I"⟩, 18) := ⟨⟨by decide +kernel, by decide +kernel⟩, List.mem_of_getElem? (i := 708) (by decide +kernel), List.mem_of_getElem? (i := 830) (by decide +kernel), List.mem_of_getElem? (i := 831) (by decide +kernel)⟩
theorem lw_p25 : lw_okq (⟨"SixWhoTurnModel", "point", "(I)I"⟩, 18) := ⟨⟨by decide +kernel, by decide +kernel⟩, List.mem_of_getElem? (i := 708) (by decide +kernel), List.mem_of_getElem? (i := 838) (by decide +kernel), List.mem_of_getElem? (i := 839) (by decide +kernel)⟩
theorem lw_p26 : lw_okq (⟨"SixWhoTurnModel", "goal", "()I"⟩, 18) := ⟨⟨by decide +kernel, by decide +kernel⟩, List.mem_of_getElem? (i := 708) (by decide +kernel), List.mem_of_getElem? (i := 842) (by decide +kernel), List.mem_of_getElem? (i := 843) (by decide +kernel)⟩
theorem lw_p27 : lw_okq (⟨"SixWhoTurnModel", "isLastSet", "()Z"⟩, 18) := ⟨⟨by decide +kernel, by decide +kernel⟩, List.mem_of_getElem? (i := 708) (by decide +kernel), List.mem_of_getElem? (i := 846) (by decide +kernel), List.mem_of_getElem? (i := 847) (by decide +kernel)⟩
theorem lw_p28 : lw_okq (⟨"SixWhoTurnModel", "turn", "(I)V"⟩, 18) := ⟨⟨by decide +kernel, by decide +kernel⟩, List.mem_of_getElem? (i := 708) (by decide +kernel), List.mem_of_getElem? (i := 850) (by decide +kernel), List.mem_of_getElem? (i := 851) (by decide +kernel)⟩
theorem lw_p29 : lw_okq (⟨"SixWhoTurnModel", "wins", "(III)Z"⟩, 18) := ⟨⟨by decide +kernel, by decide +kernel⟩, List.mem_of_getElem? (i := 708) (by decide +kernel), List.mem_of_getElem? (i := 854) (by decide +kernel), List.mem_of_getElem? (i := 855) (by decide +kernel)⟩
theorem lw_p30 : lw_okq (⟨"SixWhoTurnModel", "mayNot", "(III)I"⟩, 18) := ⟨⟨by decide +kernel, by decide +kernel⟩, List.mem_of_getElem? (i := 708) (by decide +kernel), List.mem_of_getElem? (i := 862) (by decide +kernel), List.mem_of_getElem? (i := 863) (by decide +kernel)⟩
theorem lw_p31 : lw_okq (⟨"SixWhoTurnModel", "placeOf", "(II)I"⟩, 18) := ⟨⟨by decide +kernel, by decide +kernel⟩, List.mem_of_getElem? (i := 708) (by decide +kernel), List.mem_of_getElem? (i := 866) (by decide +kernel), List.mem_of_getElem? (i := 867) (by decide +kernel)⟩
def lw_privs_2 : List (MethodName × Nat) := [(⟨"SixWhoTurn", "tellRow", "(I)V"⟩, 15), (⟨"SixWhoTurn", "chanceAfter", "(III)I"⟩, 15), (⟨"java/lang/Throwable", "fillInStackTrace", "(I)Ljava/lang/Throwable;"⟩, 6), (⟨"SixWhoTurnModel", "put", "(III)V"⟩, 18), (⟨"SixWhoTurnModel", "stand", "()V"⟩, 18), (⟨"SixWhoTurnModel", "skillOf", "(III)I"⟩, 18), (⟨"SixWhoTurnModel", "isOn", "()Z"⟩, 18), (⟨"SixWhoTurnModel", "hasFree", "(I)Z"⟩, 18), (⟨"SixWhoTurnModel", "get", "(II)I"⟩, 18), (⟨"SixWhoTurnModel", "point", "(I)I"⟩, 18), (⟨"SixWhoTurnModel", "goal", "()I"⟩, 18), (⟨"SixWhoTurnModel", "isLastSet", "()Z"⟩, 18), (⟨"SixWhoTurnModel", "turn", "(I)V"⟩, 18), (⟨"SixWhoTurnModel", "wins", "(III)Z"⟩, 18), (⟨"SixWhoTurnModel", "mayNot", "(III)I"⟩, 18), (⟨"SixWhoTurnModel", "placeOf", "(II)I"⟩, 18)]
theorem lw_r2 : ∀ q ∈ lw_privs_2, lw_okq q := List.forall_mem_cons.mpr ⟨lw_p16, List.forall_mem_cons.mpr ⟨lw_p17, List.forall_mem_cons.mpr ⟨lw_p18, List.forall_mem_cons.mpr ⟨lw_p19, List.forall_mem_cons.mpr ⟨lw_p20, List.forall_mem_cons.mpr ⟨lw_p21, List.forall_mem_cons.mpr ⟨lw_p22, List.forall_mem_cons.mpr ⟨lw_p23, List.forall_mem_cons.mpr ⟨lw_p24, List.forall_mem_cons.mpr ⟨lw_p25, List.forall_mem_cons.mpr ⟨lw_p26, List.forall_mem_cons.mpr ⟨lw_p27, List.forall_mem_cons.mpr ⟨lw_p28, List.forall_mem_cons.mpr ⟨lw_p29, List.forall_mem_cons.mpr ⟨lw_p30, List.forall_mem_cons.mpr ⟨lw_p31, fun _ h => absurd h List.not_mem_nil⟩⟩⟩⟩⟩⟩⟩⟩⟩⟩⟩⟩⟩⟩⟩⟩
theorem lw_p32 : lw_okq (⟨"SixWhoTurnModel", "doChange", "(III)I"⟩, 18) := ⟨⟨by decide +kernel, by decide +kernel⟩, List.mem_of_getElem? (i := 708) (by decide +kernel), List.mem_of_getElem? (i := 874) (by decide +kernel), List.mem_of_getElem? (i := 875) (by decide +kernel)⟩
theorem lw_p33 : lw_okq (⟨"SixWhoTurnModel", "doFree", "(II)I"⟩, 18) := ⟨⟨by decide +kernel, by decide +kernel⟩, List.mem_of_getElem? (i := 708) (by decide +kernel), List.mem_of_getElem? (i := 882) (by decide +kernel), List.mem_of_getElem? (i := 883) (by decide +kernel)⟩
theorem lw_p34 : lw_okq (⟨"SixWhoTurnModel", "doPause", "(I)I"⟩, 18) := ⟨⟨by decide +kernel, by decide +kernel⟩, List.mem_of_getElem? (i := 708) (by decide +kernel), List.mem_of_getElem? (i := 890) (by decide +kernel), List.mem_of_getElem? (i := 891) (by decide +kernel)⟩
theorem lw_p35 : lw_okq (⟨"SixWhoTurnModel", "reads", "(II)I"⟩, 18) := ⟨⟨by decide +kernel, by decide +kernel⟩, List.mem_of_getElem? (i := 708) (by decide +kernel), List.mem_of_getElem? (i := 939) (by decide +kernel), List.mem_of_getElem? (i := 940) (by decide +kernel)⟩
theorem lw_p36 : lw_okq (⟨"SixWhoTurnModel", "putAside", "()V"⟩, 18) := ⟨⟨by decide +kernel, by decide +kernel⟩, List.mem_of_getElem? (i := 708) (by decide +kernel), List.mem_of_getElem? (i := 946) (by decide +kernel), List.mem_of_getElem? (i := 947) (by decide +kernel)⟩
theorem lw_p37 : lw_okq (⟨"SixWhoTurnModel", "doItem", "(I)Z"⟩, 18) := ⟨⟨by decide +kernel, by decide +kernel⟩, List.mem_of_getElem? (i := 708) (by decide +kernel), List.mem_of_getElem? (i := 950) (by decide +kernel), List.mem_of_getElem? (i := 951) (by decide +kernel)⟩
theorem lw_p38 : lw_okq (⟨"SixWhoTurnModel", "putBack", "()V"⟩, 18) := ⟨⟨by decide +kernel, by decide +kernel⟩, List.mem_of_getElem? (i := 708) (by decide +kernel), List.mem_of_getElem? (i := 954) (by decide +kernel), List.mem_of_getElem? (i := 955) (by decide +kernel)⟩
theorem lw_p39 : lw_okq (⟨"SixWhoTurnModel", "countNow", "()V"⟩, 18) := ⟨⟨by decide +kernel, by decide +kernel⟩, List.mem_of_getElem? (i := 708) (by decide +kernel), List.mem_of_getElem? (i := 962) (by decide +kernel), List.mem_of_getElem? (i := 963) (by decide +kernel)⟩
theorem lw_p40 : lw_okq (⟨"SixWhoTurnModel", "oddsOf", "(III)I"⟩, 18) := ⟨⟨by decide +kernel, by decide +kernel⟩, List.mem_of_getElem? (i := 708) (by decide +kernel), List.mem_of_getElem? (i := 966) (by decide +kernel), List.mem_of_getElem? (i := 967) (by decide +kernel)⟩
theorem lw_p41 : lw_okq (⟨"SixWhoTurnModel", "later", "(III)I"⟩, 18) := ⟨⟨by decide +kernel, by decide +kernel⟩, List.mem_of_getElem? (i := 708) (by decide +kernel), List.mem_of_getElem? (i := 970) (by decide +kernel), List.mem_of_getElem? (i := 971) (by decide +kernel)⟩
theorem lw_p42 : lw_okq (⟨"SixWhoTurnModel", "sum", "(IIIIII)I"⟩, 18) := ⟨⟨by decide +kernel, by decide +kernel⟩, List.mem_of_getElem? (i := 708) (by decide +kernel), List.mem_of_getElem? (i := 974) (by decide +kernel), List.mem_of_getElem? (i := 975) (by decide +kernel)⟩
theorem lw_p43 : lw_okq (⟨"SixWhoTurnModel", "fill", "(I)V"⟩, 18) := ⟨⟨by decide +kernel, by decide +kernel⟩, List.mem_of_getElem? (i := 708) (by decide +kernel), List.mem_of_getElem? (i := 983) (by decide +kernel), List.mem_of_getElem? (i := 984) (by decide +kernel)⟩
theorem lw_p44 : lw_okq (⟨"SixWhoTurnModel", "now", "()I"⟩, 18) := ⟨⟨by decide +kernel, by decide +kernel⟩, List.mem_of_getElem? (i := 708) (by decide +kernel), List.mem_of_getElem? (i := 996) (by decide +kernel), List.mem_of_getElem? (i := 997) (by decide +kernel)⟩
def lw_privs_3 : List (MethodName × Nat) := [(⟨"SixWhoTurnModel", "doChange", "(III)I"⟩, 18), (⟨"SixWhoTurnModel", "doFree", "(II)I"⟩, 18), (⟨"SixWhoTurnModel", "doPause", "(I)I"⟩, 18), (⟨"SixWhoTurnModel", "reads", "(II)I"⟩, 18), (⟨"SixWhoTurnModel", "putAside", "()V"⟩, 18), (⟨"SixWhoTurnModel", "doItem", "(I)Z"⟩, 18), (⟨"SixWhoTurnModel", "putBack", "()V"⟩, 18), (⟨"SixWhoTurnModel", "countNow", "()V"⟩, 18), (⟨"SixWhoTurnModel", "oddsOf", "(III)I"⟩, 18), (⟨"SixWhoTurnModel", "later", "(III)I"⟩, 18), (⟨"SixWhoTurnModel", "sum", "(IIIIII)I"⟩, 18), (⟨"SixWhoTurnModel", "fill", "(I)V"⟩, 18), (⟨"SixWhoTurnModel", "now", "()I"⟩, 18)]
theorem lw_r3 : ∀ q ∈ lw_privs_3, lw_okq q := List.forall_mem_cons.mpr ⟨lw_p32, List.forall_mem_cons.mpr ⟨lw_p33, List.forall_mem_cons.mpr ⟨lw_p34, List.forall_mem_cons.mpr ⟨lw_p35, List.forall_mem_cons.mpr ⟨lw_p36, List.forall_mem_cons.mpr ⟨lw_p37, List.forall_mem_cons.mpr ⟨lw_p38, List.forall_mem_cons.mpr ⟨lw_p39, List.forall_mem_cons.mpr ⟨lw_p40, List.forall_mem_cons.mpr ⟨lw_p41, List.forall_mem_cons.mpr ⟨lw_p42, List.forall_mem_cons.mpr ⟨lw_p43, List.forall_mem_cons.mpr ⟨lw_p44, fun _ h => absurd h List.not_mem_nil⟩⟩⟩⟩⟩⟩⟩⟩⟩⟩⟩⟩⟩
def lw_privs : List (MethodName × Nat) := lw_privs_1 ++ (lw_privs_2 ++ (lw_privs_3))
def lw_tbl : List Cond := k2_sels lw_privs ++ tables_1
theorem lw_privs_ok : ∀ q ∈ lw_privs, lw_okq q := by
  show ∀ q ∈ lw_privs_1 ++ (lw_privs_2 ++ (lw_privs_3)), lw_okq q
  exact List.forall_mem_append.mpr ⟨lw_r1, List.forall_mem_append.mpr ⟨lw_r2, lw_r3⟩⟩
end
section
def RX0 : String := "SixWhoTurn$Chances"
def TX0 : u_T := fun k => match k with
  | 0 => ("SixWhoTurn$Chances", "order0", "[I", true)
  | 1 => ("SixWhoTurn$Chances", "order1", "[I", true)
  | 2 => ("SixWhoTurn$Chances", "phaseChance", "[I", true)
  | 3 => ("SixWhoTurn$Chances", "rows", "[[I", true)
  | _ => ("SixWhoTurn$Chances", "first", "I", false)
def tyX0 : Nat → FieldType := fun k => match k with
  | 0 => .array .int
  | 1 => .array .int
  | 2 => .array .int
  | 3 => .array (.array .int)
  | _ => .int
abbrev wsX00 : List Cond := u_ws RX0 TX0 5
theorem nmX0 : ∀ a, a < 5 → ∀ b, b < 5 → a ≠ b → (TX0 a).2.1 ≠ (TX0 b).2.1 := by decide +kernel
theorem tyX0_ok : ∀ k, k < 5 → parseFieldDescriptor (TX0 k).2.2.1 = some (tyX0 k) := by decide +kernel
abbrev cX0_init : ByteArray := prog_2_method_1_code
def yX0_init : MethodName := ⟨RX0, "<init>", "()V"⟩
abbrev cX0_take : ByteArray := prog_2_method_2_code
def yX0_take : MethodName := ⟨RX0, "take", "(I[II)V"⟩
abbrev cX0_replace : ByteArray := prog_2_method_3_code
def yX0_replace : MethodName := ⟨RX0, "replace", "(III)V"⟩
abbrev cX0_rallyChance : ByteArray := prog_2_method_4_code
def yX0_rallyChance : MethodName := ⟨RX0, "rallyChance", "(LSixWhoTurn$Squad;LSixWhoTurn$Squad;III)I"⟩
abbrev cX0_fillPhases : ByteArray := prog_2_method_5_code
def yX0_fillPhases : MethodName := ⟨RX0, "fillPhases", "(LSixWhoTurn$Squad;LSixWhoTurn$Squad;I)V"⟩
abbrev cX0_setChance : ByteArray := prog_2_method_6_code
def yX0_setChance : MethodName := ⟨RX0, "setChance", "(IIII)I"⟩
abbrev cX0_weightOfRally : ByteArray := prog_2_method_7_code
def yX0_weightOfRally : MethodName := ⟨RX0, "weightOfRally", "(II)I"⟩
abbrev cX0_valueAt : ByteArray := prog_2_method_8_code
def yX0_valueAt : MethodName := ⟨RX0, "valueAt", "(III)I"⟩
abbrev cX0_fillScore : ByteArray := prog_2_method_9_code
def yX0_fillScore : MethodName := ⟨RX0, "fillScore", "(III)V"⟩
abbrev cX0_reckonScore : ByteArray := prog_2_method_10_code
def yX0_reckonScore : MethodName := ⟨RX0, "reckonScore", "(II)V"⟩
def RX1 : String := "SixWhoTurn$Course"
def TX1 : u_T := fun k => match k with
  | 0 => ("SixWhoTurn$Course", "number", "I", false)
  | 1 => ("SixWhoTurn$Course", "on", "Z", false)
  | 2 => ("SixWhoTurn$Course", "serving", "I", false)
  | 3 => ("SixWhoTurn$Course", "streak", "I", false)
  | 4 => ("SixWhoTurn$Course", "rallies", "I", false)
  | 5 => ("SixWhoTurn$Course", "setWinner", "I", false)
  | _ => ("SixWhoTurn$Course", "matchWinner", "I", false)
def tyX1 : Nat → FieldType := fun k => match k with
  | 0 => .int
  | 1 => .boolean
  | 2 => .int
  | 3 => .int
  | 4 => .int
  | 5 => .int
  | _ => .int
abbrev wsX10 : List Cond := u_ws RX1 TX1 7
theorem nmX1 : ∀ a, a < 7 → ∀ b, b < 7 → a ≠ b → (TX1 a).2.1 ≠ (TX1 b).2.1 := by decide +kernel
theorem tyX1_ok : ∀ k, k < 7 → parseFieldDescriptor (TX1 k).2.2.1 = some (tyX1 k) := by decide +kernel
abbrev cX1_init : ByteArray := prog_3_method_1_code
def yX1_init : MethodName := ⟨RX1, "<init>", "()V"⟩
abbrev cX1_startSet : ByteArray := prog_3_method_2_code
def yX1_startSet : MethodName := ⟨RX1, "startSet", "(I)V"⟩
abbrev cX1_copyFrom : ByteArray := prog_3_method_3_code
def yX1_copyFrom : MethodName := ⟨RX1, "copyFrom", "(LSixWhoTurn$Course;)V"⟩
def RX2 : String := "SixWhoTurn$Court"
def TX2 : u_T := fun k => match k with
  | 0 => ("SixWhoTurn$Court", "order", "[I", true)
  | 1 => ("SixWhoTurn$Court", "standing", "[I", true)
  | 2 => ("SixWhoTurn$Court", "cameFor", "[I", true)
  | 3 => ("SixWhoTurn$Court", "servePoints", "[I", true)
  | 4 => ("SixWhoTurn$Court", "freeOne", "I", false)
  | 5 => ("SixWhoTurn$Court", "freePlace", "I", false)
  | 6 => ("SixWhoTurn$Court", "freeMoved", "Z", false)
  | 7 => ("SixWhoTurn$Court", "points", "I", false)
  | 8 => ("SixWhoTurn$Court", "setsWon", "I", false)
  | 9 => ("SixWhoTurn$Court", "changesDone", "I", false)
  | 10 => ("SixWhoTurn$Court", "pausesDone", "I", false)
  | _ => ("SixWhoTurn$Court", "turnsDone", "I", false)
def tyX2 : Nat → FieldType := fun k => match k with
  | 0 => .array .int
  | 1 => .array .int
  | 2 => .array .int
  | 3 => .array .int
  | 4 => .int
  | 5 => .int
  | 6 => .boolean
  | 7 => .int
  | 8 => .int
  | 9 => .int
  | 10 => .int
  | _ => .int
abbrev wsX20 : List Cond := u_ws RX2 TX2 12
theorem nmX2 : ∀ a, a < 12 → ∀ b, b < 12 → a ≠ b → (TX2 a).2.1 ≠ (TX2 b).2.1 := by decide +kernel
theorem tyX2_ok : ∀ k, k < 12 → parseFieldDescriptor (TX2 k).2.2.1 = some (tyX2 k) := by decide +kernel
abbrev cX2_init : ByteArray := prog_4_method_1_code
def yX2_init : MethodName := ⟨RX2, "<init>", "()V"⟩
abbrev cX2_startSet : ByteArray := prog_4_method_2_code
def yX2_startSet : MethodName := ⟨RX2, "startSet", "(LSixWhoTurn$Squad;)V"⟩
abbrev cX2_copyFrom : ByteArray := prog_4_method_3_code
def yX2_copyFrom : MethodName := ⟨RX2, "copyFrom", "(LSixWhoTurn$Court;)V"⟩
abbrev cX2_placeOf : ByteArray := prog_4_method_4_code
def yX2_placeOf : MethodName := ⟨RX2, "placeOf", "(I)I"⟩
abbrev cX2_playerAt : ByteArray := prog_4_method_5_code
def yX2_playerAt : MethodName := ⟨RX2, "playerAt", "(I)I"⟩
abbrev cX2_freeStandsFor : ByteArray := prog_4_method_6_code
def yX2_freeStandsFor : MethodName := ⟨RX2, "freeStandsFor", "()I"⟩
abbrev cX2_turnOn : ByteArray := prog_4_method_7_code
def yX2_turnOn : MethodName := ⟨RX2, "turnOn", "()V"⟩
abbrev cX2_countServe : ByteArray := prog_4_method_8_code
def yX2_countServe : MethodName := ⟨RX2, "countServe", "()V"⟩
abbrev cX2_mayLeave : ByteArray := prog_4_method_9_code
def yX2_mayLeave : MethodName := ⟨RX2, "mayLeave", "(I)Z"⟩
abbrev cX2_mayEnter : ByteArray := prog_4_method_10_code
def yX2_mayEnter : MethodName := ⟨RX2, "mayEnter", "(I)Z"⟩
abbrev cX2_arePair : ByteArray := prog_4_method_11_code
def yX2_arePair : MethodName := ⟨RX2, "arePair", "(II)Z"⟩
abbrev cX2_exchange : ByteArray := prog_4_method_12_code
def yX2_exchange : MethodName := ⟨RX2, "exchange", "(II)I"⟩
abbrev cX2_freeOn : ByteArray := prog_4_method_13_code
def yX2_freeOn : MethodName := ⟨RX2, "freeOn", "(I)I"⟩
abbrev cX2_freeOff : ByteArray := prog_4_method_14_code
def yX2_freeOff : MethodName := ⟨RX2, "freeOff", "()I"⟩
def RX3 : String := "SixWhoTurn$Numbers"
def TX3 : u_T := fun k => match k with
  | _ => ("SixWhoTurn$Numbers", "values", "[I", true)
def tyX3 : Nat → FieldType := fun k => match k with
  | _ => .array .int
abbrev wsX30 : List Cond := u_ws RX3 TX3 1
theorem nmX3 : ∀ a, a < 1 → ∀ b, b < 1 → a ≠ b → (TX3 a).2.1 ≠ (TX3 b).2.1 := by decide +kernel
theorem tyX3_ok : ∀ k, k < 1 → parseFieldDescriptor (TX3 k).2.2.1 = some (tyX3 k) := by decide +kernel
abbrev cX3_init : ByteArray := prog_5_method_1_code
def yX3_init : MethodName := ⟨RX3, "<init>", "()V"⟩
abbrev cX3_takes : ByteArray := prog_5_method_2_code
def yX3_takes : MethodName := ⟨RX3, "takes", "(II)Z"⟩
abbrev cX3_valueOf : ByteArray := prog_5_method_3_code
def yX3_valueOf : MethodName := ⟨RX3, "valueOf", "(I)I"⟩
abbrev cX3_putValue : ByteArray := prog_5_method_4_code
def yX3_putValue : MethodName := ⟨RX3, "putValue", "(II)V"⟩
abbrev cX3_target : ByteArray := prog_5_method_5_code
def yX3_target : MethodName := ⟨RX3, "target", "(II)I"⟩
abbrev cX3_wins : ByteArray := prog_5_method_6_code
def yX3_wins : MethodName := ⟨RX3, "wins", "(IIII)Z"⟩
def RX4 : String := "SixWhoTurn$Squad"
def TX4 : u_T := fun k => match k with
  | 0 => ("SixWhoTurn$Squad", "skills", "[I", true)
  | 1 => ("SixWhoTurn$Squad", "lineUp", "[I", true)
  | 2 => ("SixWhoTurn$Squad", "freeOne", "I", false)
  | _ => ("SixWhoTurn$Squad", "told", "Z", false)
def tyX4 : Nat → FieldType := fun k => match k with
  | 0 => .array .int
  | 1 => .array .int
  | 2 => .int
  | _ => .boolean
abbrev wsX40 : List Cond := u_ws RX4 TX4 4
theorem nmX4 : ∀ a, a < 4 → ∀ b, b < 4 → a ≠ b → (TX4 a).2.1 ≠ (TX4 b).2.1 := by decide +kernel
theorem tyX4_ok : ∀ k, k < 4 → parseFieldDescriptor (TX4 k).2.2.1 = some (tyX4 k) := by decide +kernel
abbrev cX4_init : ByteArray := prog_6_method_1_code
def yX4_init : MethodName := ⟨RX4, "<init>", "()V"⟩
abbrev cX4_skillOf : ByteArray := prog_6_method_2_code
def yX4_skillOf : MethodName := ⟨RX4, "skillOf", "(II)I"⟩
abbrev cX4_putSkill : ByteArray := prog_6_method_3_code
def yX4_putSkill : MethodName := ⟨RX4, "putSkill", "(III)V"⟩
abbrev cX4_tell : ByteArray := prog_6_method_4_code
def yX4_tell : MethodName := ⟨RX4, "tell", "(IIIIII)V"⟩
abbrev cX4_isReady : ByteArray := prog_6_method_5_code
def yX4_isReady : MethodName := ⟨RX4, "isReady", "()Z"⟩
abbrev cX4_third : ByteArray := prog_6_method_6_code
def yX4_third : MethodName := ⟨RX4, "third", "([II[II)I"⟩
def RX5 : String := "SixWhoTurn$Stance"
def TX5 : u_T := fun k => match k with
  | 0 => ("SixWhoTurn$Stance", "x", "[I", true)
  | _ => ("SixWhoTurn$Stance", "y", "[I", true)
def tyX5 : Nat → FieldType := fun k => match k with
  | 0 => .array .int
  | _ => .array .int
abbrev wsX50 : List Cond := u_ws RX5 TX5 2
theorem nmX5 : ∀ a, a < 2 → ∀ b, b < 2 → a ≠ b → (TX5 a).2.1 ≠ (TX5 b).2.1 := by decide +kernel
theorem tyX5_ok : ∀ k, k < 2 → parseFieldDescriptor (TX5 k).2.2.1 = some (tyX5 k) := by decide +kernel
abbrev cX5_init : ByteArray := prog_7_method_1_code
def yX5_init : MethodName := ⟨RX5, "<init>", "()V"⟩
abbrev cX5_stand : ByteArray := prog_7_method_2_code
def yX5_stand : MethodName := ⟨RX5, "stand", "()V"⟩
abbrev cX5_put : ByteArray := prog_7_method_3_code
def yX5_put : MethodName := ⟨RX5, "put", "(III)V"⟩
abbrev cX5_firstBroken : ByteArray := prog_7_method_4_code
def yX5_firstBroken : MethodName := ⟨RX5, "firstBroken", "(Z)I"⟩
def RX6 : String := "SixWhoTurn$Text"
def TX6 : u_T := fun k => match k with
  | 0 => ("SixWhoTurn$Text", "signs", "[C", true)
  | _ => ("SixWhoTurn$Text", "length", "I", false)
def tyX6 : Nat → FieldType := fun k => match k with
  | 0 => .array .char
  | _ => .int
abbrev wsX60 : List Cond := u_ws RX6 TX6 2
theorem nmX6 : ∀ a, a < 2 → ∀ b, b < 2 → a ≠ b → (TX6 a).2.1 ≠ (TX6 b).2.1 := by decide +kernel
theorem tyX6_ok : ∀ k, k < 2 → parseFieldDescriptor (TX6 k).2.2.1 = some (tyX6 k) := by decide +kernel
abbrev cX6_init : ByteArray := prog_8_method_1_code
def yX6_init : MethodName := ⟨RX6, "<init>", "()V"⟩
abbrev cX6_append : ByteArray := prog_8_method_2_code
def yX6_append : MethodName := ⟨RX6, "append", "(C)V"⟩
abbrev cX6_signAt : ByteArray := prog_8_method_3_code
def yX6_signAt : MethodName := ⟨RX6, "signAt", "(I)C"⟩
abbrev cX6_playerOf : ByteArray := prog_8_method_4_code
def yX6_playerOf : MethodName := ⟨RX6, "playerOf", "(C)I"⟩
abbrev cX6_firstFault : ByteArray := prog_8_method_5_code
def yX6_firstFault : MethodName := ⟨RX6, "firstFault", "(I)I"⟩
abbrev cX6_faultInItem : ByteArray := prog_8_method_6_code
def yX6_faultInItem : MethodName := ⟨RX6, "faultInItem", "(I)I"⟩
abbrev cX6_itemLength : ByteArray := prog_8_method_7_code
def yX6_itemLength : MethodName := ⟨RX6, "itemLength", "(I)I"⟩
def RX7 : String := "SixWhoTurn"
def TX7 : u_T := fun k => match k with
  | 0 => ("SixWhoTurn", "numbers", "LSixWhoTurn$Numbers;", true)
  | 1 => ("SixWhoTurn", "squad0", "LSixWhoTurn$Squad;", true)
  | 2 => ("SixWhoTurn", "squad1", "LSixWhoTurn$Squad;", true)
  | 3 => ("SixWhoTurn", "court0", "LSixWhoTurn$Court;", true)
  | 4 => ("SixWhoTurn", "court1", "LSixWhoTurn$Court;", true)
  | 5 => ("SixWhoTurn", "course", "LSixWhoTurn$Course;", true)
  | 6 => ("SixWhoTurn", "savedCourt0", "LSixWhoTurn$Court;", true)
  | 7 => ("SixWhoTurn", "savedCourt1", "LSixWhoTurn$Court;", true)
  | 8 => ("SixWhoTurn", "savedCourse", "LSixWhoTurn$Course;", true)
  | 9 => ("SixWhoTurn", "stance0", "LSixWhoTurn$Stance;", true)
  | 10 => ("SixWhoTurn", "stance1", "LSixWhoTurn$Stance;", true)
  | 11 => ("SixWhoTurn", "text", "LSixWhoTurn$Text;", true)
  | 12 => ("SixWhoTurn", "chances", "LSixWhoTurn$Chances;", true)
  | 13 => ("SixWhoTurn", "rowSize", "I", false)
  | _ => ("SixWhoTurn", "rowNumber", "I", false)
def tyX7 : Nat → FieldType := fun k => match k with
  | 0 => .object "SixWhoTurn$Numbers"
  | 1 => .object "SixWhoTurn$Squad"
  | 2 => .object "SixWhoTurn$Squad"
  | 3 => .object "SixWhoTurn$Court"
  | 4 => .object "SixWhoTurn$Court"
  | 5 => .object "SixWhoTurn$Course"
  | 6 => .object "SixWhoTurn$Court"
  | 7 => .object "SixWhoTurn$Court"
  | 8 => .object "SixWhoTurn$Course"
  | 9 => .object "SixWhoTurn$Stance"
  | 10 => .object "SixWhoTurn$Stance"
  | 11 => .object "SixWhoTurn$Text"
  | 12 => .object "SixWhoTurn$Chances"
  | 13 => .int
  | _ => .int
abbrev wsX70 : List Cond := u_ws RX7 TX7 15
theorem nmX7 : ∀ a, a < 15 → ∀ b, b < 15 → a ≠ b → (TX7 a).2.1 ≠ (TX7 b).2.1 := by decide +kernel
theorem tyX7_ok : ∀ k, k < 15 → parseFieldDescriptor (TX7 k).2.2.1 = some (tyX7 k) := by decide +kernel
abbrev cX7_init : ByteArray := prog_1_method_1_code
def yX7_init : MethodName := ⟨RX7, "<init>", "()V"⟩
abbrev cX7_skill : ByteArray := prog_1_method_2_code
def yX7_skill : MethodName := ⟨RX7, "skill", "(IIII)I"⟩
abbrev cX7_libre : ByteArray := prog_1_method_3_code
def yX7_libre : MethodName := ⟨RX7, "libre", "(II)I"⟩
abbrev cX7_set : ByteArray := prog_1_method_4_code
def yX7_set : MethodName := ⟨RX7, "set", "(II)I"⟩
abbrev cX7_lineUp : ByteArray := prog_1_method_5_code
def yX7_lineUp : MethodName := ⟨RX7, "lineUp", "(IIIIIII)Z"⟩
abbrev cX7_begin : ByteArray := prog_1_method_6_code
def yX7_begin : MethodName := ⟨RX7, "begin", "(I)I"⟩
abbrev cX7_rally : ByteArray := prog_1_method_7_code
def yX7_rally : MethodName := ⟨RX7, "rally", "(I)I"⟩
abbrev cX7_may : ByteArray := prog_1_method_8_code
def yX7_may : MethodName := ⟨RX7, "may", "(III)I"⟩
abbrev cX7_change : ByteArray := prog_1_method_9_code
def yX7_change : MethodName := ⟨RX7, "change", "(III)I"⟩
abbrev cX7_free : ByteArray := prog_1_method_10_code
def yX7_free : MethodName := ⟨RX7, "free", "(II)I"⟩
abbrev cX7_pause : ByteArray := prog_1_method_11_code
def yX7_pause : MethodName := ⟨RX7, "pause", "(I)I"⟩
abbrev cX7_wrong : ByteArray := prog_1_method_12_code
def yX7_wrong : MethodName := ⟨RX7, "wrong", "(I)I"⟩
abbrev cX7_at : ByteArray := prog_1_method_13_code
def yX7_at : MethodName := ⟨RX7, "at", "(II)I"⟩
abbrev cX7_of : ByteArray := prog_1_method_14_code
def yX7_of : MethodName := ⟨RX7, "of", "(II)I"⟩
abbrev cX7_count : ByteArray := prog_1_method_15_code
def yX7_count : MethodName := ⟨RX7, "count", "(I)I"⟩
abbrev cX7_served : ByteArray := prog_1_method_16_code
def yX7_served : MethodName := ⟨RX7, "served", "(II)I"⟩
abbrev cX7_feet : ByteArray := prog_1_method_17_code
def yX7_feet : MethodName := ⟨RX7, "feet", "(IIII)Z"⟩
abbrev cX7_overlap : ByteArray := prog_1_method_18_code
def yX7_overlap : MethodName := ⟨RX7, "overlap", "(I)I"⟩
abbrev cX7_sign : ByteArray := prog_1_method_19_code
def yX7_sign : MethodName := ⟨RX7, "sign", "(I)I"⟩
abbrev cX7_end : ByteArray := prog_1_method_20_code
def yX7_end : MethodName := ⟨RX7, "end", "(I)Z"⟩
abbrev cX7_sheet : ByteArray := prog_1_method_21_code
def yX7_sheet : MethodName := ⟨RX7, "sheet", "()I"⟩
abbrev cX7_odds : ByteArray := prog_1_method_22_code
def yX7_odds : MethodName := ⟨RX7, "odds", "(III)I"⟩
abbrev cX7_chance : ByteArray := prog_1_method_23_code
def yX7_chance : MethodName := ⟨RX7, "chance", "()I"⟩
abbrev cX7_weight : ByteArray := prog_1_method_24_code
def yX7_weight : MethodName := ⟨RX7, "weight", "()I"⟩
abbrev cX7_turn : ByteArray := prog_1_method_25_code
def yX7_turn : MethodName := ⟨RX7, "turn", "(II)I"⟩
abbrev cX7_advice : ByteArray := prog_1_method_26_code
def yX7_advice : MethodName := ⟨RX7, "advice", "(I)I"⟩
abbrev cX7_row : ByteArray := prog_1_method_27_code
def yX7_row : MethodName := ⟨RX7, "row", "(I)I"⟩
abbrev cX7_isTeam : ByteArray := prog_1_method_28_code
def yX7_isTeam : MethodName := ⟨RX7, "isTeam", "(I)Z"⟩
abbrev cX7_isPlayer : ByteArray := prog_1_method_29_code
def yX7_isPlayer : MethodName := ⟨RX7, "isPlayer", "(I)Z"⟩
abbrev cX7_bitOf : ByteArray := prog_1_method_30_code
def yX7_bitOf : MethodName := ⟨RX7, "bitOf", "(I)I"⟩
abbrev cX7_squadOf : ByteArray := prog_1_method_31_code
def yX7_squadOf : MethodName := ⟨RX7, "squadOf", "(I)LSixWhoTurn$Squad;"⟩
abbrev cX7_courtOf : ByteArray := prog_1_method_32_code
def yX7_courtOf : MethodName := ⟨RX7, "courtOf", "(I)LSixWhoTurn$Court;"⟩
abbrev cX7_stanceOf : ByteArray := prog_1_method_33_code
def yX7_stanceOf : MethodName := ⟨RX7, "stanceOf", "(I)LSixWhoTurn$Stance;"⟩
abbrev cX7_winRally : ByteArray := prog_1_method_34_code
def yX7_winRally : MethodName := ⟨RX7, "winRally", "(I)I"⟩
abbrev cX7_closeIfWon : ByteArray := prog_1_method_35_code
def yX7_closeIfWon : MethodName := ⟨RX7, "closeIfWon", "(I)I"⟩
abbrev cX7_doItems : ByteArray := prog_1_method_36_code
def yX7_doItems : MethodName := ⟨RX7, "doItems", "(I)I"⟩
abbrev cX7_doItem : ByteArray := prog_1_method_37_code
def yX7_doItem : MethodName := ⟨RX7, "doItem", "(I)I"⟩
abbrev cX7_saveMatch : ByteArray := prog_1_method_38_code
def yX7_saveMatch : MethodName := ⟨RX7, "saveMatch", "()V"⟩
abbrev cX7_restoreMatch : ByteArray := prog_1_method_39_code
def yX7_restoreMatch : MethodName := ⟨RX7, "restoreMatch", "()V"⟩
abbrev cX7_takeCourts : ByteArray := prog_1_method_40_code
def yX7_takeCourts : MethodName := ⟨RX7, "takeCourts", "()V"⟩
abbrev cX7_chanceNow : ByteArray := prog_1_method_41_code
def yX7_chanceNow : MethodName := ⟨RX7, "chanceNow", "()I"⟩
abbrev cX7_chanceFrom : ByteArray := prog_1_method_42_code
def yX7_chanceFrom : MethodName := ⟨RX7, "chanceFrom", "(III)I"⟩
abbrev cX7_chanceAfter : ByteArray := prog_1_method_43_code
def yX7_chanceAfter : MethodName := ⟨RX7, "chanceAfter", "(III)I"⟩
abbrev cX7_isBetter : ByteArray := prog_1_method_44_code
def yX7_isBetter : MethodName := ⟨RX7, "isBetter", "(III)Z"⟩
abbrev cX7_tellRow : ByteArray := prog_1_method_45_code
def yX7_tellRow : MethodName := ⟨RX7, "tellRow", "(I)V"⟩
def RX8 : String := "SixWhoTurnModel"
def TX8 : u_T := fun k => match k with
  | 0 => ("SixWhoTurnModel", "skills", "[I", true)
  | 1 => ("SixWhoTurnModel", "libre", "[I", true)
  | 2 => ("SixWhoTurnModel", "numbers", "[I", true)
  | 3 => ("SixWhoTurnModel", "next", "[I", true)
  | 4 => ("SixWhoTurnModel", "isTold", "[Z", true)
  | 5 => ("SixWhoTurnModel", "w", "[I", true)
  | 6 => ("SixWhoTurnModel", "aside", "[I", true)
  | 7 => ("SixWhoTurnModel", "feetX", "[I", true)
  | 8 => ("SixWhoTurnModel", "feetY", "[I", true)
  | 9 => ("SixWhoTurnModel", "text", "[B", true)
  | 10 => ("SixWhoTurnModel", "typed", "I", false)
  | 11 => ("SixWhoTurnModel", "rowFirst", "I", false)
  | 12 => ("SixWhoTurnModel", "rowMany", "I", false)
  | 13 => ("SixWhoTurnModel", "thrown", "I", false)
  | 14 => ("SixWhoTurnModel", "six", "[I", true)
  | 15 => ("SixWhoTurnModel", "counts", "[I", true)
  | 16 => ("SixWhoTurnModel", "odds", "[I", true)
  | _ => ("SixWhoTurnModel", "table", "[J", true)
def tyX8 : Nat → FieldType := fun k => match k with
  | 0 => .array .int
  | 1 => .array .int
  | 2 => .array .int
  | 3 => .array .int
  | 4 => .array .boolean
  | 5 => .array .int
  | 6 => .array .int
  | 7 => .array .int
  | 8 => .array .int
  | 9 => .array .byte
  | 10 => .int
  | 11 => .int
  | 12 => .int
  | 13 => .int
  | 14 => .array .int
  | 15 => .array .int
  | 16 => .array .int
  | _ => .array .long
abbrev wsX80 : List Cond := u_ws RX8 TX8 18
theorem nmX8 : ∀ a, a < 18 → ∀ b, b < 18 → a ≠ b → (TX8 a).2.1 ≠ (TX8 b).2.1 := by decide +kernel
theorem tyX8_ok : ∀ k, k < 18 → parseFieldDescriptor (TX8 k).2.2.1 = some (tyX8 k) := by decide +kernel
abbrev cX8_init : ByteArray := prog_10_method_1_code
def yX8_init : MethodName := ⟨RX8, "<init>", "()V"⟩
abbrev cX8_thrown : ByteArray := prog_10_method_2_code
def yX8_thrown : MethodName := ⟨RX8, "thrown", "()I"⟩
abbrev cX8_in : ByteArray := prog_10_method_3_code
def yX8_in : MethodName := ⟨RX8, "in", "(III)Z"⟩
abbrev cX8_isTeam : ByteArray := prog_10_method_4_code
def yX8_isTeam : MethodName := ⟨RX8, "isTeam", "(I)Z"⟩
abbrev cX8_isPlayer : ByteArray := prog_10_method_5_code
def yX8_isPlayer : MethodName := ⟨RX8, "isPlayer", "(I)Z"⟩
abbrev cX8_get : ByteArray := prog_10_method_6_code
def yX8_get : MethodName := ⟨RX8, "get", "(II)I"⟩
abbrev cX8_put : ByteArray := prog_10_method_7_code
def yX8_put : MethodName := ⟨RX8, "put", "(III)V"⟩
abbrev cX8_isOn : ByteArray := prog_10_method_8_code
def yX8_isOn : MethodName := ⟨RX8, "isOn", "()Z"⟩
abbrev cX8_stand : ByteArray := prog_10_method_9_code
def yX8_stand : MethodName := ⟨RX8, "stand", "()V"⟩
abbrev cX8_skillOf : ByteArray := prog_10_method_10_code
def yX8_skillOf : MethodName := ⟨RX8, "skillOf", "(III)I"⟩
abbrev cX8_skill : ByteArray := prog_10_method_11_code
def yX8_skill : MethodName := ⟨RX8, "skill", "(IIII)I"⟩
abbrev cX8_libre : ByteArray := prog_10_method_12_code
def yX8_libre : MethodName := ⟨RX8, "libre", "(II)I"⟩
abbrev cX8_set : ByteArray := prog_10_method_13_code
def yX8_set : MethodName := ⟨RX8, "set", "(II)I"⟩
abbrev cX8_lineUp : ByteArray := prog_10_method_14_code
def yX8_lineUp : MethodName := ⟨RX8, "lineUp", "(IIIIIII)Z"⟩
abbrev cX8_hasFree : ByteArray := prog_10_method_15_code
def yX8_hasFree : MethodName := ⟨RX8, "hasFree", "(I)Z"⟩
abbrev cX8_begin : ByteArray := prog_10_method_16_code
def yX8_begin : MethodName := ⟨RX8, "begin", "(I)I"⟩
abbrev cX8_turn : ByteArray := prog_10_method_17_code
def yX8_turn : MethodName := ⟨RX8, "turn", "(I)V"⟩
abbrev cX8_isLastSet : ByteArray := prog_10_method_18_code
def yX8_isLastSet : MethodName := ⟨RX8, "isLastSet", "()Z"⟩
abbrev cX8_goal : ByteArray := prog_10_method_19_code
def yX8_goal : MethodName := ⟨RX8, "goal", "()I"⟩
abbrev cX8_wins : ByteArray := prog_10_method_20_code
def yX8_wins : MethodName := ⟨RX8, "wins", "(III)Z"⟩
abbrev cX8_point : ByteArray := prog_10_method_21_code
def yX8_point : MethodName := ⟨RX8, "point", "(I)I"⟩
abbrev cX8_rally : ByteArray := prog_10_method_22_code
def yX8_rally : MethodName := ⟨RX8, "rally", "(I)I"⟩
abbrev cX8_placeOf : ByteArray := prog_10_method_23_code
def yX8_placeOf : MethodName := ⟨RX8, "placeOf", "(II)I"⟩
abbrev cX8_mayNot : ByteArray := prog_10_method_24_code
def yX8_mayNot : MethodName := ⟨RX8, "mayNot", "(III)I"⟩
abbrev cX8_may : ByteArray := prog_10_method_25_code
def yX8_may : MethodName := ⟨RX8, "may", "(III)I"⟩
abbrev cX8_doChange : ByteArray := prog_10_method_26_code
def yX8_doChange : MethodName := ⟨RX8, "doChange", "(III)I"⟩
abbrev cX8_change : ByteArray := prog_10_method_27_code
def yX8_change : MethodName := ⟨RX8, "change", "(III)I"⟩
abbrev cX8_doFree : ByteArray := prog_10_method_28_code
def yX8_doFree : MethodName := ⟨RX8, "doFree", "(II)I"⟩
abbrev cX8_free : ByteArray := prog_10_method_29_code
def yX8_free : MethodName := ⟨RX8, "free", "(II)I"⟩
abbrev cX8_doPause : ByteArray := prog_10_method_30_code
def yX8_doPause : MethodName := ⟨RX8, "doPause", "(I)I"⟩
abbrev cX8_pause : ByteArray := prog_10_method_31_code
def yX8_pause : MethodName := ⟨RX8, "pause", "(I)I"⟩
abbrev cX8_wrong : ByteArray := prog_10_method_32_code
def yX8_wrong : MethodName := ⟨RX8, "wrong", "(I)I"⟩
abbrev cX8_at : ByteArray := prog_10_method_33_code
def yX8_at : MethodName := ⟨RX8, "at", "(II)I"⟩
abbrev cX8_of : ByteArray := prog_10_method_34_code
def yX8_of : MethodName := ⟨RX8, "of", "(II)I"⟩
abbrev cX8_count : ByteArray := prog_10_method_35_code
def yX8_count : MethodName := ⟨RX8, "count", "(I)I"⟩
abbrev cX8_served : ByteArray := prog_10_method_36_code
def yX8_served : MethodName := ⟨RX8, "served", "(II)I"⟩
abbrev cX8_feet : ByteArray := prog_10_method_37_code
def yX8_feet : MethodName := ⟨RX8, "feet", "(IIII)Z"⟩
abbrev cX8_overlap : ByteArray := prog_10_method_38_code
def yX8_overlap : MethodName := ⟨RX8, "overlap", "(I)I"⟩
abbrev cX8_sign : ByteArray := prog_10_method_39_code
def yX8_sign : MethodName := ⟨RX8, "sign", "(I)I"⟩
abbrev cX8_end : ByteArray := prog_10_method_40_code
def yX8_end : MethodName := ⟨RX8, "end", "(I)Z"⟩
abbrev cX8_playerOf : ByteArray := prog_10_method_41_code
def yX8_playerOf : MethodName := ⟨RX8, "playerOf", "(I)I"⟩
abbrev cX8_reads : ByteArray := prog_10_method_42_code
def yX8_reads : MethodName := ⟨RX8, "reads", "(II)I"⟩
abbrev cX8_doItem : ByteArray := prog_10_method_43_code
def yX8_doItem : MethodName := ⟨RX8, "doItem", "(I)Z"⟩
abbrev cX8_sheet : ByteArray := prog_10_method_44_code
def yX8_sheet : MethodName := ⟨RX8, "sheet", "()I"⟩
abbrev cX8_putAside : ByteArray := prog_10_method_45_code
def yX8_putAside : MethodName := ⟨RX8, "putAside", "()V"⟩
abbrev cX8_putBack : ByteArray := prog_10_method_46_code
def yX8_putBack : MethodName := ⟨RX8, "putBack", "()V"⟩
abbrev cX8_countNow : ByteArray := prog_10_method_47_code
def yX8_countNow : MethodName := ⟨RX8, "countNow", "()V"⟩
abbrev cX8_later : ByteArray := prog_10_method_48_code
def yX8_later : MethodName := ⟨RX8, "later", "(III)I"⟩
abbrev cX8_sum : ByteArray := prog_10_method_49_code
def yX8_sum : MethodName := ⟨RX8, "sum", "(IIIIII)I"⟩
abbrev cX8_oddsOf : ByteArray := prog_10_method_50_code
def yX8_oddsOf : MethodName := ⟨RX8, "oddsOf", "(III)I"⟩
abbrev cX8_odds : ByteArray := prog_10_method_51_code
def yX8_odds : MethodName := ⟨RX8, "odds", "(III)I"⟩
abbrev cX8_cell : ByteArray := prog_10_method_52_code
def yX8_cell : MethodName := ⟨RX8, "cell", "(IIIII)I"⟩
abbrev cX8_fill : ByteArray := prog_10_method_53_code
def yX8_fill : MethodName := ⟨RX8, "fill", "(I)V"⟩
abbrev cX8_mean : ByteArray := prog_10_method_54_code
def yX8_mean : MethodName := ⟨RX8, "mean", "(IJJ)J"⟩
abbrev cX8_now : ByteArray := prog_10_method_55_code
def yX8_now : MethodName := ⟨RX8, "now", "()I"⟩
abbrev cX8_chance : ByteArray := prog_10_method_56_code
def yX8_chance : MethodName := ⟨RX8, "chance", "()I"⟩
abbrev cX8_weight : ByteArray := prog_10_method_57_code
def yX8_weight : MethodName := ⟨RX8, "weight", "()I"⟩
abbrev cX8_turn_ : ByteArray := prog_10_method_58_code
def yX8_turn_ : MethodName := ⟨RX8, "turn", "(II)I"⟩
abbrev cX8_advice : ByteArray := prog_10_method_59_code
def yX8_advice : MethodName := ⟨RX8, "advice", "(I)I"⟩
abbrev cX8_row : ByteArray := prog_10_method_60_code
def yX8_row : MethodName := ⟨RX8, "row", "(I)I"⟩
def RJ6 : String := "java/lang/Integer"
abbrev cJ6_bitCount_0f7a4 : ByteArray := prog_12_method_49_code
def yJ6_bitCount_0f7a4 : MethodName := ⟨RJ6, "bitCount", "(I)I"⟩
def RJ9 : String := "java/lang/Math"
abbrev cJ9_floorMod_7cf53 : ByteArray := prog_13_method_50_code
def yJ9_floorMod_7cf53 : MethodName := ⟨RJ9, "floorMod", "(II)I"⟩
abbrev cJ9_max_7cf53 : ByteArray := prog_13_method_65_code
def yJ9_max_7cf53 : MethodName := ⟨RJ9, "max", "(II)I"⟩
abbrev cJ9_min_7cf53 : ByteArray := prog_13_method_69_code
def yJ9_min_7cf53 : MethodName := ⟨RJ9, "min", "(II)I"⟩
def RJ10 : String := "java/lang/System"
def RL : String := "SixWhoTurnLaw"
abbrev cL_row : ByteArray := method_3_code
def yL_row : MethodName := ⟨RL, "row", "(LSixWhoTurn;I[J)I"⟩
abbrev cL_law : ByteArray := code
def yL_law : MethodName := ⟨RL, "law", "([I)Z"⟩
end
section
/-! THE ABSTRACT MACHINE: one world of numbered cells (class, model, law), memory as functions, rows for each instruction -/
abbrev mx_Mem : Type := (Nat → Nat → Int32) × (Nat → Nat → Int64)
/-- a row of ints becomes f -/
def mR (M : mx_Mem) (k : Nat) (f : Nat → Int32) : mx_Mem := (fun a => if a = k then f else M.1 a, M.2)
/-- a row of longs becomes f -/
def mS (M : mx_Mem) (k : Nat) (f : Nat → Int64) : mx_Mem := (M.1, fun a => if a = k then f else M.2 a)
def mI (M : mx_Mem) (k j : Nat) (v : Int32) : mx_Mem := mR M k (upd (M.1 k) j v)
def mL (M : mx_Mem) (k j : Nat) (v : Int64) : mx_Mem := mS M k (vp_updL (M.2 k) j v)
/-- a cell's shape: an array by type and length; an object by class and fields (none: a number; some k: the cell k, for ever) -/
abbrev mx_Shp : Type := (FieldType × Nat) ⊕ (Nat × List (Option Nat))
def mx_court (k : Nat) : mx_Shp := .inr (2, [some (k + 1), some (k + 2), some (k + 3), some (k + 4), none, none, none, none, none, none, none, none])
def mx_arr (n : Nat) : mx_Shp := .inl (.int, n)
def mx_shL : List mx_Shp := [
  .inr (7, [some 1, some 3, some 6, some 9, some 14, some 19, some 20, some 25, some 30, some 31, some 34, some 37, some 39, none, none]),
  .inr (3, [some 2]), mx_arr 6,
  .inr (4, [some 4, some 5, none, none]), mx_arr 48, mx_arr 6,
  .inr (4, [some 7, some 8, none, none]), mx_arr 48, mx_arr 6,
  mx_court 9, mx_arr 6, mx_arr 12, mx_arr 12, mx_arr 12,
  mx_court 14, mx_arr 6, mx_arr 12, mx_arr 12, mx_arr 12,
  .inr (1, [none, none, none, none, none, none, none]),
  mx_court 20, mx_arr 6, mx_arr 12, mx_arr 12, mx_arr 12,
  mx_court 25, mx_arr 6, mx_arr 12, mx_arr 12, mx_arr 12,
  .inr (1, [none, none, none, none, none, none, none]),
  .inr (5, [some 32, some 33]), mx_arr 6, mx_arr 6,
  .inr (5, [some 35, some 36]), mx_arr 6, mx_arr 6,
  .inr (6, [some 38, none]), .inl (.char, 100),
  .inr (0, [some 40, some 41, some 42, some 43, none]), mx_arr 6, mx_arr 6, mx_arr 12, .inl (.array .int, 2), mx_arr 372, mx_arr 372,
  .inr (8, [some 47, some 48, some 49, some 50, some 51, some 52, some 53, some 54, some 55, some 56, none, none, none, none, some 57, some 58, some 59, some 60]),
  mx_arr 96, mx_arr 2, mx_arr 6, mx_arr 12, .inl (.boolean, 2), mx_arr 106, mx_arr 106, mx_arr 12, mx_arr 12, .inl (.byte, 100), mx_arr 6, mx_arr 12, mx_arr 72, .inl (.long, 69192),
  .inl (.long, 1)]
def mx_sh (k : Nat) : mx_Shp := mx_shL.getD k (mx_arr 0)
/-- the cells of the rows of Chances -/
def mx_row (j : Nat) : Nat := 44 + j
abbrev mx_cl : List vw_C := [(RX0, TX0, 5), (RX1, TX1, 7), (RX2, TX2, 12), (RX3, TX3, 1), (RX4, TX4, 4), (RX5, TX5, 2), (RX6, TX6, 2), (RX7, TX7, 15), (RX8, TX8, 18)]
/-- base, cells that are there, addresses, classes, array classes, the script -/
abbrev mx_G : Type := Nat × Nat × (Nat → Nat) × va_G × (FieldType → ClassId) × Nat × (Nat → Int32)
abbrev mx_base (G : mx_G) : Nat := G.1
abbrev mx_n (G : mx_G) : Nat := G.2.1
abbrev mx_ad (G : mx_G) : Nat → Nat := G.2.2.1
abbrev mx_D (G : mx_G) : va_G := G.2.2.2.1
abbrev mx_cA (G : mx_G) : FieldType → ClassId := G.2.2.2.2.1
abbrev mx_sN (G : mx_G) : Nat := G.2.2.2.2.2.1
abbrev mx_sX (G : mx_G) : Nat → Int32 := G.2.2.2.2.2.2
def mx_A (G : mx_G) : Nat → Prop := fun q => mx_base G ≤ q
/-- a value: its cells by address -/
def mx_c (ad : Nat → Nat) (v : Value) : Value := match v with
  | .ref k => .ref (ad k)
  | v => v
def mx_fs (ad : Nat → Nat) (f : Nat → Int32) : Nat → List (Option Nat) → List Value
  | _, [] => []
  | j, none :: r => .int (f j) :: mx_fs ad f (j + 1) r
  | j, some i :: r => .ref (ad i) :: mx_fs ad f (j + 1) r
def mx_pay (G : mx_G) (M : mx_Mem) (k : Nat) (ty : FieldType) : (Nat → Int32) ⊕ (Nat → Int64) ⊕ (Nat → UInt32) ⊕ (Nat → UInt64) ⊕ (Nat → Option Nat) := match ty with
  | .long => .inr (.inl (M.2 k))
  | .array _ => .inr (.inr (.inr (.inr (fun j => some (mx_ad G (mx_row j))))))
  | _ => .inl (M.1 k)
def mx_e (G : mx_G) (M : mx_Mem) (k : Nat) (s : mx_Shp) : va_E := match s with
  | .inl (ty, n) => .inl (mx_cA G ty, n, mx_pay G M k ty)
  | .inr (ci, fs) => .inr (ci, mx_fs (mx_ad G) (M.1 k) 0 fs)
def mx_cell (G : mx_G) (M : mx_Mem) (k : Nat) : Nat × va_E := (mx_ad G k, mx_e G M k (mx_sh k))
def mx_ws (G : mx_G) (M : mx_Mem) : va_W := (List.range (mx_n G)).map (mx_cell G M)
def mx_tys (G : mx_G) : List (ClassId × FieldType) := [(mx_cA G .int, .int), (mx_cA G .boolean, .boolean), (mx_cA G .byte, .byte), (mx_cA G .char, .char), (mx_cA G .long, .long), (mx_cA G (.array .int), .array .int)]
/-- the tables' words that a callee may have -/
def mx_gW : List Cond := lw_tbl.filter goodWord
theorem mx_in {w : Cond} (h : (goodWord w && decide (w ∈ lw_tbl)) = true) : w ∈ mx_gW := by
  simp only [Bool.and_eq_true, decide_eq_true_eq] at h
  exact List.mem_filter.mpr ⟨h.2, h.1⟩
def mx_nest : List Cond := [
  .fieldLinkNest RX2 50 RX4 "lineUp" "[I" RX7, .fieldLinkNest RX7 264 RX4 "lineUp" "[I" RX7, .fieldLinkNest RX2 59 RX4 "freeOne" "I" RX7, .fieldLinkNest RX7 106 RX4 "freeOne" "I" RX7,
  .fieldLinkNest RX7 147 RX4 "told" "Z" RX7, .fieldLinkNest RX7 347 RX2 "order" "[I" RX7, .fieldLinkNest RX7 226 RX2 "servePoints" "[I" RX7, .fieldLinkNest RX7 185 RX2 "freeOne" "I" RX7,
  .fieldLinkNest RX7 182 RX2 "freeMoved" "Z" RX7, .fieldLinkNest RX7 202 RX2 "points" "I" RX7, .fieldLinkNest RX7 208 RX2 "setsWon" "I" RX7, .fieldLinkNest RX7 169 RX2 "changesDone" "I" RX7,
  .fieldLinkNest RX7 193 RX2 "pausesDone" "I" RX7, .fieldLinkNest RX7 214 RX2 "turnsDone" "I" RX7, .fieldLinkNest RX7 109 RX1 "number" "I" RX7, .fieldLinkNest RX7 102 RX1 "on" "Z" RX7,
  .fieldLinkNest RX7 199 RX1 "serving" "I" RX7, .fieldLinkNest RX7 196 RX1 "streak" "I" RX7, .fieldLinkNest RX7 217 RX1 "rallies" "I" RX7, .fieldLinkNest RX7 223 RX1 "setWinner" "I" RX7,
  .fieldLinkNest RX7 124 RX1 "matchWinner" "I" RX7, .fieldLinkNest RX7 220 RX6 "length" "I" RX7, .fieldLinkNest RX0 41 RX7 "BEHIND" "[I" RX7, .fieldLinkNest RX0 48 RX7 "FRONT" "[I" RX7,
  .methodLinkNest RX2 55 yX7_isPlayer RX7]
/-- the static rows: cell number, class, name, contents -/
def mx_stL : List (Nat × String × String × List Int32) := [(62, RX7, "FRONT", [1, 2, 3]), (63, RX7, "BEHIND", [0, 4, 5]), (64, RX3, "LEAST", [5, 5, 5, 1, 0, 0]), (65, RX3, "MOST", [25, 30, 25, 3, 12, 4]),
  (66, RX5, "X_AT_FIRST", [800, 800, 500, 200, 200, 500]), (67, RX5, "Y_AT_FIRST", [800, 200, 200, 200, 800, 800]), (68, RX5, "LOWER", [1, 2, 3, 3, 2, 4, 5]), (69, RX5, "HIGHER", [0, 5, 4, 2, 1, 5, 0]),
  (70, RX8, "LOW", [5, 5, 5, 1, 0, 0]), (71, RX8, "HIGH", [25, 30, 25, 3, 12, 4]), (72, RX8, "AHEAD", [1, 2, 3, 3, 2, 4, 5]), (73, RX8, "BEHIND", [0, 5, 4, 2, 1, 5, 0])]
def mx_stV (l : List Int32) : Nat → Value := fun j => .int (l.getD j 0)
/-- what every state of the run knows: tables, addresses, static rows, the script -/
def mx_SC (G : mx_G) (U : State) (H : Heap) : Prop :=
  va_K (mx_D G) mx_cl (mx_tys G) U ∧ (∀ w ∈ mx_nest, va_Nw w U) ∧ (∀ i j : Nat, i < mx_n G → j < mx_n G → mx_ad G i = mx_ad G j → i = j) ∧ (∀ i : Nat, i < mx_n G → mx_base G ≤ mx_ad G i) ∧ (61 ≤ mx_n G ∧ mx_base G ≤ H.size) ∧
  (∀ q ∈ mx_stL, va_Z q.2.1 q.2.2.1 "[I" (.ref (mx_ad G q.1)) (mx_A G) U H ∧ va_T .int (mx_ad G q.1) q.2.2.2.length (mx_stV q.2.2.2) (mx_A G) U H) ∧ (va_X (mx_ad G 74) (mx_sN G) (mx_sX G) U H ∧ mx_ad G 74 < H.size ∧ ¬ mx_A G (mx_ad G 74))
abbrev mx_X : Type := Program × Launch × Env × Room × State × MethodId × Array Value × List Frame × Method × Code × (State → Prop) × Nat × Nat
/-- the locals: known ones by their values, .null where nothing is known -/
def mx_lh (G : mx_G) (ls : Array Slot) (L : List Value) : Prop := ls.size = L.length ∧ lv_wf ls ∧ ∀ (i : Nat) (v : Value), L[i]? = some v → v ≠ .null → ls[i]? = some (.val (mx_c (mx_ad G) v))
/-- THE JUDGEMENT: at pc, with locals L, stack S and memory M, the machine comes to X's end -/
def mx_WW (G : mx_G) (X : mx_X) (pc : Nat) (L S : List Value) (M : mx_Mem) : Prop := match X with
  | (p, l, e, R, s, m, args, below, meth, c, Q, cells, slots) => ∀ (H : Heap) (locs : List Loc) (ls : Array Slot), va_P (mx_D G) mx_cl (mx_ws G M) H → va_S (mx_A G) s.heap H locs → mx_lh G ls L →
    W p l e R s m args below meth c H locs cells slots Q (F0 m pc ls (S.map (mx_c (mx_ad G))))
/-- what holds of a method's frame -/
def mx_OK (G : mx_G) (X : mx_X) (own : String) (cc : ByteArray) (nL : Nat) : Prop := match X with
  | (p, _, _, _, s, m, args, _, _, c, _, _, _) => p.tables.exec = Jvm.exec ∧ c.code = cc ∧ c.maxLocals = nL ∧ s.vm.findClass own = some m.cls ∧ (∀ w ∈ mx_gW, w.before args s = true) ∧ mx_SC G s s.heap
theorem mR_ne (M : mx_Mem) {k k' : Nat} (f : Nat → Int32) (h : k' ≠ k) : (mR M k f).1 k' = M.1 k' := if_neg h
theorem mR_self (M : mx_Mem) (k : Nat) (f : Nat → Int32) : (mR M k f).1 k = f := if_pos rfl
theorem mS_ne (M : mx_Mem) {k k' : Nat} (f : Nat → Int64) (h : k' ≠ k) : (mS M k f).2 k' = M.2 k' := if_neg h
theorem mS_self (M : mx_Mem) (k : Nat) (f : Nat → Int64) : (mS M k f).2 k = f := if_pos rfl
theorem mx_pay_eq (G : mx_G) {M M' : mx_Mem} {k : Nat} (ty : FieldType) (h1 : M.1 k = M'.1 k) (h2 : M.2 k = M'.2 k) : mx_pay G M k ty = mx_pay G M' k ty := by
  unfold mx_pay
  rw [h1, h2]
theorem mx_cell_eq (G : mx_G) {M M' : mx_Mem} {k : Nat} (h1 : M.1 k = M'.1 k) (h2 : M.2 k = M'.2 k) : mx_cell G M k = mx_cell G M' k := by
  unfold mx_cell mx_e
  rcases mx_sh k with ⟨ty, n⟩ | ⟨ci, fs⟩
  · show (_, Sum.inl (_, _, mx_pay G M k ty)) = _
    rw [mx_pay_eq G ty h1 h2]
  · show (_, Sum.inr (_, mx_fs _ (M.1 k) 0 fs)) = _
    rw [h1]
theorem mx_ws_at (G : mx_G) (M : mx_Mem) {k : Nat} (h : k < mx_n G) : (mx_ws G M)[k]? = some (mx_cell G M k) := by
  unfold mx_ws
  rw [List.getElem?_map, List.getElem?_range h]
  rfl
theorem mx_ws_set (G : mx_G) (M M' : mx_Mem) {k : Nat} (h : k < mx_n G) (h1 : ∀ a, a ≠ k → M'.1 a = M.1 a) (h2 : ∀ a, a ≠ k → M'.2 a = M.2 a) : (mx_ws G M).set k (mx_cell G M' k) = mx_ws G M' := by
  apply List.ext_getElem?
  intro i
  by_cases hi : i = k
  · subst hi
    rw [List.getElem?_set_self (by simp [mx_ws]; exact h), mx_ws_at G M' h]
  · rw [List.getElem?_set_ne (Ne.symm hi)]
    by_cases hl : i < mx_n G
    · rw [mx_ws_at G M hl, mx_ws_at G M' hl, mx_cell_eq G (h1 i hi) (h2 i hi)]
    · rw [List.getElem?_eq_none (by simp [mx_ws]; omega), List.getElem?_eq_none (by simp [mx_ws]; omega)]
theorem mx_ws_len (G : mx_G) (M : mx_Mem) : (mx_ws G M).length = mx_n G := by simp [mx_ws]
theorem mx_ws_get {G : mx_G} {M : mx_Mem} {k : Nat} {q : Nat × va_E} (h : (mx_ws G M)[k]? = some q) : k < mx_n G ∧ q = mx_cell G M k := by
  have hk : k < mx_n G := by
    have := (List.getElem?_eq_some_iff.mp h).1
    rw [mx_ws_len] at this
    exact this
  rw [mx_ws_at G M hk] at h
  exact ⟨hk, (Option.some.inj h).symm⟩
theorem mx_D_of {G : mx_G} {U : State} {H : Heap} (h : mx_SC G U H) (M : mx_Mem) : va_D (mx_A G) (mx_ws G M) := by
  obtain ⟨-, -, h1, h2, -⟩ := h
  refine ⟨fun i j p q hi hj hpq => ?_, fun k q hk => ?_⟩
  · obtain ⟨a1, rfl⟩ := mx_ws_get hi
    obtain ⟨a2, rfl⟩ := mx_ws_get hj
    exact h1 i j a1 a2 hpq
  · obtain ⟨a1, rfl⟩ := mx_ws_get hk
    exact h2 k a1
theorem mx_nth {G : mx_G} {ls : Array Slot} {L : List Value} (h : mx_lh G ls L) {i : Nat} {v : Value} (hi : L[i]? = some v) (hv : v ≠ .null) : ls[i]? = some (.val (mx_c (mx_ad G) v)) := h.2.2 i v hi hv
theorem mx_cat (ad : Nat → Nat) (v : Value) : (mx_c ad v).category = v.category := by cases v <;> rfl
end
section
theorem mx_c_int (ad : Nat → Nat) (x : Int32) : mx_c ad (.int x) = .int x := rfl
theorem mx_c_long (ad : Nat → Nat) (x : Int64) : mx_c ad (.long x) = .long x := rfl
theorem mx_c_ref (ad : Nat → Nat) (x : Nat) : mx_c ad (.ref x) = .ref (ad x) := rfl
def mx_st1 (L : List Value) (i : Nat) : Bool := decide (i < L.length) && (i == 0 || (L.getD (i - 1) .null).category != 2)
def mx_st2 (L : List Value) (i : Nat) : Bool := decide (i + 1 < L.length) && (i == 0 || (L.getD (i - 1) .null).category != 2)
theorem mx_store1 {G : mx_G} {ls : Array Slot} {L : List Value} {i : Nat} {v : Value} (h : mx_lh G ls L) (hi : mx_st1 L i = true) (hc : v.category = 1) :
    ∃ ls', storeLocals ls i (mx_c (mx_ad G) v) = some ls' ∧ mx_lh G ls' (L.set i v) := by
  obtain ⟨hs, hw, hq⟩ := h
  simp only [mx_st1, Bool.and_eq_true, decide_eq_true_eq, Bool.or_eq_true, beq_iff_eq, bne_iff_ne, ne_eq] at hi
  have hc' : (mx_c (mx_ad G) v).category = 1 := by rw [mx_cat]; exact hc
  obtain ⟨ls', e', h1, h2, h3⟩ := lv_store1 (l := []) (v := mx_c (mx_ad G) v) ⟨hs, hw, fun q hq => by cases hq⟩ hi.1 hc'
  refine ⟨ls', e', by rw [List.length_set]; exact h1, h2, fun j w hj hw0 => ?_⟩
  by_cases hji : j = i
  · subst hji
    rw [List.getElem?_set_self hi.1] at hj
    cases hj
    exact h3 (j, _) List.mem_cons_self
  · rw [List.getElem?_set_ne (Ne.symm hji)] at hj
    obtain ⟨ls2, e2, -, -, h5⟩ := lv_store1 (l := [(j, mx_c (mx_ad G) w)]) (v := mx_c (mx_ad G) v) ⟨hs, hw, fun q hq2 => by
      rw [List.mem_singleton] at hq2
      subst hq2
      exact hq j w hj hw0⟩ hi.1 hc'
    cases e'.symm.trans e2
    refine h5 (j, _) (List.mem_cons_of_mem _ (List.mem_filter.mpr ⟨List.mem_singleton.mpr rfl, ?_⟩))
    simp only [Bool.and_eq_true, Bool.not_eq_true', beq_eq_false_iff_ne, ne_eq, Bool.and_eq_false_iff]
    refine ⟨hji, ?_⟩
    by_cases hj1 : j + 1 = i
    · right
      show ¬ (mx_c (mx_ad G) w).category = 2
      rw [mx_cat]
      rcases hi.2 with h0 | h0
      · omega
      · subst hj1
        have : L.getD (j + 1 - 1) .null = w := by simp [hj]
        rw [this] at h0
        exact h0
    · left
      exact hj1
theorem mx_store2 {G : mx_G} {ls : Array Slot} {L : List Value} {i : Nat} {x : Int64} (h : mx_lh G ls L) (hi : mx_st2 L i = true) :
    ∃ ls', storeLocals ls i (.long x) = some ls' ∧ mx_lh G ls' ((L.set i (.long x)).set (i + 1) .null) := by
  obtain ⟨hs, hw, hq⟩ := h
  simp only [mx_st2, Bool.and_eq_true, decide_eq_true_eq, Bool.or_eq_true, beq_iff_eq, bne_iff_ne, ne_eq] at hi
  obtain ⟨ls', e', h1, h2, h3⟩ := lv_store2 (l := []) (v := .long x) ⟨hs, hw, fun q hq => by cases hq⟩ hi.1 rfl
  refine ⟨ls', e', by rw [List.length_set, List.length_set]; exact h1, h2, fun j w hj hw0 => ?_⟩
  by_cases hj2 : j = i + 1
  · subst hj2
    rw [List.getElem?_set_self (by rw [List.length_set]; exact hi.1)] at hj
    cases hj
    exact absurd rfl hw0
  · rw [List.getElem?_set_ne (Ne.symm hj2)] at hj
    by_cases hji : j = i
    · subst hji
      rw [List.getElem?_set_self (by omega)] at hj
      cases hj
      exact h3 (j, _) List.mem_cons_self
    · rw [List.getElem?_set_ne (Ne.symm hji)] at hj
      obtain ⟨ls2, e2, -, -, h5⟩ := lv_store2 (l := [(j, mx_c (mx_ad G) w)]) (v := .long x) ⟨hs, hw, fun q hq2 => by
        rw [List.mem_singleton] at hq2
        subst hq2
        exact hq j w hj hw0⟩ hi.1 rfl
      cases e'.symm.trans e2
      refine h5 (j, _) (List.mem_cons_of_mem _ (List.mem_filter.mpr ⟨List.mem_singleton.mpr rfl, ?_⟩))
      simp only [Bool.and_eq_true, Bool.not_eq_true', beq_eq_false_iff_ne, ne_eq, Bool.and_eq_false_iff]
      refine ⟨hji, hj2, ?_⟩
      by_cases hj1 : j + 1 = i
      · right
        show ¬ (mx_c (mx_ad G) w).category = 2
        rw [mx_cat]
        rcases hi.2 with h0 | h0
        · omega
        · subst hj1
          have : L.getD (j + 1 - 1) .null = w := by simp [hj]
          rw [this] at h0
          exact h0
      · left
        exact hj1

section MXR
variable {G : mx_G} {X : mx_X} {own : String} {cc : ByteArray} {nL pc : Nat} {L S : List Value} {M : mx_Mem}

theorem r_iconst (q : Nat) (hX : mx_OK G X own cc nL) {n : Int} {v : Int32} (hd : decode cc pc = .ok (.iconst n, 1)) (hv : Int32.ofInt n = v) (kk : mx_WW G X q L (.int v :: S) M) (hq : pc + 1 = q := by rfl) : mx_WW G X pc L (S) M := by
  obtain ⟨p, l, e, R, s, m, args, below, meth, c, Q, cells, slots⟩ := X
  obtain ⟨hx, hb, hml, hown, hts, hSC⟩ := hX
  subst hq
  intro H locs ls hP hS hl
  exact lv_iconst hx hb hd hv (kk H locs ls hP hS hl)
theorem r_bipush (q : Nat) (hX : mx_OK G X own cc nL) {n : Int} {v : Int32} (hd : decode cc pc = .ok (.bipush n, 2)) (hv : (Int8.ofInt n).toInt32 = v) (kk : mx_WW G X q L (.int v :: S) M) (hq : pc + 2 = q := by rfl) : mx_WW G X pc L (S) M := by
  obtain ⟨p, l, e, R, s, m, args, below, meth, c, Q, cells, slots⟩ := X
  obtain ⟨hx, hb, hml, hown, hts, hSC⟩ := hX
  subst hq
  intro H locs ls hP hS hl
  exact lv_bipush hx hb hd hv (kk H locs ls hP hS hl)
theorem r_sipush (q : Nat) (hX : mx_OK G X own cc nL) {n : Int} {v : Int32} (hd : decode cc pc = .ok (.sipush n, 3)) (hv : (Int16.ofInt n).toInt32 = v) (kk : mx_WW G X q L (.int v :: S) M) (hq : pc + 3 = q := by rfl) : mx_WW G X pc L (S) M := by
  obtain ⟨p, l, e, R, s, m, args, below, meth, c, Q, cells, slots⟩ := X
  obtain ⟨hx, hb, hml, hown, hts, hSC⟩ := hX
  subst hq
  intro H locs ls hP hS hl
  exact lv_sipush hx hb hd hv (kk H locs ls hP hS hl)
theorem r_lconst (q : Nat) (hX : mx_OK G X own cc nL) {n : Fin 2} {v : Int64} (hd : decode cc pc = .ok (.lconst n, 1)) (hv : Int64.ofNat (n : Nat) = v) (kk : mx_WW G X q L (.long v :: S) M) (hq : pc + 1 = q := by rfl) : mx_WW G X pc L (S) M := by
  obtain ⟨p, l, e, R, s, m, args, below, meth, c, Q, cells, slots⟩ := X
  obtain ⟨hx, hb, hml, hown, hts, hSC⟩ := hX
  subst hq
  intro H locs ls hP hS hl
  exact lv_lconst hx hb hd hv (kk H locs ls hP hS hl)
theorem r_iload_n (q : Nat) (hX : mx_OK G X own cc nL) {k : Fin 4} {x : Int32} (hd : decode cc pc = .ok (.iload_n k, 1)) (hv : L[(k : Nat)]? = some (.int x)) (kk : mx_WW G X q L (.int x :: S) M) (hq : pc + 1 = q := by rfl) : mx_WW G X pc L (S) M := by
  obtain ⟨p, l, e, R, s, m, args, below, meth, c, Q, cells, slots⟩ := X
  obtain ⟨hx, hb, hml, hown, hts, hSC⟩ := hX
  subst hq
  intro H locs ls hP hS hl
  exact lv_iload_n hx hb hd rfl (mx_nth hl hv (fun h => by cases h)) (kk H locs ls hP hS hl)
theorem r_iload (q : Nat) (hX : mx_OK G X own cc nL) {k : Nat} {x : Int32} (hd : decode cc pc = .ok (.iload k, 2)) (hv : L[k]? = some (.int x)) (kk : mx_WW G X q L (.int x :: S) M) (hq : pc + 2 = q := by rfl) : mx_WW G X pc L (S) M := by
  obtain ⟨p, l, e, R, s, m, args, below, meth, c, Q, cells, slots⟩ := X
  obtain ⟨hx, hb, hml, hown, hts, hSC⟩ := hX
  subst hq
  intro H locs ls hP hS hl
  exact lv_iload hx hb hd (mx_nth hl hv (fun h => by cases h)) (kk H locs ls hP hS hl)
theorem r_lload_n (q : Nat) (hX : mx_OK G X own cc nL) {k : Fin 4} {x : Int64} (hd : decode cc pc = .ok (.lload_n k, 1)) (hv : L[(k : Nat)]? = some (.long x)) (kk : mx_WW G X q L (.long x :: S) M) (hq : pc + 1 = q := by rfl) : mx_WW G X pc L (S) M := by
  obtain ⟨p, l, e, R, s, m, args, below, meth, c, Q, cells, slots⟩ := X
  obtain ⟨hx, hb, hml, hown, hts, hSC⟩ := hX
  subst hq
  intro H locs ls hP hS hl
  exact lv_lload_n hx hb hd rfl (mx_nth hl hv (fun h => by cases h)) (kk H locs ls hP hS hl)
theorem r_lload (q : Nat) (hX : mx_OK G X own cc nL) {k : Nat} {x : Int64} (hd : decode cc pc = .ok (.lload k, 2)) (hv : L[k]? = some (.long x)) (kk : mx_WW G X q L (.long x :: S) M) (hq : pc + 2 = q := by rfl) : mx_WW G X pc L (S) M := by
  obtain ⟨p, l, e, R, s, m, args, below, meth, c, Q, cells, slots⟩ := X
  obtain ⟨hx, hb, hml, hown, hts, hSC⟩ := hX
  subst hq
  intro H locs ls hP hS hl
  exact lv_lload hx hb hd (mx_nth hl hv (fun h => by cases h)) (kk H locs ls hP hS hl)
theorem r_aload_n (q : Nat) (hX : mx_OK G X own cc nL) {k : Fin 4} {x : Nat} (hd : decode cc pc = .ok (.aload_n k, 1)) (hv : L[(k : Nat)]? = some (.ref x)) (kk : mx_WW G X q L (.ref x :: S) M) (hq : pc + 1 = q := by rfl) : mx_WW G X pc L (S) M := by
  obtain ⟨p, l, e, R, s, m, args, below, meth, c, Q, cells, slots⟩ := X
  obtain ⟨hx, hb, hml, hown, hts, hSC⟩ := hX
  subst hq
  intro H locs ls hP hS hl
  exact lv_aload_n hx hb hd rfl (mx_nth hl hv (fun h => by cases h)) (kk H locs ls hP hS hl)
theorem r_aload (q : Nat) (hX : mx_OK G X own cc nL) {k : Nat} {x : Nat} (hd : decode cc pc = .ok (.aload k, 2)) (hv : L[k]? = some (.ref x)) (kk : mx_WW G X q L (.ref x :: S) M) (hq : pc + 2 = q := by rfl) : mx_WW G X pc L (S) M := by
  obtain ⟨p, l, e, R, s, m, args, below, meth, c, Q, cells, slots⟩ := X
  obtain ⟨hx, hb, hml, hown, hts, hSC⟩ := hX
  subst hq
  intro H locs ls hP hS hl
  exact lv_aload hx hb hd (mx_nth hl hv (fun h => by cases h)) (kk H locs ls hP hS hl)
theorem r_istore_n (q : Nat) (hX : mx_OK G X own cc nL) {k : Fin 4} {x : Int32} (hd : decode cc pc = .ok (.istore_n k, 1)) (hi : mx_st1 L (k : Nat) = true) (kk : mx_WW G X q (L.set (k : Nat) (.int x)) S M) (hq : pc + 1 = q := by rfl) : mx_WW G X pc L (.int x :: S) M := by
  obtain ⟨p, l, e, R, s, m, args, below, meth, c, Q, cells, slots⟩ := X
  obtain ⟨hx, hb, hml, hown, hts, hSC⟩ := hX
  subst hq
  intro H locs ls hP hS hl
  obtain ⟨ls', e', h'⟩ := mx_store1 (v := .int x) hl hi rfl
  intro T hT X9
  obtain ⟨t, a, b⟩ := kk H locs ls' hP hS h' T hT X9
  refine ⟨t, ?_, b⟩
  try simp only [mx_c] at e'
  jvm_step X9.here [X9.here.top, ↓top_set X9.here.top, hx, hb, hd, mx_c, List.map_cons, Value.isRef, e']
  exact a
theorem r_istore (q : Nat) (hX : mx_OK G X own cc nL) {k : Nat} {x : Int32} (hd : decode cc pc = .ok (.istore k, 2)) (hi : mx_st1 L k = true) (kk : mx_WW G X q (L.set k (.int x)) S M) (hq : pc + 2 = q := by rfl) : mx_WW G X pc L (.int x :: S) M := by
  obtain ⟨p, l, e, R, s, m, args, below, meth, c, Q, cells, slots⟩ := X
  obtain ⟨hx, hb, hml, hown, hts, hSC⟩ := hX
  subst hq
  intro H locs ls hP hS hl
  obtain ⟨ls', e', h'⟩ := mx_store1 (v := .int x) hl hi rfl
  intro T hT X9
  obtain ⟨t, a, b⟩ := kk H locs ls' hP hS h' T hT X9
  refine ⟨t, ?_, b⟩
  try simp only [mx_c] at e'
  jvm_step X9.here [X9.here.top, ↓top_set X9.here.top, hx, hb, hd, mx_c, List.map_cons, Value.isRef, e']
  exact a
theorem r_astore_n (q : Nat) (hX : mx_OK G X own cc nL) {k : Fin 4} {x : Nat} (hd : decode cc pc = .ok (.astore_n k, 1)) (hi : mx_st1 L (k : Nat) = true) (kk : mx_WW G X q (L.set (k : Nat) (.ref x)) S M) (hq : pc + 1 = q := by rfl) : mx_WW G X pc L (.ref x :: S) M := by
  obtain ⟨p, l, e, R, s, m, args, below, meth, c, Q, cells, slots⟩ := X
  obtain ⟨hx, hb, hml, hown, hts, hSC⟩ := hX
  subst hq
  intro H locs ls hP hS hl
  obtain ⟨ls', e', h'⟩ := mx_store1 (v := .ref x) hl hi rfl
  intro T hT X9
  obtain ⟨t, a, b⟩ := kk H locs ls' hP hS h' T hT X9
  refine ⟨t, ?_, b⟩
  try simp only [mx_c] at e'
  jvm_step X9.here [X9.here.top, ↓top_set X9.here.top, hx, hb, hd, mx_c, List.map_cons, Value.isRef, e']
  exact a
theorem r_astore (q : Nat) (hX : mx_OK G X own cc nL) {k : Nat} {x : Nat} (hd : decode cc pc = .ok (.astore k, 2)) (hi : mx_st1 L k = true) (kk : mx_WW G X q (L.set k (.ref x)) S M) (hq : pc + 2 = q := by rfl) : mx_WW G X pc L (.ref x :: S) M := by
  obtain ⟨p, l, e, R, s, m, args, below, meth, c, Q, cells, slots⟩ := X
  obtain ⟨hx, hb, hml, hown, hts, hSC⟩ := hX
  subst hq
  intro H locs ls hP hS hl
  obtain ⟨ls', e', h'⟩ := mx_store1 (v := .ref x) hl hi rfl
  intro T hT X9
  obtain ⟨t, a, b⟩ := kk H locs ls' hP hS h' T hT X9
  refine ⟨t, ?_, b⟩
  try simp only [mx_c] at e'
  jvm_step X9.here [X9.here.top, ↓top_set X9.here.top, hx, hb, hd, mx_c, List.map_cons, Value.isRef, e']
  exact a
theorem r_lstore (q : Nat) (hX : mx_OK G X own cc nL) {k : Nat} {x : Int64} (hd : decode cc pc = .ok (.lstore k, 2)) (hi : mx_st2 L k = true) (kk : mx_WW G X q ((L.set k (.long x)).set (k + 1) .null) S M) (hq : pc + 2 = q := by rfl) : mx_WW G X pc L (.long x :: S) M := by
  obtain ⟨p, l, e, R, s, m, args, below, meth, c, Q, cells, slots⟩ := X
  obtain ⟨hx, hb, hml, hown, hts, hSC⟩ := hX
  subst hq
  intro H locs ls hP hS hl
  obtain ⟨ls', e', h'⟩ := mx_store2 (x := x) hl hi
  intro T hT X9
  obtain ⟨t, a, b⟩ := kk H locs ls' hP hS h' T hT X9
  refine ⟨t, ?_, b⟩
  try simp only [mx_c] at e'
  jvm_step X9.here [X9.here.top, ↓top_set X9.here.top, hx, hb, hd, mx_c, List.map_cons, Value.isRef, e']
  exact a
theorem r_iinc (q : Nat) (hX : mx_OK G X own cc nL) {k : Nat} {n : Int} {x : Int32} {v : Int32} (hd : decode cc pc = .ok (.iinc k n, 3)) (hv : L[k]? = some (.int x)) (hn : Int32.ofInt n = v) (hi : mx_st1 L k = true) (kk : mx_WW G X q (L.set k (.int (x + v))) S M) (hq : pc + 3 = q := by rfl) : mx_WW G X pc L S M := by
  obtain ⟨p, l, e, R, s, m, args, below, meth, c, Q, cells, slots⟩ := X
  obtain ⟨hx, hb, hml, hown, hts, hSC⟩ := hX
  subst hq
  intro H locs ls hP hS hl
  subst hn
  obtain ⟨ls', e', h'⟩ := mx_store1 (v := .int (x + Int32.ofInt n)) hl hi rfl
  have hg : ls[k]? = some (.val (.int x)) := mx_nth hl hv (fun h => by cases h)
  intro T hT X9
  obtain ⟨t, a, b⟩ := kk H locs ls' hP hS h' T hT X9
  refine ⟨t, ?_, b⟩
  try simp only [mx_c] at e'
  jvm_step X9.here [X9.here.top, ↓top_set X9.here.top, hx, hb, hd, hg, e']
  exact a
theorem r_iadd (q : Nat) (hX : mx_OK G X own cc nL) {x y : Int32} (hd : decode cc pc = .ok (.iadd, 1))  (kk : mx_WW G X q L (.int (x + y) :: S) M) (hq : pc + 1 = q := by rfl) : mx_WW G X pc L (.int y :: .int x :: S) M := by
  obtain ⟨p, l, e, R, s, m, args, below, meth, c, Q, cells, slots⟩ := X
  obtain ⟨hx, hb, hml, hown, hts, hSC⟩ := hX
  subst hq
  intro H locs ls hP hS hl
  exact lv_iadd hx hb hd (kk H locs ls hP hS hl)
theorem r_isub (q : Nat) (hX : mx_OK G X own cc nL) {x y : Int32} (hd : decode cc pc = .ok (.isub, 1))  (kk : mx_WW G X q L (.int (x - y) :: S) M) (hq : pc + 1 = q := by rfl) : mx_WW G X pc L (.int y :: .int x :: S) M := by
  obtain ⟨p, l, e, R, s, m, args, below, meth, c, Q, cells, slots⟩ := X
  obtain ⟨hx, hb, hml, hown, hts, hSC⟩ := hX
  subst hq
  intro H locs ls hP hS hl
  exact lv_isub hx hb hd (kk H locs ls hP hS hl)
theorem r_imul (q : Nat) (hX : mx_OK G X own cc nL) {x y : Int32} (hd : decode cc pc = .ok (.imul, 1))  (kk : mx_WW G X q L (.int (x * y) :: S) M) (hq : pc + 1 = q := by rfl) : mx_WW G X pc L (.int y :: .int x :: S) M := by
  obtain ⟨p, l, e, R, s, m, args, below, meth, c, Q, cells, slots⟩ := X
  obtain ⟨hx, hb, hml, hown, hts, hSC⟩ := hX
  subst hq
  intro H locs ls hP hS hl
  exact lv_imul hx hb hd (kk H locs ls hP hS hl)
theorem r_iand (q : Nat) (hX : mx_OK G X own cc nL) {x y : Int32} (hd : decode cc pc = .ok (.iand, 1))  (kk : mx_WW G X q L (.int (x &&& y) :: S) M) (hq : pc + 1 = q := by rfl) : mx_WW G X pc L (.int y :: .int x :: S) M := by
  obtain ⟨p, l, e, R, s, m, args, below, meth, c, Q, cells, slots⟩ := X
  obtain ⟨hx, hb, hml, hown, hts, hSC⟩ := hX
  subst hq
  intro H locs ls hP hS hl
  exact lv_iand hx hb hd (kk H locs ls hP hS hl)
theorem r_ior (q : Nat) (hX : mx_OK G X own cc nL) {x y : Int32} (hd : decode cc pc = .ok (.ior, 1))  (kk : mx_WW G X q L (.int (x ||| y) :: S) M) (hq : pc + 1 = q := by rfl) : mx_WW G X pc L (.int y :: .int x :: S) M := by
  obtain ⟨p, l, e, R, s, m, args, below, meth, c, Q, cells, slots⟩ := X
  obtain ⟨hx, hb, hml, hown, hts, hSC⟩ := hX
  subst hq
  intro H locs ls hP hS hl
  exact lv_ior hx hb hd (kk H locs ls hP hS hl)
theorem r_ishl (q : Nat) (hX : mx_OK G X own cc nL) {x y : Int32} (hd : decode cc pc = .ok (.ishl, 1))  (kk : mx_WW G X q L (.int (x <<< (y &&& 31)) :: S) M) (hq : pc + 1 = q := by rfl) : mx_WW G X pc L (.int y :: .int x :: S) M := by
  obtain ⟨p, l, e, R, s, m, args, below, meth, c, Q, cells, slots⟩ := X
  obtain ⟨hx, hb, hml, hown, hts, hSC⟩ := hX
  subst hq
  intro H locs ls hP hS hl
  exact lv_ishl hx hb hd (kk H locs ls hP hS hl)
theorem r_ishr (q : Nat) (hX : mx_OK G X own cc nL) {x y : Int32} (hd : decode cc pc = .ok (.ishr, 1))  (kk : mx_WW G X q L (.int (x >>> (y &&& 31)) :: S) M) (hq : pc + 1 = q := by rfl) : mx_WW G X pc L (.int y :: .int x :: S) M := by
  obtain ⟨p, l, e, R, s, m, args, below, meth, c, Q, cells, slots⟩ := X
  obtain ⟨hx, hb, hml, hown, hts, hSC⟩ := hX
  subst hq
  intro H locs ls hP hS hl
  exact lv_ishr hx hb hd (kk H locs ls hP hS hl)
theorem r_idiv (q : Nat) (hX : mx_OK G X own cc nL) {x y : Int32} (hd : decode cc pc = .ok (.idiv, 1)) (hne : ¬ y = 0) (kk : mx_WW G X q L (.int (x / y) :: S) M) (hq : pc + 1 = q := by rfl) : mx_WW G X pc L (.int y :: .int x :: S) M := by
  obtain ⟨p, l, e, R, s, m, args, below, meth, c, Q, cells, slots⟩ := X
  obtain ⟨hx, hb, hml, hown, hts, hSC⟩ := hX
  subst hq
  intro H locs ls hP hS hl
  exact lv_idiv hx hb hd hne (kk H locs ls hP hS hl)
theorem r_irem (q : Nat) (hX : mx_OK G X own cc nL) {x y : Int32} (hd : decode cc pc = .ok (.irem, 1)) (hne : ¬ y = 0) (kk : mx_WW G X q L (.int (x - x / y * y) :: S) M) (hq : pc + 1 = q := by rfl) : mx_WW G X pc L (.int y :: .int x :: S) M := by
  obtain ⟨p, l, e, R, s, m, args, below, meth, c, Q, cells, slots⟩ := X
  obtain ⟨hx, hb, hml, hown, hts, hSC⟩ := hX
  subst hq
  intro H locs ls hP hS hl
  exact lv_irem hx hb hd hne (kk H locs ls hP hS hl)
theorem r_iushr (q : Nat) (hX : mx_OK G X own cc nL) {x y : Int32} (hd : decode cc pc = .ok (.iushr, 1))  (kk : mx_WW G X q L (.int ((x.toUInt32 >>> (y.toUInt32 &&& Int32.toUInt32 31)).toInt32) :: S) M) (hq : pc + 1 = q := by rfl) : mx_WW G X pc L (.int y :: .int x :: S) M := by
  obtain ⟨p, l, e, R, s, m, args, below, meth, c, Q, cells, slots⟩ := X
  obtain ⟨hx, hb, hml, hown, hts, hSC⟩ := hX
  subst hq
  intro H locs ls hP hS hl
  exact lv_iushr hx hb hd rfl (kk H locs ls hP hS hl)
theorem r_ladd (q : Nat) (hX : mx_OK G X own cc nL) {x y : Int64} (hd : decode cc pc = .ok (.ladd, 1))  (kk : mx_WW G X q L (.long (x + y) :: S) M) (hq : pc + 1 = q := by rfl) : mx_WW G X pc L (.long y :: .long x :: S) M := by
  obtain ⟨p, l, e, R, s, m, args, below, meth, c, Q, cells, slots⟩ := X
  obtain ⟨hx, hb, hml, hown, hts, hSC⟩ := hX
  subst hq
  intro H locs ls hP hS hl
  exact lv_ladd hx hb hd (kk H locs ls hP hS hl)
theorem r_lsub (q : Nat) (hX : mx_OK G X own cc nL) {x y : Int64} (hd : decode cc pc = .ok (.lsub, 1))  (kk : mx_WW G X q L (.long (x - y) :: S) M) (hq : pc + 1 = q := by rfl) : mx_WW G X pc L (.long y :: .long x :: S) M := by
  obtain ⟨p, l, e, R, s, m, args, below, meth, c, Q, cells, slots⟩ := X
  obtain ⟨hx, hb, hml, hown, hts, hSC⟩ := hX
  subst hq
  intro H locs ls hP hS hl
  exact lv_lsub hx hb hd (kk H locs ls hP hS hl)
theorem r_lmul (q : Nat) (hX : mx_OK G X own cc nL) {x y : Int64} (hd : decode cc pc = .ok (.lmul, 1))  (kk : mx_WW G X q L (.long (x * y) :: S) M) (hq : pc + 1 = q := by rfl) : mx_WW G X pc L (.long y :: .long x :: S) M := by
  obtain ⟨p, l, e, R, s, m, args, below, meth, c, Q, cells, slots⟩ := X
  obtain ⟨hx, hb, hml, hown, hts, hSC⟩ := hX
  subst hq
  intro H locs ls hP hS hl
  exact lv_lmul hx hb hd (kk H locs ls hP hS hl)
theorem r_ldiv (q : Nat) (hX : mx_OK G X own cc nL) {x y : Int64} (hd : decode cc pc = .ok (.ldiv, 1)) (hne : ¬ y = 0) (kk : mx_WW G X q L (.long (x / y) :: S) M) (hq : pc + 1 = q := by rfl) : mx_WW G X pc L (.long y :: .long x :: S) M := by
  obtain ⟨p, l, e, R, s, m, args, below, meth, c, Q, cells, slots⟩ := X
  obtain ⟨hx, hb, hml, hown, hts, hSC⟩ := hX
  subst hq
  intro H locs ls hP hS hl
  exact lv_ldiv hx hb hd hne (kk H locs ls hP hS hl)
theorem r_lcmp (q : Nat) (hX : mx_OK G X own cc nL) {x y : Int64} (hd : decode cc pc = .ok (.lcmp, 1))  (kk : mx_WW G X q L (.int (lg_cmp x y) :: S) M) (hq : pc + 1 = q := by rfl) : mx_WW G X pc L (.long y :: .long x :: S) M := by
  obtain ⟨p, l, e, R, s, m, args, below, meth, c, Q, cells, slots⟩ := X
  obtain ⟨hx, hb, hml, hown, hts, hSC⟩ := hX
  subst hq
  intro H locs ls hP hS hl
  exact W.lcmp hx hb hd (kk H locs ls hP hS hl)
theorem r_i2l (q : Nat) (hX : mx_OK G X own cc nL) {x : Int32} (hd : decode cc pc = .ok (.i2l, 1))  (kk : mx_WW G X q L (.long x.toInt64 :: S) M) (hq : pc + 1 = q := by rfl) : mx_WW G X pc L (.int x :: S) M := by
  obtain ⟨p, l, e, R, s, m, args, below, meth, c, Q, cells, slots⟩ := X
  obtain ⟨hx, hb, hml, hown, hts, hSC⟩ := hX
  subst hq
  intro H locs ls hP hS hl
  exact lv_i2l hx hb hd rfl (kk H locs ls hP hS hl)
theorem r_l2i (q : Nat) (hX : mx_OK G X own cc nL) {x : Int64} (hd : decode cc pc = .ok (.l2i, 1))  (kk : mx_WW G X q L (.int x.toInt32 :: S) M) (hq : pc + 1 = q := by rfl) : mx_WW G X pc L (.long x :: S) M := by
  obtain ⟨p, l, e, R, s, m, args, below, meth, c, Q, cells, slots⟩ := X
  obtain ⟨hx, hb, hml, hown, hts, hSC⟩ := hX
  subst hq
  intro H locs ls hP hS hl
  exact lv_l2i hx hb hd rfl (kk H locs ls hP hS hl)
theorem r_i2c (q : Nat) (hX : mx_OK G X own cc nL) {x : Int32} (hd : decode cc pc = .ok (.i2c, 1))  (kk : mx_WW G X q L (.int (x.toUInt32 % 65536).toInt32 :: S) M) (hq : pc + 1 = q := by rfl) : mx_WW G X pc L (.int x :: S) M := by
  obtain ⟨p, l, e, R, s, m, args, below, meth, c, Q, cells, slots⟩ := X
  obtain ⟨hx, hb, hml, hown, hts, hSC⟩ := hX
  subst hq
  intro H locs ls hP hS hl
  exact lv_i2c hx hb hd rfl (kk H locs ls hP hS hl)
theorem r_i2b (q : Nat) (hX : mx_OK G X own cc nL) {x : Int32} (hd : decode cc pc = .ok (.i2b, 1))  (kk : mx_WW G X q L (.int x.toInt8.toInt32 :: S) M) (hq : pc + 1 = q := by rfl) : mx_WW G X pc L (.int x :: S) M := by
  obtain ⟨p, l, e, R, s, m, args, below, meth, c, Q, cells, slots⟩ := X
  obtain ⟨hx, hb, hml, hown, hts, hSC⟩ := hX
  subst hq
  intro H locs ls hP hS hl
  exact lv_i2b hx hb hd rfl (kk H locs ls hP hS hl)
theorem r_dup (q : Nat) (hX : mx_OK G X own cc nL) {a : Value} (hd : decode cc pc = .ok (.dup, 1)) (ha : a.category = 1) (kk : mx_WW G X q L (a :: a :: S) M) (hq : pc + 1 = q := by rfl) : mx_WW G X pc L (a :: S) M := by
  obtain ⟨p, l, e, R, s, m, args, below, meth, c, Q, cells, slots⟩ := X
  obtain ⟨hx, hb, hml, hown, hts, hSC⟩ := hX
  subst hq
  intro H locs ls hP hS hl
  exact lv_dup hx hb hd (by rw [mx_cat]; exact ha) (kk H locs ls hP hS hl)
theorem r_dup_x1 (q : Nat) (hX : mx_OK G X own cc nL) {a b : Value} (hd : decode cc pc = .ok (.dup_x1, 1)) (ha : a.category = 1) (hb2 : b.category = 1) (kk : mx_WW G X q L (a :: b :: a :: S) M) (hq : pc + 1 = q := by rfl) : mx_WW G X pc L (a :: b :: S) M := by
  obtain ⟨p, l, e, R, s, m, args, below, meth, c, Q, cells, slots⟩ := X
  obtain ⟨hx, hb, hml, hown, hts, hSC⟩ := hX
  subst hq
  intro H locs ls hP hS hl
  exact lv_dup_x1 hx hb hd (by rw [mx_cat]; exact ha) (by rw [mx_cat]; exact hb2) (kk H locs ls hP hS hl)
theorem r_dup2 (q : Nat) (hX : mx_OK G X own cc nL) {a b : Value} (hd : decode cc pc = .ok (.dup2, 1)) (ha : a.category = 1) (hb2 : b.category = 1) (kk : mx_WW G X q L (a :: b :: a :: b :: S) M) (hq : pc + 1 = q := by rfl) : mx_WW G X pc L (a :: b :: S) M := by
  obtain ⟨p, l, e, R, s, m, args, below, meth, c, Q, cells, slots⟩ := X
  obtain ⟨hx, hb, hml, hown, hts, hSC⟩ := hX
  subst hq
  intro H locs ls hP hS hl
  exact lv_dup2_11 hx hb hd (by rw [mx_cat]; exact ha) (by rw [mx_cat]; exact hb2) (kk H locs ls hP hS hl)
theorem r_pop (q : Nat) (hX : mx_OK G X own cc nL) {a : Value} (hd : decode cc pc = .ok (.pop, 1)) (ha : a.category = 1) (kk : mx_WW G X q L (S) M) (hq : pc + 1 = q := by rfl) : mx_WW G X pc L (a :: S) M := by
  obtain ⟨p, l, e, R, s, m, args, below, meth, c, Q, cells, slots⟩ := X
  obtain ⟨hx, hb, hml, hown, hts, hSC⟩ := hX
  subst hq
  intro H locs ls hP hS hl
  exact lv_pop hx hb hd (by rw [mx_cat]; exact ha) (kk H locs ls hP hS hl)
theorem r_if_eq (q t : Nat) (hX : mx_OK G X own cc nL) {x : Int32} {off : Int} (hd : decode cc pc = .ok (.ifCond .eq off, 3)) (kt : x = 0 → mx_WW G X t L S M) (kf : ¬ x = 0 → mx_WW G X q L S M) (ht : (pc : Int) + off = (t : Int) := by decide) (hq : pc + 3 = q := by rfl) : mx_WW G X pc L (.int x :: S) M := by
  obtain ⟨p, l, e, R, s, m, args, below, meth, c, Q, cells, slots⟩ := X
  obtain ⟨hx, hb, hml, hown, hts, hSC⟩ := hX
  subst hq
  intro H locs ls hP hS hl
  exact lv_if_eq hx hb hd ht (fun h => kt h H locs ls hP hS hl) (fun h => kf h H locs ls hP hS hl)
theorem r_icmp_eq (q t : Nat) (hX : mx_OK G X own cc nL) {x y : Int32} {off : Int} (hd : decode cc pc = .ok (.if_icmp .eq off, 3)) (kt : x = y → mx_WW G X t L S M) (kf : ¬ x = y → mx_WW G X q L S M) (ht : (pc : Int) + off = (t : Int) := by decide) (hq : pc + 3 = q := by rfl) : mx_WW G X pc L (.int y :: .int x :: S) M := by
  obtain ⟨p, l, e, R, s, m, args, below, meth, c, Q, cells, slots⟩ := X
  obtain ⟨hx, hb, hml, hown, hts, hSC⟩ := hX
  subst hq
  intro H locs ls hP hS hl
  exact lv_icmp_eq hx hb hd ht (fun h => kt h H locs ls hP hS hl) (fun h => kf h H locs ls hP hS hl)
theorem r_if_ne (q t : Nat) (hX : mx_OK G X own cc nL) {x : Int32} {off : Int} (hd : decode cc pc = .ok (.ifCond .ne off, 3)) (kt : ¬ x = 0 → mx_WW G X t L S M) (kf : x = 0 → mx_WW G X q L S M) (ht : (pc : Int) + off = (t : Int) := by decide) (hq : pc + 3 = q := by rfl) : mx_WW G X pc L (.int x :: S) M := by
  obtain ⟨p, l, e, R, s, m, args, below, meth, c, Q, cells, slots⟩ := X
  obtain ⟨hx, hb, hml, hown, hts, hSC⟩ := hX
  subst hq
  intro H locs ls hP hS hl
  exact lv_if_ne hx hb hd ht (fun h => kt h H locs ls hP hS hl) (fun h => kf h H locs ls hP hS hl)
theorem r_icmp_ne (q t : Nat) (hX : mx_OK G X own cc nL) {x y : Int32} {off : Int} (hd : decode cc pc = .ok (.if_icmp .ne off, 3)) (kt : ¬ x = y → mx_WW G X t L S M) (kf : x = y → mx_WW G X q L S M) (ht : (pc : Int) + off = (t : Int) := by decide) (hq : pc + 3 = q := by rfl) : mx_WW G X pc L (.int y :: .int x :: S) M := by
  obtain ⟨p, l, e, R, s, m, args, below, meth, c, Q, cells, slots⟩ := X
  obtain ⟨hx, hb, hml, hown, hts, hSC⟩ := hX
  subst hq
  intro H locs ls hP hS hl
  exact lv_icmp_ne hx hb hd ht (fun h => kt h H locs ls hP hS hl) (fun h => kf h H locs ls hP hS hl)
theorem r_if_lt (q t : Nat) (hX : mx_OK G X own cc nL) {x : Int32} {off : Int} (hd : decode cc pc = .ok (.ifCond .lt off, 3)) (kt : x < 0 → mx_WW G X t L S M) (kf : ¬ x < 0 → mx_WW G X q L S M) (ht : (pc : Int) + off = (t : Int) := by decide) (hq : pc + 3 = q := by rfl) : mx_WW G X pc L (.int x :: S) M := by
  obtain ⟨p, l, e, R, s, m, args, below, meth, c, Q, cells, slots⟩ := X
  obtain ⟨hx, hb, hml, hown, hts, hSC⟩ := hX
  subst hq
  intro H locs ls hP hS hl
  exact lv_if_lt hx hb hd ht (fun h => kt h H locs ls hP hS hl) (fun h => kf h H locs ls hP hS hl)
theorem r_icmp_lt (q t : Nat) (hX : mx_OK G X own cc nL) {x y : Int32} {off : Int} (hd : decode cc pc = .ok (.if_icmp .lt off, 3)) (kt : x < y → mx_WW G X t L S M) (kf : ¬ x < y → mx_WW G X q L S M) (ht : (pc : Int) + off = (t : Int) := by decide) (hq : pc + 3 = q := by rfl) : mx_WW G X pc L (.int y :: .int x :: S) M := by
  obtain ⟨p, l, e, R, s, m, args, below, meth, c, Q, cells, slots⟩ := X
  obtain ⟨hx, hb, hml, hown, hts, hSC⟩ := hX
  subst hq
  intro H locs ls hP hS hl
  exact lv_icmp_lt hx hb hd ht (fun h => kt h H locs ls hP hS hl) (fun h => kf h H locs ls hP hS hl)
theorem r_if_ge (q t : Nat) (hX : mx_OK G X own cc nL) {x : Int32} {off : Int} (hd : decode cc pc = .ok (.ifCond .ge off, 3)) (kt : 0 ≤ x → mx_WW G X t L S M) (kf : ¬ 0 ≤ x → mx_WW G X q L S M) (ht : (pc : Int) + off = (t : Int) := by decide) (hq : pc + 3 = q := by rfl) : mx_WW G X pc L (.int x :: S) M := by
  obtain ⟨p, l, e, R, s, m, args, below, meth, c, Q, cells, slots⟩ := X
  obtain ⟨hx, hb, hml, hown, hts, hSC⟩ := hX
  subst hq
  intro H locs ls hP hS hl
  exact lv_if_ge hx hb hd ht (fun h => kt h H locs ls hP hS hl) (fun h => kf h H locs ls hP hS hl)
theorem r_icmp_ge (q t : Nat) (hX : mx_OK G X own cc nL) {x y : Int32} {off : Int} (hd : decode cc pc = .ok (.if_icmp .ge off, 3)) (kt : y ≤ x → mx_WW G X t L S M) (kf : ¬ y ≤ x → mx_WW G X q L S M) (ht : (pc : Int) + off = (t : Int) := by decide) (hq : pc + 3 = q := by rfl) : mx_WW G X pc L (.int y :: .int x :: S) M := by
  obtain ⟨p, l, e, R, s, m, args, below, meth, c, Q, cells, slots⟩ := X
  obtain ⟨hx, hb, hml, hown, hts, hSC⟩ := hX
  subst hq
  intro H locs ls hP hS hl
  exact lv_icmp_ge hx hb hd ht (fun h => kt h H locs ls hP hS hl) (fun h => kf h H locs ls hP hS hl)
theorem r_if_gt (q t : Nat) (hX : mx_OK G X own cc nL) {x : Int32} {off : Int} (hd : decode cc pc = .ok (.ifCond .gt off, 3)) (kt : 0 < x → mx_WW G X t L S M) (kf : ¬ 0 < x → mx_WW G X q L S M) (ht : (pc : Int) + off = (t : Int) := by decide) (hq : pc + 3 = q := by rfl) : mx_WW G X pc L (.int x :: S) M := by
  obtain ⟨p, l, e, R, s, m, args, below, meth, c, Q, cells, slots⟩ := X
  obtain ⟨hx, hb, hml, hown, hts, hSC⟩ := hX
  subst hq
  intro H locs ls hP hS hl
  exact lv_if_gt hx hb hd ht (fun h => kt h H locs ls hP hS hl) (fun h => kf h H locs ls hP hS hl)
theorem r_icmp_gt (q t : Nat) (hX : mx_OK G X own cc nL) {x y : Int32} {off : Int} (hd : decode cc pc = .ok (.if_icmp .gt off, 3)) (kt : y < x → mx_WW G X t L S M) (kf : ¬ y < x → mx_WW G X q L S M) (ht : (pc : Int) + off = (t : Int) := by decide) (hq : pc + 3 = q := by rfl) : mx_WW G X pc L (.int y :: .int x :: S) M := by
  obtain ⟨p, l, e, R, s, m, args, below, meth, c, Q, cells, slots⟩ := X
  obtain ⟨hx, hb, hml, hown, hts, hSC⟩ := hX
  subst hq
  intro H locs ls hP hS hl
  exact lv_icmp_gt hx hb hd ht (fun h => kt h H locs ls hP hS hl) (fun h => kf h H locs ls hP hS hl)
theorem r_if_le (q t : Nat) (hX : mx_OK G X own cc nL) {x : Int32} {off : Int} (hd : decode cc pc = .ok (.ifCond .le off, 3)) (kt : x ≤ 0 → mx_WW G X t L S M) (kf : ¬ x ≤ 0 → mx_WW G X q L S M) (ht : (pc : Int) + off = (t : Int) := by decide) (hq : pc + 3 = q := by rfl) : mx_WW G X pc L (.int x :: S) M := by
  obtain ⟨p, l, e, R, s, m, args, below, meth, c, Q, cells, slots⟩ := X
  obtain ⟨hx, hb, hml, hown, hts, hSC⟩ := hX
  subst hq
  intro H locs ls hP hS hl
  exact lv_if_le hx hb hd ht (fun h => kt h H locs ls hP hS hl) (fun h => kf h H locs ls hP hS hl)
theorem r_icmp_le (q t : Nat) (hX : mx_OK G X own cc nL) {x y : Int32} {off : Int} (hd : decode cc pc = .ok (.if_icmp .le off, 3)) (kt : x ≤ y → mx_WW G X t L S M) (kf : ¬ x ≤ y → mx_WW G X q L S M) (ht : (pc : Int) + off = (t : Int) := by decide) (hq : pc + 3 = q := by rfl) : mx_WW G X pc L (.int y :: .int x :: S) M := by
  obtain ⟨p, l, e, R, s, m, args, below, meth, c, Q, cells, slots⟩ := X
  obtain ⟨hx, hb, hml, hown, hts, hSC⟩ := hX
  subst hq
  intro H locs ls hP hS hl
  exact lv_icmp_le hx hb hd ht (fun h => kt h H locs ls hP hS hl) (fun h => kf h H locs ls hP hS hl)
theorem r_goto (t : Nat) (hX : mx_OK G X own cc nL) {off : Int} (hd : decode cc pc = .ok (.goto off, 3)) (kk : mx_WW G X t L S M) (ht : (pc : Int) + off = (t : Int) := by decide) : mx_WW G X pc L S M := by
  obtain ⟨p, l, e, R, s, m, args, below, meth, c, Q, cells, slots⟩ := X
  obtain ⟨hx, hb, hml, hown, hts, hSC⟩ := hX
  intro H locs ls hP hS hl
  exact lv_goto hx hb hd ht (kk H locs ls hP hS hl)
theorem r_tableOut (t : Nat) (hX : mx_OK G X own cc nL) {dflt lo hi : Int} {offs : Array Int} {len : Nat} {x : Int32} (hd : decode cc pc = .ok (.tableswitch dflt lo hi offs, len)) (h : x.toInt < lo ∨ hi < x.toInt) (kk : mx_WW G X t L S M) (ht : (pc : Int) + dflt = (t : Int) := by decide) : mx_WW G X pc L (.int x :: S) M := by
  obtain ⟨p, l, e, R, s, m, args, below, meth, c, Q, cells, slots⟩ := X
  obtain ⟨hx, hb, hml, hown, hts, hSC⟩ := hX
  intro H locs ls hP hS hl
  exact lv_tableOut hx hb hd h ht (kk H locs ls hP hS hl)
theorem r_tableIn (t : Nat) (hX : mx_OK G X own cc nL) {dflt lo hi : Int} {offs : Array Int} {len : Nat} {x : Int32} {off : Int} (hd : decode cc pc = .ok (.tableswitch dflt lo hi offs, len)) (h1 : ¬ x.toInt < lo) (h2 : ¬ hi < x.toInt) (ho : offs[(x.toInt - lo).toNat]? = some off) (kk : mx_WW G X t L S M) (ht : (pc : Int) + off = (t : Int) := by decide) : mx_WW G X pc L (.int x :: S) M := by
  obtain ⟨p, l, e, R, s, m, args, below, meth, c, Q, cells, slots⟩ := X
  obtain ⟨hx, hb, hml, hown, hts, hSC⟩ := hX
  intro H locs ls hP hS hl
  exact lv_tableIn hx hb hd h1 h2 ho ht (kk H locs ls hP hS hl)
theorem r_ldc (q : Nat) (hX : mx_OK G X own cc nL) {i : Nat} {v : Int32} (hd : decode cc pc = .ok (.ldc i, 2)) (hc : Cond.constant own i v ∈ mx_gW) (kk : mx_WW G X q L (.int v :: S) M) (hq : pc + 2 = q := by rfl) : mx_WW G X pc L (S) M := by
  obtain ⟨p, l, e, R, s, m, args, below, meth, c, Q, cells, slots⟩ := X
  obtain ⟨hx, hb, hml, hown, hts, hSC⟩ := hX
  subst hq
  intro H locs ls hP hS hl
  exact lv_ldc hx hb hown (hts _ hc) hd (kk H locs ls hP hS hl)
theorem r_ldcw (q : Nat) (hX : mx_OK G X own cc nL) {i : Nat} {v : Int32} (hd : decode cc pc = .ok (.ldc_w i, 3)) (hc : Cond.constant own i v ∈ mx_gW) (kk : mx_WW G X q L (.int v :: S) M) (hq : pc + 3 = q := by rfl) : mx_WW G X pc L (S) M := by
  obtain ⟨p, l, e, R, s, m, args, below, meth, c, Q, cells, slots⟩ := X
  obtain ⟨hx, hb, hml, hown, hts, hSC⟩ := hX
  subst hq
  intro H locs ls hP hS hl
  exact lv_ldcw hx hb hown (hts _ hc) hd (kk H locs ls hP hS hl)
theorem r_ldc2 (q : Nat) (hX : mx_OK G X own cc nL) {i : Nat} {v : Int64} (hd : decode cc pc = .ok (.ldc2_w i, 3)) (hc : Cond.constantLong own i v ∈ mx_gW) (kk : mx_WW G X q L (.long v :: S) M) (hq : pc + 3 = q := by rfl) : mx_WW G X pc L (S) M := by
  obtain ⟨p, l, e, R, s, m, args, below, meth, c, Q, cells, slots⟩ := X
  obtain ⟨hx, hb, hml, hown, hts, hSC⟩ := hX
  subst hq
  intro H locs ls hP hS hl
  exact lv_ldc2 hx hb hown (hts _ hc) hd (kk H locs ls hP hS hl)
end MXR
end
section
def mx_ck (ci : Nat) (C : String) (T : u_T) (N : Nat) : Prop := mx_cl[ci]? = some (C, T, N) ∧ (∀ w ∈ u_ws C T N, w ∈ mx_gW) ∧ (∃ ty0 : Nat → FieldType, ∀ k, k < N → parseFieldDescriptor (T k).2.2.1 = some (ty0 k)) ∧ ∀ a, a < N → ∀ b, b < N → a ≠ b → (T a).2.1 ≠ (T b).2.1
theorem mx_sub {ws : List Cond} (h : ws.all (fun w => goodWord w && decide (w ∈ lw_tbl)) = true) : ∀ w ∈ ws, w ∈ mx_gW := fun w hw => mx_in (List.all_eq_true.mp h w hw)
theorem mx_ck0 : mx_ck 0 RX0 TX0 5 := ⟨rfl, mx_sub (by decide +kernel), ⟨tyX0, tyX0_ok⟩, nmX0⟩
theorem mx_ck1 : mx_ck 1 RX1 TX1 7 := ⟨rfl, mx_sub (by decide +kernel), ⟨tyX1, tyX1_ok⟩, nmX1⟩
theorem mx_ck2 : mx_ck 2 RX2 TX2 12 := ⟨rfl, mx_sub (by decide +kernel), ⟨tyX2, tyX2_ok⟩, nmX2⟩
theorem mx_ck3 : mx_ck 3 RX3 TX3 1 := ⟨rfl, mx_sub (by decide +kernel), ⟨tyX3, tyX3_ok⟩, nmX3⟩
theorem mx_ck4 : mx_ck 4 RX4 TX4 4 := ⟨rfl, mx_sub (by decide +kernel), ⟨tyX4, tyX4_ok⟩, nmX4⟩
theorem mx_ck5 : mx_ck 5 RX5 TX5 2 := ⟨rfl, mx_sub (by decide +kernel), ⟨tyX5, tyX5_ok⟩, nmX5⟩
theorem mx_ck6 : mx_ck 6 RX6 TX6 2 := ⟨rfl, mx_sub (by decide +kernel), ⟨tyX6, tyX6_ok⟩, nmX6⟩
theorem mx_ck7 : mx_ck 7 RX7 TX7 15 := ⟨rfl, mx_sub (by decide +kernel), ⟨tyX7, tyX7_ok⟩, nmX7⟩
theorem mx_ck8 : mx_ck 8 RX8 TX8 18 := ⟨rfl, mx_sub (by decide +kernel), ⟨tyX8, tyX8_ok⟩, nmX8⟩
/-- entry idx of class own's pool is field j of class ci -/
def mx_fl (own : String) (idx ci j : Nat) : Prop := ∃ (C : String) (T : u_T) (N : Nat), mx_ck ci C T N ∧ j < N ∧ (Cond.fieldLink own idx (T j).1 (T j).2.1 (T j).2.2.1 ∈ mx_gW ∨ Cond.fieldLinkNest own idx (T j).1 (T j).2.1 (T j).2.2.1 RX7 ∈ mx_nest)
/-- field j of class ci may be written, its type is ty -/
def mx_fp (ci j : Nat) (ty : FieldType) : Prop := ∀ (C : String) (T : u_T) (N : Nat), mx_cl[ci]? = some (C, T, N) → (T j).2.2.2 = false ∧ parseFieldDescriptor (T j).2.2.1 = some ty
theorem mx_fs_i {ad : Nat → Nat} {f : Nat → Int32} : ∀ (fs : List (Option Nat)) (i j : Nat), fs[j]? = some none → (mx_fs ad f i fs)[j]? = some (.int (f (i + j)))
  | [], i, j, h => by simp at h
  | none :: r, i, 0, h => rfl
  | some a :: r, i, 0, h => by simp at h
  | none :: r, i, j + 1, h => by
    have := mx_fs_i (ad := ad) (f := f) r (i + 1) j (by simpa using h)
    rw [show i + (j + 1) = i + 1 + j by omega]
    simpa [mx_fs] using this
  | some a :: r, i, j + 1, h => by
    have := mx_fs_i (ad := ad) (f := f) r (i + 1) j (by simpa using h)
    rw [show i + (j + 1) = i + 1 + j by omega]
    simpa [mx_fs] using this
theorem mx_fs_r {ad : Nat → Nat} {f : Nat → Int32} {k : Nat} : ∀ (fs : List (Option Nat)) (i j : Nat), fs[j]? = some (some k) → (mx_fs ad f i fs)[j]? = some (.ref (ad k))
  | [], i, j, h => by simp at h
  | none :: r, i, 0, h => by simp at h
  | some a :: r, i, 0, h => by
    simp at h
    subst h
    rfl
  | none :: r, i, j + 1, h => by
    have := mx_fs_r (ad := ad) (f := f) (k := k) r (i + 1) j (by simpa using h)
    simpa [mx_fs] using this
  | some a :: r, i, j + 1, h => by
    have := mx_fs_r (ad := ad) (f := f) (k := k) r (i + 1) j (by simpa using h)
    simpa [mx_fs] using this
theorem mx_fs_same {ad : Nat → Nat} {f g : Nat → Int32} : ∀ (fs : List (Option Nat)) (i : Nat), (∀ a, i ≤ a → f a = g a) → mx_fs ad f i fs = mx_fs ad g i fs
  | [], i, h => rfl
  | none :: r, i, h => by
    simp only [mx_fs]
    rw [h i (Nat.le_refl i), mx_fs_same r (i + 1) (fun a ha => h a (by omega))]
  | some a :: r, i, h => by
    simp only [mx_fs]
    rw [mx_fs_same r (i + 1) (fun a ha => h a (by omega))]
theorem mx_fs_set {ad : Nat → Nat} {f : Nat → Int32} {v : Int32} : ∀ (fs : List (Option Nat)) (i j : Nat), fs[j]? = some none → (mx_fs ad f i fs).set j (.int v) = mx_fs ad (upd f (i + j) v) i fs
  | [], i, j, h => by simp at h
  | none :: r, i, 0, h => by
    simp only [mx_fs, List.set_cons_zero, Nat.add_zero]
    rw [mx_fs_same r (i + 1) (f := f) (g := upd f i v) (fun a ha => by simp [upd]; omega)]
    simp [upd]
  | some a :: r, i, 0, h => by simp at h
  | none :: r, i, j + 1, h => by
    have := mx_fs_set (ad := ad) (f := f) (v := v) r (i + 1) j (by simpa using h)
    simp only [mx_fs, List.set_cons_succ]
    rw [this, show i + 1 + j = i + (j + 1) by omega]
    simp [upd, show ¬ i = i + (j + 1) by omega]
  | some a :: r, i, j + 1, h => by
    have := mx_fs_set (ad := ad) (f := f) (v := v) r (i + 1) j (by simpa using h)
    simp only [mx_fs, List.set_cons_succ]
    rw [this, show i + 1 + j = i + (j + 1) by omega]
theorem mx_fs_len {ad : Nat → Nat} {f : Nat → Int32} : ∀ (fs : List (Option Nat)) (i : Nat), (mx_fs ad f i fs).length = fs.length
  | [], i => rfl
  | none :: r, i => by simp [mx_fs, mx_fs_len r (i + 1)]
  | some a :: r, i => by simp [mx_fs, mx_fs_len r (i + 1)]
theorem mx_lt {G : mx_G} {U : State} {H : Heap} (h : mx_SC G U H) {k : Nat} (hk : Nat.blt k 61 = true) : k < mx_n G := by
  have h1 : k < 61 := by simpa [Nat.blt_eq] using hk
  obtain ⟨-, -, -, -, ⟨h2, -⟩, -⟩ := h
  omega
theorem mx_obj {G : mx_G} {M : mx_Mem} {k ci : Nat} {fs : List (Option Nat)} (hk : k < mx_n G) (hs : mx_sh k = .inr (ci, fs)) : (mx_ws G M)[k]? = some (mx_ad G k, .inr (ci, mx_fs (mx_ad G) (M.1 k) 0 fs)) := by
  rw [mx_ws_at G M hk, mx_cell, hs]
  rfl
theorem mx_ar {G : mx_G} {M : mx_Mem} {k n : Nat} {ty : FieldType} (hk : k < mx_n G) (hs : mx_sh k = .inl (ty, n)) : (mx_ws G M)[k]? = some (mx_ad G k, .inl (mx_cA G ty, n, mx_pay G M k ty)) := by
  rw [mx_ws_at G M hk, mx_cell, hs]
  rfl
theorem mx_setI {G : mx_G} {M : mx_Mem} {k j ci : Nat} {v : Int32} {fs : List (Option Nat)} (hk : k < mx_n G) (hs : mx_sh k = .inr (ci, fs)) (hj : fs[j]? = some none) : (mx_ws G M).set k (mx_ad G k, .inr (ci, (mx_fs (mx_ad G) (M.1 k) 0 fs).set j (.int v))) = mx_ws G (mI M k j v) := by
  rw [← mx_ws_set G M (mI M k j v) hk (fun a ha => mR_ne M _ ha) (fun a ha => rfl)]
  rw [mx_cell, hs, mx_fs_set fs 0 j hj, Nat.zero_add]
  show _ = List.set _ k (_, Sum.inr (ci, mx_fs _ ((mI M k j v).1 k) 0 fs))
  rw [mI, mR_self]
theorem mx_setA {G : mx_G} {M : mx_Mem} {k n : Nat} {ty : FieldType} {f : Nat → Int32} (hk : k < mx_n G) (hs : mx_sh k = .inl (ty, n)) (hp : mx_pay G (mR M k f) k ty = .inl ((mR M k f).1 k)) : (mx_ws G M).set k (mx_ad G k, .inl (mx_cA G ty, n, .inl f)) = mx_ws G (mR M k f) := by
  rw [← mx_ws_set G M (mR M k f) hk (fun a ha => mR_ne M _ ha) (fun a ha => rfl)]
  rw [mx_cell, hs]
  show _ = List.set _ k (_, Sum.inl (_, n, mx_pay G (mR M k f) k ty))
  rw [hp, mR_self]
theorem mx_setL {G : mx_G} {M : mx_Mem} {k n : Nat} {f : Nat → Int64} (hk : k < mx_n G) (hs : mx_sh k = .inl (.long, n)) : (mx_ws G M).set k (mx_ad G k, .inl (mx_cA G .long, n, .inr (.inl f))) = mx_ws G (mS M k f) := by
  rw [← mx_ws_set G M (mS M k f) hk (fun a ha => rfl) (fun a ha => mS_ne M _ ha)]
  rw [mx_cell, hs]
  show _ = List.set _ k (_, Sum.inl (_, n, Sum.inr (Sum.inl ((mS M k f).2 k))))
  rw [mS_self]
section MXH
variable {G : mx_G} {X : mx_X} {own : String} {cc : ByteArray} {nL pc : Nat} {L S : List Value} {M : mx_Mem}

theorem r_getI (q : Nat) (hX : mx_OK G X own cc nL) {i ci j k : Nat} {fs : List (Option Nat)} (hd : decode cc pc = .ok (.getfield i, 3)) (hf : mx_fl own i ci j) (hs : mx_sh k = .inr (ci, fs)) (hj : fs[j]? = some none) (hk : Nat.blt k 61 = true) (kk : mx_WW G X q L (.int (M.1 k j) :: S) M) (hq : pc + 3 = q := by rfl) : mx_WW G X pc L (.ref k :: S) M := by
  obtain ⟨p, l, e, R, s, m, args, below, meth, c, Q, cells, slots⟩ := X
  obtain ⟨hx, hb, hml, hown, hts, hSC⟩ := hX
  subst hq
  intro H locs ls hP hS hl
  obtain ⟨C, T, N, ⟨c1, c2, -, -⟩, h2, h3⟩ := hf
  have hg := mx_fs_i (ad := mx_ad G) (f := M.1 k) fs 0 j hj
  rw [Nat.zero_add] at hg
  rcases h3 with h3 | h3
  · exact va_get hx hb hts c2 hown hSC.1 hP k (mx_obj (mx_lt hSC hk) hs) c1 j h2 (hts _ h3) (fun _ h => h) hg hd (kk H locs ls hP hS hl)
  · exact va_getN hx hb hts c2 hown hSC.1 hP k (mx_obj (mx_lt hSC hk) hs) c1 j h2 (va_Nw.use rfl (hSC.2.1 _ h3)) (fun _ h => h) hg hd (kk H locs ls hP hS hl)
theorem r_getR (q : Nat) (hX : mx_OK G X own cc nL) {i ci j k a : Nat} {fs : List (Option Nat)} (hd : decode cc pc = .ok (.getfield i, 3)) (hf : mx_fl own i ci j) (hs : mx_sh k = .inr (ci, fs)) (hj : fs[j]? = some (some a)) (hk : Nat.blt k 61 = true) (kk : mx_WW G X q L (.ref a :: S) M) (hq : pc + 3 = q := by rfl) : mx_WW G X pc L (.ref k :: S) M := by
  obtain ⟨p, l, e, R, s, m, args, below, meth, c, Q, cells, slots⟩ := X
  obtain ⟨hx, hb, hml, hown, hts, hSC⟩ := hX
  subst hq
  intro H locs ls hP hS hl
  obtain ⟨C, T, N, ⟨c1, c2, -, -⟩, h2, h3⟩ := hf
  have hg := mx_fs_r (ad := mx_ad G) (f := M.1 k) fs 0 j hj
  rcases h3 with h3 | h3
  · exact va_get hx hb hts c2 hown hSC.1 hP k (mx_obj (mx_lt hSC hk) hs) c1 j h2 (hts _ h3) (fun _ h => h) hg hd (kk H locs ls hP hS hl)
  · exact va_getN hx hb hts c2 hown hSC.1 hP k (mx_obj (mx_lt hSC hk) hs) c1 j h2 (va_Nw.use rfl (hSC.2.1 _ h3)) (fun _ h => h) hg hd (kk H locs ls hP hS hl)
theorem r_put (q : Nat) (hX : mx_OK G X own cc nL) {i ci j k : Nat} {fs : List (Option Nat)} {v : Int32} {ty : FieldType} (hd : decode cc pc = .ok (.putfield i, 3)) (hf : mx_fl own i ci j) (hp : mx_fp ci j ty) (hs : mx_sh k = .inr (ci, fs)) (hj : fs[j]? = some none) (hk : Nat.blt k 61 = true) (hn : narrow ty (.int v) = .int v) (hfit : fits ty (.int v) = true) (kk : mx_WW G X q L S (mI M k j v)) (hq : pc + 3 = q := by rfl) : mx_WW G X pc L (.int v :: .ref k :: S) M := by
  obtain ⟨p, l, e, R, s, m, args, below, meth, c, Q, cells, slots⟩ := X
  obtain ⟨hx, hb, hml, hown, hts, hSC⟩ := hX
  subst hq
  intro H locs ls hP hS hl
  obtain ⟨C, T, N, ⟨c1, c2, ⟨ty0, c3⟩, c4⟩, h2, h3⟩ := hf
  obtain ⟨p1, p2⟩ := hp C T N c1
  have hlen : j < (mx_fs (mx_ad G) (M.1 k) 0 fs).length := by
    rw [mx_fs_len]
    exact (List.getElem?_eq_some_iff.mp hj).1
  have hD := mx_D_of hSC M
  rcases h3 with h3 | h3
  · refine va_put hx hb hts c2 ty0 c3 c4 hown hSC.1 hP hD hS k (mx_obj (mx_lt hSC hk) hs) c1 j h2 (hts _ h3) (fun _ h => h) p1 p2 hn hfit hlen hd (fun H1 locs1 g1 g2 g3 => ?_)
    rw [mx_c_int, mx_setI (mx_lt hSC hk) hs hj] at g1
    exact kk H1 locs1 ls g1 g3 hl
  · refine va_putN hx hb hts c2 ty0 c3 c4 hown hSC.1 hP hD hS k (mx_obj (mx_lt hSC hk) hs) c1 j h2 (va_Nw.use rfl (hSC.2.1 _ h3)) (fun _ h => h) p1 p2 hn hfit hlen hd (fun H1 locs1 g1 g2 g3 => ?_)
    rw [mx_c_int, mx_setI (mx_lt hSC hk) hs hj] at g1
    exact kk H1 locs1 ls g1 g3 hl
theorem r_putI (q : Nat) (hX : mx_OK G X own cc nL) {i ci j k : Nat} {fs : List (Option Nat)} {v : Int32} (hd : decode cc pc = .ok (.putfield i, 3)) (hf : mx_fl own i ci j) (hp : mx_fp ci j .int) (hs : mx_sh k = .inr (ci, fs)) (hj : fs[j]? = some none) (hk : Nat.blt k 61 = true) (kk : mx_WW G X q L S (mI M k j v)) (hq : pc + 3 = q := by rfl) : mx_WW G X pc L (.int v :: .ref k :: S) M :=
  r_put q hX hd hf hp hs hj hk rfl rfl kk hq
theorem mx_zn {v : Int32} (h : v = 0 ∨ v = 1) : narrow .boolean (.int v) = .int v ∧ fits .boolean (.int v) = true := by
  rcases h with rfl | rfl <;> exact ⟨by decide, by decide⟩
theorem r_putZ (q : Nat) (hX : mx_OK G X own cc nL) {i ci j k : Nat} {fs : List (Option Nat)} {v : Int32} (hd : decode cc pc = .ok (.putfield i, 3)) (hf : mx_fl own i ci j) (hp : mx_fp ci j .boolean) (hs : mx_sh k = .inr (ci, fs)) (hj : fs[j]? = some none) (hk : Nat.blt k 61 = true) (hv : v = 0 ∨ v = 1) (kk : mx_WW G X q L S (mI M k j v)) (hq : pc + 3 = q := by rfl) : mx_WW G X pc L (.int v :: .ref k :: S) M :=
  r_put q hX hd hf hp hs hj hk (mx_zn hv).1 (mx_zn hv).2 kk hq
theorem r_iald (q : Nat) (hX : mx_OK G X own cc nL) {k n : Nat} {i : Int32} (hd : decode cc pc = .ok (.iaload, 1)) (hs : mx_sh k = .inl (.int, n)) (hk : Nat.blt k 61 = true) (hi : vp_in i n) (kk : mx_WW G X q L (.int (M.1 k i.toNatClampNeg) :: S) M) (hq : pc + 1 = q := by rfl) : mx_WW G X pc L (.int i :: .ref k :: S) M := by
  obtain ⟨p, l, e, R, s, m, args, below, meth, c, Q, cells, slots⟩ := X
  obtain ⟨hx, hb, hml, hown, hts, hSC⟩ := hX
  subst hq
  intro H locs ls hP hS hl
  exact va_iald hx hb hSC.1 hP k 0 (mx_ar (mx_lt hSC hk) hs) rfl hi hd (kk H locs ls hP hS hl)
theorem r_zald (q : Nat) (hX : mx_OK G X own cc nL) {k n : Nat} {i : Int32} (hd : decode cc pc = .ok (.baload, 1)) (hs : mx_sh k = .inl (.boolean, n)) (hk : Nat.blt k 61 = true) (hi : vp_in i n) (kk : mx_WW G X q L (.int (M.1 k i.toNatClampNeg) :: S) M) (hq : pc + 1 = q := by rfl) : mx_WW G X pc L (.int i :: .ref k :: S) M := by
  obtain ⟨p, l, e, R, s, m, args, below, meth, c, Q, cells, slots⟩ := X
  obtain ⟨hx, hb, hml, hown, hts, hSC⟩ := hX
  subst hq
  intro H locs ls hP hS hl
  exact va_zald hx hb hSC.1 hP k 1 (mx_ar (mx_lt hSC hk) hs) rfl hi hd (kk H locs ls hP hS hl)
theorem r_bald (q : Nat) (hX : mx_OK G X own cc nL) {k n : Nat} {i : Int32} (hd : decode cc pc = .ok (.baload, 1)) (hs : mx_sh k = .inl (.byte, n)) (hk : Nat.blt k 61 = true) (hi : vp_in i n) (kk : mx_WW G X q L (.int (M.1 k i.toNatClampNeg) :: S) M) (hq : pc + 1 = q := by rfl) : mx_WW G X pc L (.int i :: .ref k :: S) M := by
  obtain ⟨p, l, e, R, s, m, args, below, meth, c, Q, cells, slots⟩ := X
  obtain ⟨hx, hb, hml, hown, hts, hSC⟩ := hX
  subst hq
  intro H locs ls hP hS hl
  exact va_bald hx hb hSC.1 hP k 2 (mx_ar (mx_lt hSC hk) hs) rfl hi hd (kk H locs ls hP hS hl)
theorem r_cald (q : Nat) (hX : mx_OK G X own cc nL) {k n : Nat} {i : Int32} (hd : decode cc pc = .ok (.caload, 1)) (hs : mx_sh k = .inl (.char, n)) (hk : Nat.blt k 61 = true) (hi : vp_in i n) (kk : mx_WW G X q L (.int (M.1 k i.toNatClampNeg) :: S) M) (hq : pc + 1 = q := by rfl) : mx_WW G X pc L (.int i :: .ref k :: S) M := by
  obtain ⟨p, l, e, R, s, m, args, below, meth, c, Q, cells, slots⟩ := X
  obtain ⟨hx, hb, hml, hown, hts, hSC⟩ := hX
  subst hq
  intro H locs ls hP hS hl
  exact va_cald hx hb hSC.1 hP k 3 (mx_ar (mx_lt hSC hk) hs) rfl hi hd (kk H locs ls hP hS hl)
theorem r_lald (q : Nat) (hX : mx_OK G X own cc nL) {k n : Nat} {i : Int32} (hd : decode cc pc = .ok (.laload, 1)) (hs : mx_sh k = .inl (.long, n)) (hk : Nat.blt k 61 = true) (hi : vp_in i n) (kk : mx_WW G X q L (.long (M.2 k i.toNatClampNeg) :: S) M) (hq : pc + 1 = q := by rfl) : mx_WW G X pc L (.int i :: .ref k :: S) M := by
  obtain ⟨p, l, e, R, s, m, args, below, meth, c, Q, cells, slots⟩ := X
  obtain ⟨hx, hb, hml, hown, hts, hSC⟩ := hX
  subst hq
  intro H locs ls hP hS hl
  exact va_lald hx hb hSC.1 hP k 4 (mx_ar (mx_lt hSC hk) hs) rfl hi hd (kk H locs ls hP hS hl)
theorem r_iast (q : Nat) (hX : mx_OK G X own cc nL) {k n : Nat} {i x : Int32} (hd : decode cc pc = .ok (.iastore, 1)) (hs : mx_sh k = .inl (.int, n)) (hk : Nat.blt k 61 = true) (hi : vp_in i n) (kk : mx_WW G X q L S (mI M k i.toNatClampNeg x)) (hq : pc + 1 = q := by rfl) : mx_WW G X pc L (.int x :: .int i :: .ref k :: S) M := by
  obtain ⟨p, l, e, R, s, m, args, below, meth, c, Q, cells, slots⟩ := X
  obtain ⟨hx, hb, hml, hown, hts, hSC⟩ := hX
  subst hq
  intro H locs ls hP hS hl
  refine va_iast hx hb hSC.1 hP (mx_D_of hSC M) hS k 0 (mx_ar (mx_lt hSC hk) hs) rfl hi hd (fun H1 locs1 g1 g2 g3 => ?_)
  rw [mx_setA (mx_lt hSC hk) hs rfl] at g1
  exact kk H1 locs1 ls g1 g3 hl
theorem r_zast (q : Nat) (hX : mx_OK G X own cc nL) {k n : Nat} {i x : Int32} (hd : decode cc pc = .ok (.bastore, 1)) (hs : mx_sh k = .inl (.boolean, n)) (hk : Nat.blt k 61 = true) (hi : vp_in i n) (kk : mx_WW G X q L S (mI M k i.toNatClampNeg (vp_nar .boolean x))) (hq : pc + 1 = q := by rfl) : mx_WW G X pc L (.int x :: .int i :: .ref k :: S) M := by
  obtain ⟨p, l, e, R, s, m, args, below, meth, c, Q, cells, slots⟩ := X
  obtain ⟨hx, hb, hml, hown, hts, hSC⟩ := hX
  subst hq
  intro H locs ls hP hS hl
  refine va_zast hx hb hSC.1 hP (mx_D_of hSC M) hS k 1 (mx_ar (mx_lt hSC hk) hs) rfl hi hd (fun H1 locs1 g1 g2 g3 => ?_)
  rw [mx_setA (mx_lt hSC hk) hs rfl] at g1
  exact kk H1 locs1 ls g1 g3 hl
theorem r_bast (q : Nat) (hX : mx_OK G X own cc nL) {k n : Nat} {i x : Int32} (hd : decode cc pc = .ok (.bastore, 1)) (hs : mx_sh k = .inl (.byte, n)) (hk : Nat.blt k 61 = true) (hi : vp_in i n) (kk : mx_WW G X q L S (mI M k i.toNatClampNeg (vp_nar .byte x))) (hq : pc + 1 = q := by rfl) : mx_WW G X pc L (.int x :: .int i :: .ref k :: S) M := by
  obtain ⟨p, l, e, R, s, m, args, below, meth, c, Q, cells, slots⟩ := X
  obtain ⟨hx, hb, hml, hown, hts, hSC⟩ := hX
  subst hq
  intro H locs ls hP hS hl
  refine va_bast hx hb hSC.1 hP (mx_D_of hSC M) hS k 2 (mx_ar (mx_lt hSC hk) hs) rfl hi hd (fun H1 locs1 g1 g2 g3 => ?_)
  rw [mx_setA (mx_lt hSC hk) hs rfl] at g1
  exact kk H1 locs1 ls g1 g3 hl
theorem r_cast (q : Nat) (hX : mx_OK G X own cc nL) {k n : Nat} {i x : Int32} (hd : decode cc pc = .ok (.castore, 1)) (hs : mx_sh k = .inl (.char, n)) (hk : Nat.blt k 61 = true) (hi : vp_in i n) (kk : mx_WW G X q L S (mI M k i.toNatClampNeg (vp_nar .char x))) (hq : pc + 1 = q := by rfl) : mx_WW G X pc L (.int x :: .int i :: .ref k :: S) M := by
  obtain ⟨p, l, e, R, s, m, args, below, meth, c, Q, cells, slots⟩ := X
  obtain ⟨hx, hb, hml, hown, hts, hSC⟩ := hX
  subst hq
  intro H locs ls hP hS hl
  refine va_cast hx hb hSC.1 hP (mx_D_of hSC M) hS k 3 (mx_ar (mx_lt hSC hk) hs) rfl hi hd (fun H1 locs1 g1 g2 g3 => ?_)
  rw [mx_setA (mx_lt hSC hk) hs rfl] at g1
  exact kk H1 locs1 ls g1 g3 hl
theorem r_last (q : Nat) (hX : mx_OK G X own cc nL) {k n : Nat} {i : Int32} {x : Int64} (hd : decode cc pc = .ok (.lastore, 1)) (hs : mx_sh k = .inl (.long, n)) (hk : Nat.blt k 61 = true) (hi : vp_in i n) (kk : mx_WW G X q L S (mL M k i.toNatClampNeg x)) (hq : pc + 1 = q := by rfl) : mx_WW G X pc L (.long x :: .int i :: .ref k :: S) M := by
  obtain ⟨p, l, e, R, s, m, args, below, meth, c, Q, cells, slots⟩ := X
  obtain ⟨hx, hb, hml, hown, hts, hSC⟩ := hX
  subst hq
  intro H locs ls hP hS hl
  refine va_last hx hb hSC.1 hP (mx_D_of hSC M) hS k 4 (mx_ar (mx_lt hSC hk) hs) rfl hi hd (fun H1 locs1 g1 g2 g3 => ?_)
  rw [mx_setL (mx_lt hSC hk) hs] at g1
  exact kk H1 locs1 ls g1 g3 hl
theorem r_aald (q : Nat) (hX : mx_OK G X own cc nL) {k n : Nat} {i : Int32} (hd : decode cc pc = .ok (.aaload, 1)) (hs : mx_sh k = .inl (.array .int, n)) (hk : Nat.blt k 61 = true) (hi : vp_in i n) (kk : mx_WW G X q L (.ref (mx_row i.toNatClampNeg) :: S) M) (hq : pc + 1 = q := by rfl) : mx_WW G X pc L (.int i :: .ref k :: S) M := by
  obtain ⟨p, l, e, R, s, m, args, below, meth, c, Q, cells, slots⟩ := X
  obtain ⟨hx, hb, hml, hown, hts, hSC⟩ := hX
  subst hq
  intro H locs ls hP hS hl
  have ha := mx_ar (M := M) (mx_lt hSC hk) hs
  have hlt : i.toNatClampNeg < n := Nat.not_le.mp fun q => hi (Or.inr q)
  exact W.aald (v := .ref (mx_ad G (mx_row i.toNatClampNeg))) (ty := .array .int) hx hb (hP k _ ha) ((hSC.1.2 5 _ rfl).1 n (fun j => va_rf (some (mx_ad G (mx_row j))))) rfl (fun q => by cases q) (by show ¬ (i < 0 ∨ (arrV _ _ _).slots.size ≤ _); rw [arrV_size]; exact hi) (by show (arrV _ _ _).slots[_]? = _; rw [arrV_read _ _ hlt]; rfl) rfl rfl hd (kk H locs ls hP hS hl)
theorem r_alen (q : Nat) (hX : mx_OK G X own cc nL) {k n : Nat} {v : Int32} (hd : decode cc pc = .ok (.arraylength, 1)) (hs : mx_sh k = .inl (.int, n)) (hk : Nat.blt k 61 = true) (hv : Int32.ofNat n = v) (kk : mx_WW G X q L (.int v :: S) M) (hq : pc + 1 = q := by rfl) : mx_WW G X pc L (.ref k :: S) M := by
  obtain ⟨p, l, e, R, s, m, args, below, meth, c, Q, cells, slots⟩ := X
  obtain ⟨hx, hb, hml, hown, hts, hSC⟩ := hX
  subst hq
  intro H locs ls hP hS hl
  exact va_alen hx hb hSC.1 hP k 0 (mx_ar (mx_lt hSC hk) hs) rfl hv hd (kk H locs ls hP hS hl)
/-- a static row: which, its link -/
def mx_sl (own : String) (idx i : Nat) : Prop := ∃ q, mx_stL[i]? = some q ∧ q.1 = 62 + i ∧ (Cond.fieldLink own idx q.2.1 q.2.2.1 "[I" ∈ mx_gW ∨ Cond.fieldLinkNest own idx q.2.1 q.2.2.1 "[I" RX7 ∈ mx_nest)
theorem r_gets (q : Nat) (hX : mx_OK G X own cc nL) {idx i : Nat} (hd : decode cc pc = .ok (.getstatic idx, 3)) (hf : mx_sl own idx i) (kk : mx_WW G X q L (.ref (62 + i) :: S) M) (hq : pc + 3 = q := by rfl) : mx_WW G X pc L S M := by
  obtain ⟨p, l, e, R, s, m, args, below, meth, c, Q, cells, slots⟩ := X
  obtain ⟨hx, hb, hml, hown, hts, hSC⟩ := hX
  subst hq
  intro H locs ls hP hS hl
  obtain ⟨z, hz, hz1, hf⟩ := hf
  obtain ⟨h1, h2⟩ := hSC.2.2.2.2.2.1 z (List.mem_of_getElem? hz)
  rw [hz1] at h1
  rcases hf with hf | hf
  · exact va_gets hx hb h1 hS hown (hts _ hf) (fun _ h => h) hd (kk H locs ls hP hS hl)
  · exact va_getsN hx hb h1 hS hown (va_Nw.use rfl (hSC.2.1 _ hf)) (fun _ h => h) hd (kk H locs ls hP hS hl)
theorem r_tald (q : Nat) (hX : mx_OK G X own cc nL) {k j : Nat} {i : Int32} {C n9 : String} {l9 : List Int32} (hd : decode cc pc = .ok (.iaload, 1)) (hs : mx_stL[j]? = some (k, C, n9, l9)) (hi : vp_in i l9.length) (kk : mx_WW G X q L (.int (l9.getD i.toNatClampNeg 0) :: S) M) (hq : pc + 1 = q := by rfl) : mx_WW G X pc L (.int i :: .ref k :: S) M := by
  obtain ⟨p, l, e, R, s, m, args, below, meth, c, Q, cells, slots⟩ := X
  obtain ⟨hx, hb, hml, hown, hts, hSC⟩ := hX
  subst hq
  intro H locs ls hP hS hl
  obtain ⟨h1, h2⟩ := hSC.2.2.2.2.2.1 _ (List.mem_of_getElem? hs)
  exact va_ti hx hb h2 hS hi rfl hd (kk H locs ls hP hS hl)
theorem r_tlen (q : Nat) (hX : mx_OK G X own cc nL) {k j : Nat} {v : Int32} {C n9 : String} {l9 : List Int32} (hd : decode cc pc = .ok (.arraylength, 1)) (hs : mx_stL[j]? = some (k, C, n9, l9)) (hv : Int32.ofNat l9.length = v) (kk : mx_WW G X q L (.int v :: S) M) (hq : pc + 1 = q := by rfl) : mx_WW G X pc L (.ref k :: S) M := by
  obtain ⟨p, l, e, R, s, m, args, below, meth, c, Q, cells, slots⟩ := X
  obtain ⟨hx, hb, hml, hown, hts, hSC⟩ := hX
  subst hq
  intro H locs ls hP hS hl
  obtain ⟨h1, h2⟩ := hSC.2.2.2.2.2.1 _ (List.mem_of_getElem? hs)
  exact va_tlen hx hb h2 hS hv hd (kk H locs ls hP hS hl)
theorem r_sald (q : Nat) (hX : mx_OK G X own cc nL) {i : Int32} (hd : decode cc pc = .ok (.iaload, 1)) (hi : vp_in i (mx_sN G)) (kk : mx_WW G X q L (.int (mx_sX G i.toNatClampNeg) :: S) M) (hq : pc + 1 = q := by rfl) : mx_WW G X pc L (.int i :: .ref 74 :: S) M := by
  obtain ⟨p, l, e, R, s, m, args, below, meth, c, Q, cells, slots⟩ := X
  obtain ⟨hx, hb, hml, hown, hts, hSC⟩ := hX
  subst hq
  intro H locs ls hP hS hl
  obtain ⟨h1, h2, h3⟩ := hSC.2.2.2.2.2.2
  exact va_sld hx hb h1 h2 h3 hS hi hd (kk H locs ls hP hS hl)
theorem r_slen (q : Nat) (hX : mx_OK G X own cc nL) (hd : decode cc pc = .ok (.arraylength, 1)) (kk : mx_WW G X q L (.int (Int32.ofNat (mx_sN G)) :: S) M) (hq : pc + 1 = q := by rfl) : mx_WW G X pc L (.ref 74 :: S) M := by
  obtain ⟨p, l, e, R, s, m, args, below, meth, c, Q, cells, slots⟩ := X
  obtain ⟨hx, hb, hml, hown, hts, hSC⟩ := hX
  subst hq
  intro H locs ls hP hS hl
  obtain ⟨h1, h2, h3⟩ := hSC.2.2.2.2.2.2
  exact va_slen hx hb h1 h2 h3 hS hd (kk H locs ls hP hS hl)
end MXH
/-! contracts -/
theorem mx_nest_form : ∀ w ∈ mx_nest, (∃ a i b n d h, w = .fieldLinkNest a i b n d h) ∨ ∃ a i x h, w = .methodLinkNest a i x h := by
  refine List.forall_mem_cons.mpr ⟨Or.inl ⟨_, _, _, _, _, _, rfl⟩, List.forall_mem_cons.mpr ⟨Or.inl ⟨_, _, _, _, _, _, rfl⟩, List.forall_mem_cons.mpr ⟨Or.inl ⟨_, _, _, _, _, _, rfl⟩, List.forall_mem_cons.mpr ⟨Or.inl ⟨_, _, _, _, _, _, rfl⟩, List.forall_mem_cons.mpr ⟨Or.inl ⟨_, _, _, _, _, _, rfl⟩, List.forall_mem_cons.mpr ⟨Or.inl ⟨_, _, _, _, _, _, rfl⟩, List.forall_mem_cons.mpr ⟨Or.inl ⟨_, _, _, _, _, _, rfl⟩, List.forall_mem_cons.mpr ⟨Or.inl ⟨_, _, _, _, _, _, rfl⟩, List.forall_mem_cons.mpr ⟨Or.inl ⟨_, _, _, _, _, _, rfl⟩, List.forall_mem_cons.mpr ⟨Or.inl ⟨_, _, _, _, _, _, rfl⟩, List.forall_mem_cons.mpr ⟨Or.inl ⟨_, _, _, _, _, _, rfl⟩, List.forall_mem_cons.mpr ⟨Or.inl ⟨_, _, _, _, _, _, rfl⟩, List.forall_mem_cons.mpr ⟨Or.inl ⟨_, _, _, _, _, _, rfl⟩, List.forall_mem_cons.mpr ⟨Or.inl ⟨_, _, _, _, _, _, rfl⟩, List.forall_mem_cons.mpr ⟨Or.inl ⟨_, _, _, _, _, _, rfl⟩, List.forall_mem_cons.mpr ⟨Or.inl ⟨_, _, _, _, _, _, rfl⟩, List.forall_mem_cons.mpr ⟨Or.inl ⟨_, _, _, _, _, _, rfl⟩, List.forall_mem_cons.mpr ⟨Or.inl ⟨_, _, _, _, _, _, rfl⟩, List.forall_mem_cons.mpr ⟨Or.inl ⟨_, _, _, _, _, _, rfl⟩, List.forall_mem_cons.mpr ⟨Or.inl ⟨_, _, _, _, _, _, rfl⟩, List.forall_mem_cons.mpr ⟨Or.inl ⟨_, _, _, _, _, _, rfl⟩, List.forall_mem_cons.mpr ⟨Or.inl ⟨_, _, _, _, _, _, rfl⟩, List.forall_mem_cons.mpr ⟨Or.inl ⟨_, _, _, _, _, _, rfl⟩, List.forall_mem_cons.mpr ⟨Or.inl ⟨_, _, _, _, _, _, rfl⟩, List.forall_mem_cons.mpr ⟨Or.inr ⟨_, _, _, _, rfl⟩, fun _ h => absurd h List.not_mem_nil⟩⟩⟩⟩⟩⟩⟩⟩⟩⟩⟩⟩⟩⟩⟩⟩⟩⟩⟩⟩⟩⟩⟩⟩⟩
theorem mx_nest_same {u U : State} (h : u.vm = U.vm) (hN : ∀ w ∈ mx_nest, va_Nw w u) : ∀ w ∈ mx_nest, va_Nw w U := by
  intro w hw
  have h1 := hN w hw
  rcases mx_nest_form w hw with ⟨a, i, b, n, d, h9, rfl⟩ | ⟨a, i, x, h9, rfl⟩
  · exact va_Nw.same rfl h h1
  · exact va_Nw.same rfl h h1
theorem mx_nest_warm {s U : State} (hW : s.WarmedH U.vm) (hN : ∀ w ∈ mx_nest, va_Nw w s) : ∀ w ∈ mx_nest, va_Nw w U := by
  intro w hw
  have h1 := hN w hw
  rcases mx_nest_form w hw with ⟨a, i, b, n, d, h9, rfl⟩ | ⟨a, i, x, h9, rfl⟩
  · exact va_Nw.warmF hW h1
  · exact va_Nw.warmM hW h1
theorem mx_SC_warm {G : mx_G} {s U : State} {H : Heap} {locs : List Loc} (hW : s.WarmedH U.vm) (hS : va_S (mx_A G) s.heap H locs) (h : mx_SC G s s.heap) : mx_SC G U H := by
  obtain ⟨h1, h2, h3, h4, ⟨h5, h5b⟩, h6, h7, h8, h9⟩ := h
  refine ⟨va_K.moved hW.alike h1, mx_nest_warm hW h2, h3, h4, ⟨h5, Nat.le_trans h5b hS.1⟩, fun q hq => ?_, ?_, Nat.lt_of_lt_of_le h8 hS.1, h9⟩
  · obtain ⟨g1, g2⟩ := h6 q hq
    exact ⟨va_Z.moved hW.alike (g1.kept (fun a ha hA => hS.2.1 a ha hA)), va_T.moved hW.alike (g2.kept (fun a ha hA => hS.2.1 a ha hA))⟩
  · exact va_X.moved hW.alike (h7.kept (hS.2.1 _ h8 h9))
theorem mx_SC_same {G : mx_G} {s U : State} {H : Heap} (hv : s.vm = U.vm) (h : mx_SC G s H) : mx_SC G U H := by
  have ha : s.vm.Alike U.vm := by rw [← hv]; exact Vm.Alike.refl s.vm
  obtain ⟨h1, h2, h3, h4, h5, h6, h7, h8⟩ := h
  exact ⟨va_K.moved ha h1, mx_nest_same hv h2, h3, h4, h5, fun q hq => ⟨va_Z.moved ha (h6 q hq).1, va_T.moved ha (h6 q hq).2⟩, va_X.moved ha h7, h8⟩
def mx_Pc (G : mx_G) (av : List Value) (M : mx_Mem) : Array Value → State → Prop := fun v U => v = (av.map (mx_c (mx_ad G))).toArray ∧ mx_SC G U U.heap ∧ va_P (mx_D G) mx_cl (mx_ws G M) U.heap
def mx_Qc (G : mx_G) (Post : Option Value → mx_Mem → Prop) : Array Value → State → Outcome → State → Prop := fun _ st oc t => ∃ (r : Option Value) (M' : mx_Mem), oc = .returned (r.map (mx_c (mx_ad G))) ∧ Post r M' ∧ va_P (mx_D G) mx_cl (mx_ws G M') t.heap ∧ va_F (mx_A G) st t
/-- A METHOD'S CONTRACT: called with av in memory M it returns r in memory M' with Post r M' -/
def mx_Met (l : Launch) (G : mx_G) (y : MethodName) (cc : ByteArray) (maxL : Nat) (ret : Option FieldType) (fr lo : Nat) (av : List Value) (M : mx_Mem) (Post : Option Value → mx_Mem → Prop) : Prop :=
  Met l y (Cond.code y cc maxL ret :: mx_gW) ({ frames := fr, cells := 0, slots := 0, locals := lo } : Room) (mx_Pc G av M) (mx_Qc G Post) 0 0 (mx_A G)
/-- room of a frame -/
def mx_RM (X : mx_X) (fr lo : Nat) : Prop := match X with
  | (_, _, _, R, _, _, _, _, _, _, _, cells, slots) => R.frames = fr ∧ R.locals = lo ∧ cells ≤ R.cells ∧ slots ≤ R.slots
/-- how a frame may end -/
def mx_RT (G : mx_G) (X : mx_X) (ret : Option FieldType) (Post : Option Value → mx_Mem → Prop) : Prop := match X with
  | (_, _, _, _, s, _, args, below, meth, _, Q, cells, slots) => meth.sig.returnType = ret ∧ meth.locks = false ∧ Q = MQ below (mx_Qc G Post) args s cells slots (mx_A G)
def mx_l (X : mx_X) : Launch := X.2.1
def mx_ex : List Value → List Value
  | [] => []
  | v :: r => if v.category = 2 then v :: .null :: mx_ex r else v :: mx_ex r
theorem mx_ex_in {ad : Nat → Nat} : ∀ (av : List Value) (i j : Nat) (v : Value), (mx_ex av)[j]? = some v → v ≠ .null → (i + j, mx_c ad v) ∈ lv_args i (av.map (mx_c ad))
  | [], i, j, v, h, _ => by simp [mx_ex] at h
  | a :: r, i, j, v, h, hv => by
    simp only [mx_ex] at h
    simp only [List.map_cons, lv_args, mx_cat]
    by_cases hc : a.category = 2
    · rw [if_pos hc] at h
      rw [if_pos hc]
      match j, h with
      | 0, h => simp at h; subst h; exact List.mem_cons_self
      | 1, h => simp at h; exact absurd h.symm hv
      | j + 2, h =>
        have := mx_ex_in (ad := ad) r (i + 2) j v (by simpa using h) hv
        rw [show i + 2 + j = i + (j + 2) by omega] at this
        exact List.mem_cons_of_mem _ this
    · rw [if_neg hc] at h
      rw [if_neg hc]
      match j, h with
      | 0, h => simp at h; subst h; exact List.mem_cons_self
      | j + 1, h =>
        have := mx_ex_in (ad := ad) r (i + 1) j v (by simpa using h) hv
        rw [show i + 1 + j = i + (j + 1) by omega] at this
        exact List.mem_cons_of_mem _ this
theorem mx_ex_len {ad : Nat → Nat} : ∀ av : List Value, (lg_sl (av.map (mx_c ad))).length = (mx_ex av).length
  | [] => rfl
  | a :: r => by
    have ih := mx_ex_len (ad := ad) r
    simp only [lg_sl] at ih ⊢
    simp only [List.map_cons, List.flatMap_cons, List.length_append, mx_ex, mx_cat]
    split <;> simp [ih] <;> omega
def mx_L0 (av : List Value) (n : Nat) : List Value := mx_ex av ++ List.replicate (n - (mx_ex av).length) .null
theorem mx_entry {G : mx_G} {av : List Value} {n : Nat} (h : (mx_ex av).length ≤ n) : mx_lh G ((lg_sl (av.map (mx_c (mx_ad G))) ++ List.replicate (n - (lg_sl (av.map (mx_c (mx_ad G)))).length) Slot.unset).toArray) (mx_L0 av n) := by
  have hlen := mx_ex_len (ad := mx_ad G) av
  obtain ⟨h1, h2, h3⟩ := lv_entry (av.map (mx_c (mx_ad G))) (n := n) (by rw [hlen]; exact h)
  refine ⟨?_, h2, fun i v hi hv => ?_⟩
  · rw [h1]
    simp [mx_L0]
    omega
  · by_cases hl : i < (mx_ex av).length
    · rw [mx_L0, List.getElem?_append_left hl] at hi
      have := mx_ex_in (ad := mx_ad G) av 0 i v hi hv
      rw [Nat.zero_add] at this
      exact h3 _ this
    · rw [mx_L0, List.getElem?_append_right (by omega)] at hi
      have := List.mem_of_getElem? hi
      rw [List.mem_replicate] at this
      exact absurd this.2 hv
/-- a contract, by the judgement at the entry -/
theorem mx_enter {l : Launch} {G : mx_G} {y : MethodName} {own : String} {cc : ByteArray} {maxL fr lo : Nat} {ret : Option FieldType} {av L : List Value} {M : mx_Mem} {Post : Option Value → mx_Mem → Prop}
    (hy : plainFor y = true) (hown : y.cls = own) (hlen : Nat.ble (mx_ex av).length maxL = true) (hL : mx_L0 av maxL = L)
    (body : ∀ X : mx_X, mx_l X = l → mx_OK G X own cc maxL → mx_RM X fr lo → mx_RT G X ret Post → mx_WW G X 0 L [] M) : mx_Met l G y cc maxL ret fr lo av M Post := by
  refine va_MetF (cc := cc) (maxL := maxL) (ret := ret) hy rfl ?_
  intro p e s m args below meth c s₁ B hml hv
  obtain ⟨rfl, hSC, hP⟩ := hv
  have hts : ∀ w ∈ Cond.code y cc maxL ret :: mx_gW, w.before _ s = true := atoms_spec B.pre
  have ho : s.vm.findClass own = some m.cls := by rw [← hown]; exact findClass_of_methodNamed B.named
  rw [lg_entry_eq]
  have hl := mx_entry (G := G) (Nat.le_of_ble_eq_true hlen)
  subst hL
  exact body (p, l, e, _, s, m, _, below, meth, c, _, 0, 0) rfl ⟨B.exec, B.bytes, hml, ho, fun w hw => hts w (List.mem_cons_of_mem _ hw), hSC⟩ ⟨rfl, rfl, Nat.zero_le _, Nat.zero_le _⟩ ⟨B.returns, B.notSynchronized, rfl⟩ s.heap [] _ hP va_S.rf hl
section MXC
variable {G : mx_G} {X : mx_X} {own : String} {cc : ByteArray} {nL pc : Nat} {L S : List Value} {M : mx_Mem}

theorem r_iret (hX : mx_OK G X own cc nL) {v : Int32} {Post : Option Value → mx_Mem → Prop} (hT : mx_RT G X (some .int) Post) (hd : decode cc pc = .ok (.ireturn, 1))  (hp : Post (some (.int v)) M) : mx_WW G X pc L [.int v] M := by
  obtain ⟨p, l, e, R, s, m, args, below, meth, c, Q, cells, slots⟩ := X
  obtain ⟨hx, hb, hml, hown, hts, hSC⟩ := hX
  obtain ⟨hr, hlocks, rfl⟩ := hT
  intro H locs ls hP hS hl
  exact W.iret hx hb hr (fun t ht hW => ⟨_, M, rfl, hp, by rw [ht]; exact hP, hS.F ht⟩) hS.2.2 hd hlocks
theorem r_zret (hX : mx_OK G X own cc nL) {v : Int32} {Post : Option Value → mx_Mem → Prop} (hT : mx_RT G X (some .boolean) Post) (hd : decode cc pc = .ok (.ireturn, 1)) (hv : v = 0 ∨ v = 1) (hp : Post (some (.int v)) M) : mx_WW G X pc L [.int v] M := by
  obtain ⟨p, l, e, R, s, m, args, below, meth, c, Q, cells, slots⟩ := X
  obtain ⟨hx, hb, hml, hown, hts, hSC⟩ := hX
  obtain ⟨hr, hlocks, rfl⟩ := hT
  intro H locs ls hP hS hl
  exact W.zret hx hb hr (mx_zn hv).1 (fun t ht hW => ⟨_, M, rfl, hp, by rw [ht]; exact hP, hS.F ht⟩) hS.2.2 hd hlocks
theorem r_cret (hX : mx_OK G X own cc nL) {v : Int32} {Post : Option Value → mx_Mem → Prop} (hT : mx_RT G X (some .char) Post) (hd : decode cc pc = .ok (.ireturn, 1)) (hv : narrow .char (.int v) = .int v) (hp : Post (some (.int v)) M) : mx_WW G X pc L [.int v] M := by
  obtain ⟨p, l, e, R, s, m, args, below, meth, c, Q, cells, slots⟩ := X
  obtain ⟨hx, hb, hml, hown, hts, hSC⟩ := hX
  obtain ⟨hr, hlocks, rfl⟩ := hT
  intro H locs ls hP hS hl
  exact W.zret hx hb hr hv (fun t ht hW => ⟨_, M, rfl, hp, by rw [ht]; exact hP, hS.F ht⟩) hS.2.2 hd hlocks
theorem r_lret (hX : mx_OK G X own cc nL) {v : Int64} {Post : Option Value → mx_Mem → Prop} (hT : mx_RT G X (some .long) Post) (hd : decode cc pc = .ok (.lreturn, 1))  (hp : Post (some (.long v)) M) : mx_WW G X pc L [.long v] M := by
  obtain ⟨p, l, e, R, s, m, args, below, meth, c, Q, cells, slots⟩ := X
  obtain ⟨hx, hb, hml, hown, hts, hSC⟩ := hX
  obtain ⟨hr, hlocks, rfl⟩ := hT
  intro H locs ls hP hS hl
  exact W.lret hx hb hr (fun t ht hW => ⟨_, M, rfl, hp, by rw [ht]; exact hP, hS.F ht⟩) hS.2.2 hd hlocks
theorem r_vret (hX : mx_OK G X own cc nL)  {Post : Option Value → mx_Mem → Prop} (hT : mx_RT G X none Post) (hd : decode cc pc = .ok (.return_, 1))  (hp : Post (none) M) : mx_WW G X pc L [] M := by
  obtain ⟨p, l, e, R, s, m, args, below, meth, c, Q, cells, slots⟩ := X
  obtain ⟨hx, hb, hml, hown, hts, hSC⟩ := hX
  obtain ⟨hr, hlocks, rfl⟩ := hT
  intro H locs ls hP hS hl
  exact W.vret hx hb hr (fun t ht hW => ⟨_, M, rfl, hp, by rw [ht]; exact hP, hS.F ht⟩) hS.2.2 hd hlocks
theorem r_aret (hX : mx_OK G X own cc nL) {k : Nat} {rt : FieldType} {Post : Option Value → mx_Mem → Prop} (hT : mx_RT G X (some rt) Post) (hd : decode cc pc = .ok (.areturn, 1)) (hrt : (∃ n, rt = .object n) ∨ ∃ t, rt = .array t) (hp : Post (some (.ref k)) M) : mx_WW G X pc L [.ref k] M := by
  obtain ⟨p, l, e, R, s, m, args, below, meth, c, Q, cells, slots⟩ := X
  obtain ⟨hx, hb, hml, hown, hts, hSC⟩ := hX
  obtain ⟨hr, hlocks, rfl⟩ := hT
  intro H locs ls hP hS hl
  exact W.aret hx hb hr hrt (Or.inr ⟨_, rfl⟩) (fun t ht hW => ⟨_, M, rfl, hp, by rw [ht]; exact hP, hS.F ht⟩) hS.2.2 hd hlocks
theorem mx_call {p : Program} {l : Launch} {e : Env} {R : Room} {s : State} {m : MethodId} {args a : Array Value} {below : List Frame} {meth : Method} {c : Code} {H : Heap} {locs : List Loc} {cells slots : Nat} {Q : State → Prop} {pc : Nat} {ls : Array Slot} {st0 rest : List Value} {Post : Option Value → mx_Mem → Prop}
    (hr : va_Run p l e R s m args below meth c H locs cells slots 0 0 (F0 m pc ls st0) rest (mx_Qc G Post a) (mx_A G)) (hS : va_S (mx_A G) s.heap H locs)
    (kk : ∀ (r : Option Value) (M' : mx_Mem) (H1 : Heap) (locs1 : List Loc), Post r M' → va_P (mx_D G) mx_cl (mx_ws G M') H1 → va_S (mx_A G) s.heap H1 locs1 → W p l e R s m args below meth c H1 locs1 cells slots Q (F0 m (pc + 3) ls ((r.map (mx_c (mx_ad G))).toList ++ rest))) :
    W p l e R s m args below meth c H locs cells slots Q (F0 m pc ls st0) := by
  intro T hT X
  obtain ⟨v, st₀, t, T', L, h0, X', hL, e1, e2, ⟨r, M', hv, hp, hP, hz, hk⟩, st⟩ := hr T hT X
  cases hv
  rw [h0] at hz hk
  obtain ⟨t2, a1, b1⟩ := kk r M' T'.heap (locs ++ L) hp (by rw [e1]; exact hP)
    ⟨Nat.le_trans hS.1 (by rw [e1]; exact hz), fun q h1 h2 => by rw [e1, hk q (Nat.lt_of_lt_of_le h1 hS.1) h2]; exact hS.2.1 q h1 h2, fun q hq => by
      rcases List.mem_append.mp hq with h | h
      · exact hS.2.2 q h
      · exact hL q h⟩ T' rfl X'
  exact ⟨t2, st t2 a1, b1⟩
/-- the callee y, by the tables: its code, that it can be called; n: its parameters -/
def mx_cd (y : MethodName) (cc : ByteArray) (maxL : Nat) (ret : Option FieldType) (n : Nat) : Prop := Cond.code y cc maxL ret ∈ mx_gW ∧ Cond.initialized y.cls ∈ mx_gW ∧ (y.cls ≠ "java/lang/invoke/MethodHandle" ∧ y.cls ≠ "java/lang/invoke/VarHandle") ∧ (parseMethodDescriptor y.desc).map (fun d => d.parameters.length) = some n
theorem mx_good {y : MethodName} {cc : ByteArray} {maxL : Nat} {ret : Option FieldType} (h : Cond.code y cc maxL ret ∈ mx_gW) : GoodIn mx_gW (Cond.code y cc maxL ret :: mx_gW) := by
  have key : ∀ w ∈ mx_gW, w ∈ mx_gW ∧ ((w.onTables && w.keeps) = true ∨ ∃ ty, w = .arrayClass ty) := fun w hw => ⟨hw, good_of_word (List.mem_filter.mp hw).2⟩
  intro w hw
  rcases List.mem_cons.mp hw with rfl | hw
  · exact key _ h
  · exact key _ hw
theorem mx_cb {R : Room} {s : State} {args : Array Value} {own : String} {idx : Nat} {y : MethodName} {cc : ByteArray} {maxL n fr lo fr1 lo1 : Nat} {ret : Option FieldType} (hts : ∀ w ∈ mx_gW, w.before args s = true) (hc : mx_cd y cc maxL ret n) (hl : Cond.methodLink own idx y ∈ mx_gW) (h1 : R.frames = fr1) (h2 : R.locals = lo1) (hR : (Nat.ble (fr + 1) fr1 && Nat.ble (8 + (maxL + 11) + lo) lo1) = true) :
    CallB R s args own idx y cc maxL ret (Cond.code y cc maxL ret :: mx_gW) { frames := fr, cells := 0, slots := 0, locals := lo } 0 0 n := by
  simp only [Bool.and_eq_true] at hR
  exact callB_of n hts (mx_good hc.1) rfl rfl rfl (hts _ hc.2.1) (hts _ hl) ⟨hc.2.2.1.1, hc.2.2.1.2, hc.2.2.2⟩ ⟨by rw [h1]; exact Nat.le_of_ble_eq_true hR.1, by rw [h2]; exact Nat.le_of_ble_eq_true hR.2⟩
theorem mx_blind (G : mx_G) (av : List Value) (M : mx_Mem) : FrameBlind (mx_Pc G av M) := fun a U g mk h => ⟨h.1, mx_SC_same (s := U) (U := U.calling g mk a) rfl h.2.1, h.2.2⟩
/-- the stack below a call has room -/
def mx_rs (S : List Value) : Bool := Nat.ble (S.map fun v => v.category).sum 8
theorem mx_rsum (G : mx_G) {S : List Value} (h : mx_rs S = true) : ((S.map (mx_c (mx_ad G))).map fun v => v.category).sum ≤ 8 := by
  have := Nat.le_of_ble_eq_true h
  rw [List.map_map]
  rw [show ((fun v : Value => v.category) ∘ mx_c (mx_ad G)) = (fun v => v.category) from funext fun v => mx_cat _ v]
  exact this
theorem mx_tl (G : mx_G) (r : Option Value) (S : List Value) : (r.toList ++ S).map (mx_c (mx_ad G)) = (r.map (mx_c (mx_ad G))).toList ++ S.map (mx_c (mx_ad G)) := by
  cases r <;> simp

theorem r_callV (q : Nat) (hX : mx_OK G X own cc nL) {fr lo fr1 lo1 idx maxL b ci n : Nat} (hR : mx_RM X fr1 lo1) {y : MethodName} {cy : ByteArray} {ret : Option FieldType} {fs : List (Option Nat)} {As : List Value} {Post : Option Value → mx_Mem → Prop} (hM : mx_Met (mx_l X) G y cy maxL ret fr lo (.ref b :: As) M Post) (hd : decode cc pc = .ok (.invokevirtual idx, 3)) (hc : mx_cd y cy maxL ret n) (hli : Cond.methodLink own idx y ∈ mx_gW ∧ Cond.instanceMethod y ∈ mx_gW ∧ Cond.selects y.cls y y ∈ mx_gW)
    (hs : mx_sh b = .inr (ci, fs)) (hcl : (mx_cl[ci]?).map (fun z => z.1) = some y.cls) (hk : Nat.blt b 61 = true) (hn : As.length = n) (hrs : mx_rs S = true) (hro : (Nat.ble (fr + 1) fr1 && Nat.ble (8 + (maxL + 11) + lo) lo1) = true) (hnL : L.length = nL) (kk : ∀ (r : Option Value) (M' : mx_Mem), Post r M' → mx_WW G X q L (r.toList ++ S) M') (hq : pc + 3 = q := by rfl) : mx_WW G X pc L (As.reverse ++ .ref b :: S) M := by
  obtain ⟨p, l, e, R, s, m, args, below, meth, c, Q, cells, slots⟩ := X
  obtain ⟨hx, hb, hml, hown, hts, hSC⟩ := hX
  obtain ⟨hR1, hR2, hR3, hR4⟩ := hR
  subst hq
  intro H locs ls hP hS hl
  have hrec : ∃ cellB : Cell, H[mx_ad G b]? = some cellB ∧ cellB.vm.isStatics = false ∧ s.vm.findClass y.cls = some cellB.cls := by
    cases hcc : mx_cl[ci]? with
    | none => rw [hcc] at hcl; cases hcl
    | some z =>
      rw [hcc] at hcl
      have := va_recv hSC.1 hP hcc (mx_obj (mx_lt hSC hk) hs)
      rw [← Option.some.inj hcl]
      exact this
  refine mx_call (rest := S.map (mx_c (mx_ad G))) (va_runV (C := y.cls) (b := mx_ad G b) (As := As.map (mx_c (mx_ad G))) (n := n) ⟨hx, hb, hml, hown, hts⟩ hM ⟨mx_cb hts hc hli.1 hR1 hR2 hro, hts _ hli.2.1, hts _ hli.2.2⟩
    ⟨mx_blind G _ M, hrec, fun U hU hW => ⟨rfl, by rw [hU]; exact mx_SC_warm hW hS hSC, by rw [hU]; exact hP⟩⟩ rfl (by rw [List.length_map]; exact hn) (hl.1.trans hnL) (by simp [mx_c_ref]) (lv_room (mx_rsum G hrs)) hd ⟨hR3, hR4⟩) hS (fun r M' H1 locs1 hp g1 g2 => by
    have := kk r M' hp H1 locs1 ls g1 g2 hl
    rw [mx_tl] at this
    exact this)
theorem r_callS (q : Nat) (hX : mx_OK G X own cc nL) {fr lo fr1 lo1 idx maxL n : Nat} (hR : mx_RM X fr1 lo1) {y : MethodName} {cy : ByteArray} {ret : Option FieldType} {As : List Value} {Post : Option Value → mx_Mem → Prop} (hM : mx_Met (mx_l X) G y cy maxL ret fr lo As M Post) (hd : decode cc pc = .ok (.invokestatic idx, 3)) (hc : mx_cd y cy maxL ret n) (hli : Cond.methodLink own idx y ∈ mx_gW ∧ Cond.static y ∈ mx_gW)
    (hn : As.length = n) (hrs : mx_rs S = true) (hro : (Nat.ble (fr + 1) fr1 && Nat.ble (8 + (maxL + 11) + lo) lo1) = true) (hnL : L.length = nL) (kk : ∀ (r : Option Value) (M' : mx_Mem), Post r M' → mx_WW G X q L (r.toList ++ S) M') (hq : pc + 3 = q := by rfl) : mx_WW G X pc L (As.reverse ++ S) M := by
  obtain ⟨p, l, e, R, s, m, args, below, meth, c, Q, cells, slots⟩ := X
  obtain ⟨hx, hb, hml, hown, hts, hSC⟩ := hX
  obtain ⟨hR1, hR2, hR3, hR4⟩ := hR
  subst hq
  intro H locs ls hP hS hl
  refine mx_call (rest := S.map (mx_c (mx_ad G))) (va_runS (As := As.map (mx_c (mx_ad G))) (n := n) ⟨hx, hb, hml, hown, hts⟩ hM ⟨mx_cb hts hc hli.1 hR1 hR2 hro, hts _ hli.2⟩
    ⟨mx_blind G _ M, fun U hU hW => ⟨rfl, by rw [hU]; exact mx_SC_warm hW hS hSC, by rw [hU]; exact hP⟩⟩ rfl (by rw [List.length_map]; exact hn) (hl.1.trans hnL) (by simp) (lv_room (mx_rsum G hrs)) hd ⟨hR3, hR4⟩) hS (fun r M' H1 locs1 hp g1 g2 => by
    have := kk r M' hp H1 locs1 ls g1 g2 hl
    rw [mx_tl] at this
    exact this)
theorem r_callSN (q : Nat) (hX : mx_OK G X own cc nL) {fr lo fr1 lo1 idx maxL n : Nat} (hR : mx_RM X fr1 lo1) {y : MethodName} {cy : ByteArray} {ret : Option FieldType} {As : List Value} {Post : Option Value → mx_Mem → Prop} (hM : mx_Met (mx_l X) G y cy maxL ret fr lo As M Post) (hd : decode cc pc = .ok (.invokestatic idx, 3)) (hc : mx_cd y cy maxL ret n) (hli : Cond.methodLinkNest own idx y RX7 ∈ mx_nest ∧ Cond.static y ∈ mx_gW)
    (hn : As.length = n) (hrs : mx_rs S = true) (hro : (Nat.ble (fr + 1) fr1 && Nat.ble (8 + (maxL + 11) + lo) lo1) = true) (hnL : L.length = nL) (kk : ∀ (r : Option Value) (M' : mx_Mem), Post r M' → mx_WW G X q L (r.toList ++ S) M') (hq : pc + 3 = q := by rfl) : mx_WW G X pc L (As.reverse ++ S) M := by
  obtain ⟨p, l, e, R, s, m, args, below, meth, c, Q, cells, slots⟩ := X
  obtain ⟨hx, hb, hml, hown, hts, hSC⟩ := hX
  obtain ⟨hR1, hR2, hR3, hR4⟩ := hR
  subst hq
  intro H locs ls hP hS hl
  simp only [Bool.and_eq_true] at hro
  refine mx_call (rest := S.map (mx_c (mx_ad G))) (va_runSN (As := As.map (mx_c (mx_ad G))) (n := n) ⟨hx, hb, hml, hown, hts⟩ hM ⟨va_cnB n hts (mx_good hc.1) rfl rfl rfl (hSC.2.1 _ hli.1) (hts _ hc.2.1) ⟨hc.2.2.1.1, hc.2.2.1.2, hc.2.2.2⟩ ⟨by rw [hR1]; exact Nat.le_of_ble_eq_true hro.1, by rw [hR2]; exact Nat.le_of_ble_eq_true hro.2⟩, hts _ hli.2, trivial⟩
    ⟨mx_blind G _ M, fun U hU hW => ⟨rfl, by rw [hU]; exact mx_SC_warm hW hS hSC, by rw [hU]; exact hP⟩⟩ rfl (by rw [List.length_map]; exact hn) (hl.1.trans hnL) (by simp) (lv_room (mx_rsum G hrs)) hd ⟨hR3, hR4⟩) hS (fun r M' H1 locs1 hp g1 g2 => by
    have := kk r M' hp H1 locs1 ls g1 g2 hl
    rw [mx_tl] at this
    exact this)
end MXC
end
section
theorem fX3_9 : mx_fl RX3 9 3 0 := ⟨_, _, _, mx_ck3, by decide, Or.inl (mx_in (by decide +kernel))⟩
theorem fX4_9 : mx_fl RX4 9 4 0 := ⟨_, _, _, mx_ck4, by decide, Or.inl (mx_in (by decide +kernel))⟩
theorem fX4_15 : mx_fl RX4 15 4 1 := ⟨_, _, _, mx_ck4, by decide, Or.inl (mx_in (by decide +kernel))⟩
theorem fX2_50 : mx_fl RX2 50 4 1 := ⟨_, _, _, mx_ck4, by decide, Or.inr (by decide +kernel)⟩
theorem fX7_264 : mx_fl RX7 264 4 1 := ⟨_, _, _, mx_ck4, by decide, Or.inr (by decide +kernel)⟩
theorem fX4_18 : mx_fl RX4 18 4 2 := ⟨_, _, _, mx_ck4, by decide, Or.inl (mx_in (by decide +kernel))⟩
theorem fX2_59 : mx_fl RX2 59 4 2 := ⟨_, _, _, mx_ck4, by decide, Or.inr (by decide +kernel)⟩
theorem fX7_106 : mx_fl RX7 106 4 2 := ⟨_, _, _, mx_ck4, by decide, Or.inr (by decide +kernel)⟩
theorem fX4_22 : mx_fl RX4 22 4 3 := ⟨_, _, _, mx_ck4, by decide, Or.inl (mx_in (by decide +kernel))⟩
theorem fX7_147 : mx_fl RX7 147 4 3 := ⟨_, _, _, mx_ck4, by decide, Or.inr (by decide +kernel)⟩
theorem fX2_9 : mx_fl RX2 9 2 0 := ⟨_, _, _, mx_ck2, by decide, Or.inl (mx_in (by decide +kernel))⟩
theorem fX7_347 : mx_fl RX7 347 2 0 := ⟨_, _, _, mx_ck2, by decide, Or.inr (by decide +kernel)⟩
theorem fX2_15 : mx_fl RX2 15 2 1 := ⟨_, _, _, mx_ck2, by decide, Or.inl (mx_in (by decide +kernel))⟩
theorem fX2_18 : mx_fl RX2 18 2 2 := ⟨_, _, _, mx_ck2, by decide, Or.inl (mx_in (by decide +kernel))⟩
theorem fX2_21 : mx_fl RX2 21 2 3 := ⟨_, _, _, mx_ck2, by decide, Or.inl (mx_in (by decide +kernel))⟩
theorem fX7_226 : mx_fl RX7 226 2 3 := ⟨_, _, _, mx_ck2, by decide, Or.inr (by decide +kernel)⟩
theorem fX2_24 : mx_fl RX2 24 2 4 := ⟨_, _, _, mx_ck2, by decide, Or.inl (mx_in (by decide +kernel))⟩
theorem fX7_185 : mx_fl RX7 185 2 4 := ⟨_, _, _, mx_ck2, by decide, Or.inr (by decide +kernel)⟩
theorem fX2_28 : mx_fl RX2 28 2 5 := ⟨_, _, _, mx_ck2, by decide, Or.inl (mx_in (by decide +kernel))⟩
theorem fX2_31 : mx_fl RX2 31 2 6 := ⟨_, _, _, mx_ck2, by decide, Or.inl (mx_in (by decide +kernel))⟩
theorem fX7_182 : mx_fl RX7 182 2 6 := ⟨_, _, _, mx_ck2, by decide, Or.inr (by decide +kernel)⟩
theorem fX2_35 : mx_fl RX2 35 2 7 := ⟨_, _, _, mx_ck2, by decide, Or.inl (mx_in (by decide +kernel))⟩
theorem fX7_202 : mx_fl RX7 202 2 7 := ⟨_, _, _, mx_ck2, by decide, Or.inr (by decide +kernel)⟩
theorem fX2_38 : mx_fl RX2 38 2 8 := ⟨_, _, _, mx_ck2, by decide, Or.inl (mx_in (by decide +kernel))⟩
theorem fX7_208 : mx_fl RX7 208 2 8 := ⟨_, _, _, mx_ck2, by decide, Or.inr (by decide +kernel)⟩
theorem fX2_41 : mx_fl RX2 41 2 9 := ⟨_, _, _, mx_ck2, by decide, Or.inl (mx_in (by decide +kernel))⟩
theorem fX7_169 : mx_fl RX7 169 2 9 := ⟨_, _, _, mx_ck2, by decide, Or.inr (by decide +kernel)⟩
theorem fX2_44 : mx_fl RX2 44 2 10 := ⟨_, _, _, mx_ck2, by decide, Or.inl (mx_in (by decide +kernel))⟩
theorem fX7_193 : mx_fl RX7 193 2 10 := ⟨_, _, _, mx_ck2, by decide, Or.inr (by decide +kernel)⟩
theorem fX2_47 : mx_fl RX2 47 2 11 := ⟨_, _, _, mx_ck2, by decide, Or.inl (mx_in (by decide +kernel))⟩
theorem fX7_214 : mx_fl RX7 214 2 11 := ⟨_, _, _, mx_ck2, by decide, Or.inr (by decide +kernel)⟩
theorem fX1_9 : mx_fl RX1 9 1 0 := ⟨_, _, _, mx_ck1, by decide, Or.inl (mx_in (by decide +kernel))⟩
theorem fX7_109 : mx_fl RX7 109 1 0 := ⟨_, _, _, mx_ck1, by decide, Or.inr (by decide +kernel)⟩
theorem fX1_15 : mx_fl RX1 15 1 1 := ⟨_, _, _, mx_ck1, by decide, Or.inl (mx_in (by decide +kernel))⟩
theorem fX7_102 : mx_fl RX7 102 1 1 := ⟨_, _, _, mx_ck1, by decide, Or.inr (by decide +kernel)⟩
theorem fX1_19 : mx_fl RX1 19 1 2 := ⟨_, _, _, mx_ck1, by decide, Or.inl (mx_in (by decide +kernel))⟩
theorem fX7_199 : mx_fl RX7 199 1 2 := ⟨_, _, _, mx_ck1, by decide, Or.inr (by decide +kernel)⟩
theorem fX1_22 : mx_fl RX1 22 1 3 := ⟨_, _, _, mx_ck1, by decide, Or.inl (mx_in (by decide +kernel))⟩
theorem fX7_196 : mx_fl RX7 196 1 3 := ⟨_, _, _, mx_ck1, by decide, Or.inr (by decide +kernel)⟩
theorem fX1_25 : mx_fl RX1 25 1 4 := ⟨_, _, _, mx_ck1, by decide, Or.inl (mx_in (by decide +kernel))⟩
theorem fX7_217 : mx_fl RX7 217 1 4 := ⟨_, _, _, mx_ck1, by decide, Or.inr (by decide +kernel)⟩
theorem fX1_28 : mx_fl RX1 28 1 5 := ⟨_, _, _, mx_ck1, by decide, Or.inl (mx_in (by decide +kernel))⟩
theorem fX7_223 : mx_fl RX7 223 1 5 := ⟨_, _, _, mx_ck1, by decide, Or.inr (by decide +kernel)⟩
theorem fX1_31 : mx_fl RX1 31 1 6 := ⟨_, _, _, mx_ck1, by decide, Or.inl (mx_in (by decide +kernel))⟩
theorem fX7_124 : mx_fl RX7 124 1 6 := ⟨_, _, _, mx_ck1, by decide, Or.inr (by decide +kernel)⟩
theorem fX5_9 : mx_fl RX5 9 5 0 := ⟨_, _, _, mx_ck5, by decide, Or.inl (mx_in (by decide +kernel))⟩
theorem fX5_15 : mx_fl RX5 15 5 1 := ⟨_, _, _, mx_ck5, by decide, Or.inl (mx_in (by decide +kernel))⟩
theorem fX6_11 : mx_fl RX6 11 6 0 := ⟨_, _, _, mx_ck6, by decide, Or.inl (mx_in (by decide +kernel))⟩
theorem fX6_15 : mx_fl RX6 15 6 1 := ⟨_, _, _, mx_ck6, by decide, Or.inl (mx_in (by decide +kernel))⟩
theorem fX7_220 : mx_fl RX7 220 6 1 := ⟨_, _, _, mx_ck6, by decide, Or.inr (by decide +kernel)⟩
theorem fX0_9 : mx_fl RX0 9 0 0 := ⟨_, _, _, mx_ck0, by decide, Or.inl (mx_in (by decide +kernel))⟩
theorem fX0_15 : mx_fl RX0 15 0 1 := ⟨_, _, _, mx_ck0, by decide, Or.inl (mx_in (by decide +kernel))⟩
theorem fX0_18 : mx_fl RX0 18 0 2 := ⟨_, _, _, mx_ck0, by decide, Or.inl (mx_in (by decide +kernel))⟩
theorem fX0_23 : mx_fl RX0 23 0 3 := ⟨_, _, _, mx_ck0, by decide, Or.inl (mx_in (by decide +kernel))⟩
theorem fX0_26 : mx_fl RX0 26 0 4 := ⟨_, _, _, mx_ck0, by decide, Or.inl (mx_in (by decide +kernel))⟩
theorem fX7_10 : mx_fl RX7 10 7 0 := ⟨_, _, _, mx_ck7, by decide, Or.inl (mx_in (by decide +kernel))⟩
theorem fX7_19 : mx_fl RX7 19 7 1 := ⟨_, _, _, mx_ck7, by decide, Or.inl (mx_in (by decide +kernel))⟩
theorem fX7_23 : mx_fl RX7 23 7 2 := ⟨_, _, _, mx_ck7, by decide, Or.inl (mx_in (by decide +kernel))⟩
theorem fX7_29 : mx_fl RX7 29 7 3 := ⟨_, _, _, mx_ck7, by decide, Or.inl (mx_in (by decide +kernel))⟩
theorem fX7_33 : mx_fl RX7 33 7 4 := ⟨_, _, _, mx_ck7, by decide, Or.inl (mx_in (by decide +kernel))⟩
theorem fX7_39 : mx_fl RX7 39 7 5 := ⟨_, _, _, mx_ck7, by decide, Or.inl (mx_in (by decide +kernel))⟩
theorem fX7_43 : mx_fl RX7 43 7 6 := ⟨_, _, _, mx_ck7, by decide, Or.inl (mx_in (by decide +kernel))⟩
theorem fX7_46 : mx_fl RX7 46 7 7 := ⟨_, _, _, mx_ck7, by decide, Or.inl (mx_in (by decide +kernel))⟩
theorem fX7_49 : mx_fl RX7 49 7 8 := ⟨_, _, _, mx_ck7, by decide, Or.inl (mx_in (by decide +kernel))⟩
theorem fX7_55 : mx_fl RX7 55 7 9 := ⟨_, _, _, mx_ck7, by decide, Or.inl (mx_in (by decide +kernel))⟩
theorem fX7_59 : mx_fl RX7 59 7 10 := ⟨_, _, _, mx_ck7, by decide, Or.inl (mx_in (by decide +kernel))⟩
theorem fX7_65 : mx_fl RX7 65 7 11 := ⟨_, _, _, mx_ck7, by decide, Or.inl (mx_in (by decide +kernel))⟩
theorem fX7_72 : mx_fl RX7 72 7 12 := ⟨_, _, _, mx_ck7, by decide, Or.inl (mx_in (by decide +kernel))⟩
theorem fX7_76 : mx_fl RX7 76 7 13 := ⟨_, _, _, mx_ck7, by decide, Or.inl (mx_in (by decide +kernel))⟩
theorem fX7_80 : mx_fl RX7 80 7 14 := ⟨_, _, _, mx_ck7, by decide, Or.inl (mx_in (by decide +kernel))⟩
theorem sX3_15 : mx_sl RX3 15 2 := ⟨_, rfl, rfl, Or.inl (mx_in (by decide +kernel))⟩
theorem sX3_18 : mx_sl RX3 18 3 := ⟨_, rfl, rfl, Or.inl (mx_in (by decide +kernel))⟩
theorem sX5_18 : mx_sl RX5 18 4 := ⟨_, rfl, rfl, Or.inl (mx_in (by decide +kernel))⟩
theorem sX5_27 : mx_sl RX5 27 5 := ⟨_, rfl, rfl, Or.inl (mx_in (by decide +kernel))⟩
theorem sX5_30 : mx_sl RX5 30 6 := ⟨_, rfl, rfl, Or.inl (mx_in (by decide +kernel))⟩
theorem sX5_33 : mx_sl RX5 33 7 := ⟨_, rfl, rfl, Or.inl (mx_in (by decide +kernel))⟩
theorem sX0_41 : mx_sl RX0 41 1 := ⟨_, rfl, rfl, Or.inr (List.mem_of_getElem? (i := 22) rfl)⟩
theorem sX0_48 : mx_sl RX0 48 0 := ⟨_, rfl, rfl, Or.inr (List.mem_of_getElem? (i := 23) rfl)⟩
theorem fX8_9 : mx_fl RX8 9 8 0 := ⟨_, _, _, mx_ck8, by decide, Or.inl (mx_in (by decide +kernel))⟩
theorem fX8_13 : mx_fl RX8 13 8 1 := ⟨_, _, _, mx_ck8, by decide, Or.inl (mx_in (by decide +kernel))⟩
theorem fX8_16 : mx_fl RX8 16 8 2 := ⟨_, _, _, mx_ck8, by decide, Or.inl (mx_in (by decide +kernel))⟩
theorem fX8_19 : mx_fl RX8 19 8 3 := ⟨_, _, _, mx_ck8, by decide, Or.inl (mx_in (by decide +kernel))⟩
theorem fX8_22 : mx_fl RX8 22 8 4 := ⟨_, _, _, mx_ck8, by decide, Or.inl (mx_in (by decide +kernel))⟩
theorem fX8_26 : mx_fl RX8 26 8 5 := ⟨_, _, _, mx_ck8, by decide, Or.inl (mx_in (by decide +kernel))⟩
theorem fX8_29 : mx_fl RX8 29 8 6 := ⟨_, _, _, mx_ck8, by decide, Or.inl (mx_in (by decide +kernel))⟩
theorem fX8_32 : mx_fl RX8 32 8 7 := ⟨_, _, _, mx_ck8, by decide, Or.inl (mx_in (by decide +kernel))⟩
theorem fX8_35 : mx_fl RX8 35 8 8 := ⟨_, _, _, mx_ck8, by decide, Or.inl (mx_in (by decide +kernel))⟩
theorem fX8_38 : mx_fl RX8 38 8 9 := ⟨_, _, _, mx_ck8, by decide, Or.inl (mx_in (by decide +kernel))⟩
theorem fX8_135 : mx_fl RX8 135 8 10 := ⟨_, _, _, mx_ck8, by decide, Or.inl (mx_in (by decide +kernel))⟩
theorem fX8_200 : mx_fl RX8 200 8 11 := ⟨_, _, _, mx_ck8, by decide, Or.inl (mx_in (by decide +kernel))⟩
theorem fX8_132 : mx_fl RX8 132 8 12 := ⟨_, _, _, mx_ck8, by decide, Or.inl (mx_in (by decide +kernel))⟩
theorem fX8_63 : mx_fl RX8 63 8 13 := ⟨_, _, _, mx_ck8, by decide, Or.inl (mx_in (by decide +kernel))⟩
theorem fX8_42 : mx_fl RX8 42 8 14 := ⟨_, _, _, mx_ck8, by decide, Or.inl (mx_in (by decide +kernel))⟩
theorem fX8_45 : mx_fl RX8 45 8 15 := ⟨_, _, _, mx_ck8, by decide, Or.inl (mx_in (by decide +kernel))⟩
theorem fX8_48 : mx_fl RX8 48 8 16 := ⟨_, _, _, mx_ck8, by decide, Or.inl (mx_in (by decide +kernel))⟩
theorem fX8_52 : mx_fl RX8 52 8 17 := ⟨_, _, _, mx_ck8, by decide, Or.inl (mx_in (by decide +kernel))⟩
theorem sX8_86 : mx_sl RX8 86 8 := ⟨_, rfl, rfl, Or.inl (mx_in (by decide +kernel))⟩
theorem sX8_89 : mx_sl RX8 89 9 := ⟨_, rfl, rfl, Or.inl (mx_in (by decide +kernel))⟩
theorem sX8_138 : mx_sl RX8 138 11 := ⟨_, rfl, rfl, Or.inl (mx_in (by decide +kernel))⟩
theorem sX8_141 : mx_sl RX8 141 10 := ⟨_, rfl, rfl, Or.inl (mx_in (by decide +kernel))⟩
theorem fp0_4 : mx_fp 0 4 .int := fun C T N h => by cases h; exact ⟨rfl, by decide +kernel⟩
theorem fp1_0 : mx_fp 1 0 .int := fun C T N h => by cases h; exact ⟨rfl, by decide +kernel⟩
theorem fp1_1 : mx_fp 1 1 .boolean := fun C T N h => by cases h; exact ⟨rfl, by decide +kernel⟩
theorem fp1_2 : mx_fp 1 2 .int := fun C T N h => by cases h; exact ⟨rfl, by decide +kernel⟩
theorem fp1_3 : mx_fp 1 3 .int := fun C T N h => by cases h; exact ⟨rfl, by decide +kernel⟩
theorem fp1_4 : mx_fp 1 4 .int := fun C T N h => by cases h; exact ⟨rfl, by decide +kernel⟩
theorem fp1_5 : mx_fp 1 5 .int := fun C T N h => by cases h; exact ⟨rfl, by decide +kernel⟩
theorem fp1_6 : mx_fp 1 6 .int := fun C T N h => by cases h; exact ⟨rfl, by decide +kernel⟩
theorem fp2_4 : mx_fp 2 4 .int := fun C T N h => by cases h; exact ⟨rfl, by decide +kernel⟩
theorem fp2_5 : mx_fp 2 5 .int := fun C T N h => by cases h; exact ⟨rfl, by decide +kernel⟩
theorem fp2_6 : mx_fp 2 6 .boolean := fun C T N h => by cases h; exact ⟨rfl, by decide +kernel⟩
theorem fp2_7 : mx_fp 2 7 .int := fun C T N h => by cases h; exact ⟨rfl, by decide +kernel⟩
theorem fp2_8 : mx_fp 2 8 .int := fun C T N h => by cases h; exact ⟨rfl, by decide +kernel⟩
theorem fp2_9 : mx_fp 2 9 .int := fun C T N h => by cases h; exact ⟨rfl, by decide +kernel⟩
theorem fp2_10 : mx_fp 2 10 .int := fun C T N h => by cases h; exact ⟨rfl, by decide +kernel⟩
theorem fp2_11 : mx_fp 2 11 .int := fun C T N h => by cases h; exact ⟨rfl, by decide +kernel⟩
theorem fp4_2 : mx_fp 4 2 .int := fun C T N h => by cases h; exact ⟨rfl, by decide +kernel⟩
theorem fp4_3 : mx_fp 4 3 .boolean := fun C T N h => by cases h; exact ⟨rfl, by decide +kernel⟩
theorem fp6_1 : mx_fp 6 1 .int := fun C T N h => by cases h; exact ⟨rfl, by decide +kernel⟩
theorem fp7_13 : mx_fp 7 13 .int := fun C T N h => by cases h; exact ⟨rfl, by decide +kernel⟩
theorem fp7_14 : mx_fp 7 14 .int := fun C T N h => by cases h; exact ⟨rfl, by decide +kernel⟩
theorem fp8_10 : mx_fp 8 10 .int := fun C T N h => by cases h; exact ⟨rfl, by decide +kernel⟩
theorem fp8_11 : mx_fp 8 11 .int := fun C T N h => by cases h; exact ⟨rfl, by decide +kernel⟩
theorem fp8_12 : mx_fp 8 12 .int := fun C T N h => by cases h; exact ⟨rfl, by decide +kernel⟩
theorem fp8_13 : mx_fp 8 13 .int := fun C T N h => by cases h; exact ⟨rfl, by decide +kernel⟩
theorem kX7_init : mx_cd yX7_init cX7_init 1 (none) 0 := ⟨List.mem_filter.mpr ⟨List.mem_append_right _ (List.mem_append_left _ (List.mem_of_getElem? (i := 21) rfl)), rfl⟩, mx_in (by decide +kernel), by decide +kernel, by decide +kernel⟩
theorem kX3_init : mx_cd yX3_init cX3_init 1 (none) 0 := ⟨List.mem_filter.mpr ⟨List.mem_append_right _ (List.mem_append_left _ (List.mem_of_getElem? (i := 29) rfl)), rfl⟩, mx_in (by decide +kernel), by decide +kernel, by decide +kernel⟩
theorem kX4_init : mx_cd yX4_init cX4_init 2 (none) 0 := ⟨List.mem_filter.mpr ⟨List.mem_append_right _ (List.mem_append_left _ (List.mem_of_getElem? (i := 40) rfl)), rfl⟩, mx_in (by decide +kernel), by decide +kernel, by decide +kernel⟩
theorem kX2_init : mx_cd yX2_init cX2_init 1 (none) 0 := ⟨List.mem_filter.mpr ⟨List.mem_append_right _ (List.mem_append_left _ (List.mem_of_getElem? (i := 64) rfl)), rfl⟩, mx_in (by decide +kernel), by decide +kernel, by decide +kernel⟩
theorem kX1_init : mx_cd yX1_init cX1_init 1 (none) 0 := ⟨List.mem_filter.mpr ⟨List.mem_append_right _ (List.mem_append_left _ (List.mem_of_getElem? (i := 116) rfl)), rfl⟩, mx_in (by decide +kernel), by decide +kernel, by decide +kernel⟩
theorem kX5_init : mx_cd yX5_init cX5_init 1 (none) 0 := ⟨List.mem_filter.mpr ⟨List.mem_append_right _ (List.mem_append_left _ (List.mem_of_getElem? (i := 151) rfl)), rfl⟩, mx_in (by decide +kernel), by decide +kernel, by decide +kernel⟩
theorem kX6_init : mx_cd yX6_init cX6_init 1 (none) 0 := ⟨List.mem_filter.mpr ⟨List.mem_append_right _ (List.mem_append_left _ (List.mem_of_getElem? (i := 164) rfl)), rfl⟩, mx_in (by decide +kernel), by decide +kernel, by decide +kernel⟩
theorem kX0_init : mx_cd yX0_init cX0_init 1 (none) 0 := ⟨List.mem_filter.mpr ⟨List.mem_append_right _ (List.mem_append_left _ (List.mem_of_getElem? (i := 179) rfl)), rfl⟩, mx_in (by decide +kernel), by decide +kernel, by decide +kernel⟩
theorem kX7_skill : mx_cd yX7_skill cX7_skill 7 ((some FieldType.int)) 4 := ⟨List.mem_filter.mpr ⟨List.mem_append_right _ (List.mem_append_right _ (List.mem_append_left _ (List.mem_of_getElem? (i := 8) rfl))), rfl⟩, mx_in (by decide +kernel), by decide +kernel, by decide +kernel⟩
theorem kX7_isTeam : mx_cd yX7_isTeam cX7_isTeam 1 ((some FieldType.boolean)) 1 := ⟨List.mem_filter.mpr ⟨List.mem_append_right _ (List.mem_append_right _ (List.mem_append_left _ (List.mem_of_getElem? (i := 11) rfl))), rfl⟩, mx_in (by decide +kernel), by decide +kernel, by decide +kernel⟩
theorem kX7_isPlayer : mx_cd yX7_isPlayer cX7_isPlayer 1 ((some FieldType.boolean)) 1 := ⟨List.mem_filter.mpr ⟨List.mem_append_right _ (List.mem_append_right _ (List.mem_append_left _ (List.mem_of_getElem? (i := 14) rfl))), rfl⟩, mx_in (by decide +kernel), by decide +kernel, by decide +kernel⟩
theorem kX7_squadOf : mx_cd yX7_squadOf cX7_squadOf 2 ((some (FieldType.object "SixWhoTurn$Squad"))) 1 := ⟨List.mem_filter.mpr ⟨List.mem_append_right _ (List.mem_append_right _ (List.mem_append_left _ (List.mem_of_getElem? (i := 18) rfl))), rfl⟩, mx_in (by decide +kernel), by decide +kernel, by decide +kernel⟩
theorem kX4_skillOf : mx_cd yX4_skillOf cX4_skillOf 4 ((some FieldType.int)) 2 := ⟨List.mem_filter.mpr ⟨List.mem_append_right _ (List.mem_append_right _ (List.mem_append_left _ (List.mem_of_getElem? (i := 22) rfl))), rfl⟩, mx_in (by decide +kernel), by decide +kernel, by decide +kernel⟩
theorem kX4_putSkill : mx_cd yX4_putSkill cX4_putSkill 5 (none) 3 := ⟨List.mem_filter.mpr ⟨List.mem_append_right _ (List.mem_append_right _ (List.mem_append_left _ (List.mem_of_getElem? (i := 26) rfl))), rfl⟩, mx_in (by decide +kernel), by decide +kernel, by decide +kernel⟩
theorem kX7_libre : mx_cd yX7_libre cX7_libre 5 ((some FieldType.int)) 2 := ⟨List.mem_filter.mpr ⟨List.mem_append_right _ (List.mem_append_right _ (List.mem_append_left _ (List.mem_of_getElem? (i := 30) rfl))), rfl⟩, mx_in (by decide +kernel), by decide +kernel, by decide +kernel⟩
theorem kX7_set : mx_cd yX7_set cX7_set 4 ((some FieldType.int)) 2 := ⟨List.mem_filter.mpr ⟨List.mem_append_right _ (List.mem_append_right _ (List.mem_append_left _ (List.mem_of_getElem? (i := 34) rfl))), rfl⟩, mx_in (by decide +kernel), by decide +kernel, by decide +kernel⟩
theorem kX3_takes : mx_cd yX3_takes cX3_takes 3 ((some FieldType.boolean)) 2 := ⟨List.mem_filter.mpr ⟨List.mem_append_right _ (List.mem_append_right _ (List.mem_append_left _ (List.mem_of_getElem? (i := 38) rfl))), rfl⟩, mx_in (by decide +kernel), by decide +kernel, by decide +kernel⟩
theorem kX3_valueOf : mx_cd yX3_valueOf cX3_valueOf 2 ((some FieldType.int)) 1 := ⟨List.mem_filter.mpr ⟨List.mem_append_right _ (List.mem_append_right _ (List.mem_append_left _ (List.mem_of_getElem? (i := 46) rfl))), rfl⟩, mx_in (by decide +kernel), by decide +kernel, by decide +kernel⟩
theorem kX3_putValue : mx_cd yX3_putValue cX3_putValue 3 (none) 2 := ⟨List.mem_filter.mpr ⟨List.mem_append_right _ (List.mem_append_right _ (List.mem_append_left _ (List.mem_of_getElem? (i := 50) rfl))), rfl⟩, mx_in (by decide +kernel), by decide +kernel, by decide +kernel⟩
theorem kX7_lineUp : mx_cd yX7_lineUp cX7_lineUp 10 ((some FieldType.boolean)) 7 := ⟨List.mem_filter.mpr ⟨List.mem_append_right _ (List.mem_append_right _ (List.mem_append_left _ (List.mem_of_getElem? (i := 54) rfl))), rfl⟩, mx_in (by decide +kernel), by decide +kernel, by decide +kernel⟩
theorem kX7_bitOf : mx_cd yX7_bitOf cX7_bitOf 1 ((some FieldType.int)) 1 := ⟨List.mem_filter.mpr ⟨List.mem_append_right _ (List.mem_append_right _ (List.mem_append_left _ (List.mem_of_getElem? (i := 57) rfl))), rfl⟩, mx_in (by decide +kernel), by decide +kernel, by decide +kernel⟩
theorem kJ6_bitCount_0f7a4 : mx_cd yJ6_bitCount_0f7a4 cJ6_bitCount_0f7a4 1 ((some FieldType.int)) 1 := ⟨List.mem_filter.mpr ⟨List.mem_append_right _ (List.mem_append_right _ (List.mem_append_left _ (List.mem_of_getElem? (i := 60) rfl))), rfl⟩, mx_in (by decide +kernel), by decide +kernel, by decide +kernel⟩
theorem kX4_tell : mx_cd yX4_tell cX4_tell 7 (none) 6 := ⟨List.mem_filter.mpr ⟨List.mem_append_right _ (List.mem_append_right _ (List.mem_append_left _ (List.mem_of_getElem? (i := 67) rfl))), rfl⟩, mx_in (by decide +kernel), by decide +kernel, by decide +kernel⟩
theorem kX7_begin : mx_cd yX7_begin cX7_begin 2 ((some FieldType.int)) 1 := ⟨List.mem_filter.mpr ⟨List.mem_append_right _ (List.mem_append_right _ (List.mem_append_left _ (List.mem_of_getElem? (i := 71) rfl))), rfl⟩, mx_in (by decide +kernel), by decide +kernel, by decide +kernel⟩
theorem kX4_isReady : mx_cd yX4_isReady cX4_isReady 2 ((some FieldType.boolean)) 0 := ⟨List.mem_filter.mpr ⟨List.mem_append_right _ (List.mem_append_right _ (List.mem_append_left _ (List.mem_of_getElem? (i := 75) rfl))), rfl⟩, mx_in (by decide +kernel), by decide +kernel, by decide +kernel⟩
theorem kX2_startSet : mx_cd yX2_startSet cX2_startSet 4 (none) 1 := ⟨List.mem_filter.mpr ⟨List.mem_append_right _ (List.mem_append_right _ (List.mem_append_left _ (List.mem_of_getElem? (i := 79) rfl))), rfl⟩, mx_in (by decide +kernel), by decide +kernel, by decide +kernel⟩
theorem kX5_stand : mx_cd yX5_stand cX5_stand 1 (none) 0 := ⟨List.mem_filter.mpr ⟨List.mem_append_right _ (List.mem_append_right _ (List.mem_append_left _ (List.mem_of_getElem? (i := 84) rfl))), rfl⟩, mx_in (by decide +kernel), by decide +kernel, by decide +kernel⟩
theorem kX1_startSet : mx_cd yX1_startSet cX1_startSet 2 (none) 1 := ⟨List.mem_filter.mpr ⟨List.mem_append_right _ (List.mem_append_right _ (List.mem_append_left _ (List.mem_of_getElem? (i := 95) rfl))), rfl⟩, mx_in (by decide +kernel), by decide +kernel, by decide +kernel⟩
theorem kX7_rally : mx_cd yX7_rally cX7_rally 2 ((some FieldType.int)) 1 := ⟨List.mem_filter.mpr ⟨List.mem_append_right _ (List.mem_append_right _ (List.mem_append_left _ (List.mem_of_getElem? (i := 99) rfl))), rfl⟩, mx_in (by decide +kernel), by decide +kernel, by decide +kernel⟩
theorem kX7_winRally : mx_cd yX7_winRally cX7_winRally 3 ((some FieldType.int)) 1 := ⟨List.mem_filter.mpr ⟨List.mem_append_right _ (List.mem_append_right _ (List.mem_append_left _ (List.mem_of_getElem? (i := 103) rfl))), rfl⟩, mx_in (by decide +kernel), by decide +kernel, by decide +kernel⟩
theorem kX7_courtOf : mx_cd yX7_courtOf cX7_courtOf 2 ((some (FieldType.object "SixWhoTurn$Court"))) 1 := ⟨List.mem_filter.mpr ⟨List.mem_append_right _ (List.mem_append_right _ (List.mem_append_left _ (List.mem_of_getElem? (i := 107) rfl))), rfl⟩, mx_in (by decide +kernel), by decide +kernel, by decide +kernel⟩
theorem kX2_countServe : mx_cd yX2_countServe cX2_countServe 2 (none) 0 := ⟨List.mem_filter.mpr ⟨List.mem_append_right _ (List.mem_append_right _ (List.mem_append_left _ (List.mem_of_getElem? (i := 111) rfl))), rfl⟩, mx_in (by decide +kernel), by decide +kernel, by decide +kernel⟩
theorem kX2_turnOn : mx_cd yX2_turnOn cX2_turnOn 3 (none) 0 := ⟨List.mem_filter.mpr ⟨List.mem_append_right _ (List.mem_append_right _ (List.mem_append_left _ (List.mem_of_getElem? (i := 115) rfl))), rfl⟩, mx_in (by decide +kernel), by decide +kernel, by decide +kernel⟩
theorem kX7_closeIfWon : mx_cd yX7_closeIfWon cX7_closeIfWon 5 ((some FieldType.int)) 1 := ⟨List.mem_filter.mpr ⟨List.mem_append_right _ (List.mem_append_right _ (List.mem_append_left _ (List.mem_of_getElem? (i := 119) rfl))), rfl⟩, mx_in (by decide +kernel), by decide +kernel, by decide +kernel⟩
theorem kX3_target : mx_cd yX3_target cX3_target 5 ((some FieldType.int)) 2 := ⟨List.mem_filter.mpr ⟨List.mem_append_right _ (List.mem_append_right _ (List.mem_append_left _ (List.mem_of_getElem? (i := 123) rfl))), rfl⟩, mx_in (by decide +kernel), by decide +kernel, by decide +kernel⟩
theorem kX3_wins : mx_cd yX3_wins cX3_wins 4 ((some FieldType.boolean)) 4 := ⟨List.mem_filter.mpr ⟨List.mem_append_right _ (List.mem_append_right _ (List.mem_append_left _ (List.mem_of_getElem? (i := 126) rfl))), rfl⟩, mx_in (by decide +kernel), by decide +kernel, by decide +kernel⟩
theorem kX7_may : mx_cd yX7_may cX7_may 5 ((some FieldType.int)) 3 := ⟨List.mem_filter.mpr ⟨List.mem_append_right _ (List.mem_append_right _ (List.mem_append_left _ (List.mem_of_getElem? (i := 130) rfl))), rfl⟩, mx_in (by decide +kernel), by decide +kernel, by decide +kernel⟩
theorem kX2_mayLeave : mx_cd yX2_mayLeave cX2_mayLeave 3 ((some FieldType.boolean)) 1 := ⟨List.mem_filter.mpr ⟨List.mem_append_right _ (List.mem_append_right _ (List.mem_append_left _ (List.mem_of_getElem? (i := 134) rfl))), rfl⟩, mx_in (by decide +kernel), by decide +kernel, by decide +kernel⟩
theorem kX2_placeOf : mx_cd yX2_placeOf cX2_placeOf 3 ((some FieldType.int)) 1 := ⟨List.mem_filter.mpr ⟨List.mem_append_right _ (List.mem_append_right _ (List.mem_append_left _ (List.mem_of_getElem? (i := 138) rfl))), rfl⟩, mx_in (by decide +kernel), by decide +kernel, by decide +kernel⟩
theorem kX2_mayEnter : mx_cd yX2_mayEnter cX2_mayEnter 2 ((some FieldType.boolean)) 1 := ⟨List.mem_filter.mpr ⟨List.mem_append_right _ (List.mem_append_right _ (List.mem_append_left _ (List.mem_of_getElem? (i := 142) rfl))), rfl⟩, mx_in (by decide +kernel), by decide +kernel, by decide +kernel⟩
theorem kX2_arePair : mx_cd yX2_arePair cX2_arePair 3 ((some FieldType.boolean)) 2 := ⟨List.mem_filter.mpr ⟨List.mem_append_right _ (List.mem_append_right _ (List.mem_append_left _ (List.mem_of_getElem? (i := 146) rfl))), rfl⟩, mx_in (by decide +kernel), by decide +kernel, by decide +kernel⟩
theorem kX7_change : mx_cd yX7_change cX7_change 4 ((some FieldType.int)) 3 := ⟨List.mem_filter.mpr ⟨List.mem_append_right _ (List.mem_append_right _ (List.mem_append_left _ (List.mem_of_getElem? (i := 150) rfl))), rfl⟩, mx_in (by decide +kernel), by decide +kernel, by decide +kernel⟩
theorem kX2_exchange : mx_cd yX2_exchange cX2_exchange 4 ((some FieldType.int)) 2 := ⟨List.mem_filter.mpr ⟨List.mem_append_right _ (List.mem_append_right _ (List.mem_append_left _ (List.mem_of_getElem? (i := 155) rfl))), rfl⟩, mx_in (by decide +kernel), by decide +kernel, by decide +kernel⟩
theorem kX7_free : mx_cd yX7_free cX7_free 4 ((some FieldType.int)) 2 := ⟨List.mem_filter.mpr ⟨List.mem_append_right _ (List.mem_append_right _ (List.mem_append_left _ (List.mem_of_getElem? (i := 160) rfl))), rfl⟩, mx_in (by decide +kernel), by decide +kernel, by decide +kernel⟩
theorem kX2_freeOff : mx_cd yX2_freeOff cX2_freeOff 2 ((some FieldType.int)) 0 := ⟨List.mem_filter.mpr ⟨List.mem_append_right _ (List.mem_append_right _ (List.mem_append_left _ (List.mem_of_getElem? (i := 164) rfl))), rfl⟩, mx_in (by decide +kernel), by decide +kernel, by decide +kernel⟩
theorem kX2_freeOn : mx_cd yX2_freeOn cX2_freeOn 3 ((some FieldType.int)) 1 := ⟨List.mem_filter.mpr ⟨List.mem_append_right _ (List.mem_append_right _ (List.mem_append_left _ (List.mem_of_getElem? (i := 168) rfl))), rfl⟩, mx_in (by decide +kernel), by decide +kernel, by decide +kernel⟩
theorem kX7_pause : mx_cd yX7_pause cX7_pause 3 ((some FieldType.int)) 1 := ⟨List.mem_filter.mpr ⟨List.mem_append_right _ (List.mem_append_right _ (List.mem_append_left _ (List.mem_of_getElem? (i := 172) rfl))), rfl⟩, mx_in (by decide +kernel), by decide +kernel, by decide +kernel⟩
theorem kX7_wrong : mx_cd yX7_wrong cX7_wrong 2 ((some FieldType.int)) 1 := ⟨List.mem_filter.mpr ⟨List.mem_append_right _ (List.mem_append_right _ (List.mem_append_left _ (List.mem_of_getElem? (i := 176) rfl))), rfl⟩, mx_in (by decide +kernel), by decide +kernel, by decide +kernel⟩
theorem kX7_at : mx_cd yX7_at cX7_at 3 ((some FieldType.int)) 2 := ⟨List.mem_filter.mpr ⟨List.mem_append_right _ (List.mem_append_right _ (List.mem_append_left _ (List.mem_of_getElem? (i := 180) rfl))), rfl⟩, mx_in (by decide +kernel), by decide +kernel, by decide +kernel⟩
theorem kX2_playerAt : mx_cd yX2_playerAt cX2_playerAt 2 ((some FieldType.int)) 1 := ⟨List.mem_filter.mpr ⟨List.mem_append_right _ (List.mem_append_right _ (List.mem_append_left _ (List.mem_of_getElem? (i := 184) rfl))), rfl⟩, mx_in (by decide +kernel), by decide +kernel, by decide +kernel⟩
theorem kX7_of : mx_cd yX7_of cX7_of 4 ((some FieldType.int)) 2 := ⟨List.mem_filter.mpr ⟨List.mem_append_right _ (List.mem_append_right _ (List.mem_append_left _ (List.mem_of_getElem? (i := 188) rfl))), rfl⟩, mx_in (by decide +kernel), by decide +kernel, by decide +kernel⟩
theorem kX2_freeStandsFor : mx_cd yX2_freeStandsFor cX2_freeStandsFor 1 ((some FieldType.int)) 0 := ⟨List.mem_filter.mpr ⟨List.mem_append_right _ (List.mem_append_right _ (List.mem_append_left _ (List.mem_of_getElem? (i := 192) rfl))), rfl⟩, mx_in (by decide +kernel), by decide +kernel, by decide +kernel⟩
theorem kX7_count : mx_cd yX7_count cX7_count 2 ((some FieldType.int)) 1 := ⟨List.mem_filter.mpr ⟨List.mem_append_right _ (List.mem_append_right _ (List.mem_append_left _ (List.mem_of_getElem? (i := 196) rfl))), rfl⟩, mx_in (by decide +kernel), by decide +kernel, by decide +kernel⟩
theorem kX7_served : mx_cd yX7_served cX7_served 3 ((some FieldType.int)) 2 := ⟨List.mem_filter.mpr ⟨List.mem_append_right _ (List.mem_append_right _ (List.mem_append_left _ (List.mem_of_getElem? (i := 200) rfl))), rfl⟩, mx_in (by decide +kernel), by decide +kernel, by decide +kernel⟩
theorem kX7_feet : mx_cd yX7_feet cX7_feet 5 ((some FieldType.boolean)) 4 := ⟨List.mem_filter.mpr ⟨List.mem_append_right _ (List.mem_append_right _ (List.mem_append_left _ (List.mem_of_getElem? (i := 204) rfl))), rfl⟩, mx_in (by decide +kernel), by decide +kernel, by decide +kernel⟩
theorem kX7_stanceOf : mx_cd yX7_stanceOf cX7_stanceOf 2 ((some (FieldType.object "SixWhoTurn$Stance"))) 1 := ⟨List.mem_filter.mpr ⟨List.mem_append_right _ (List.mem_append_right _ (List.mem_append_left _ (List.mem_of_getElem? (i := 208) rfl))), rfl⟩, mx_in (by decide +kernel), by decide +kernel, by decide +kernel⟩
theorem kX5_put : mx_cd yX5_put cX5_put 4 (none) 3 := ⟨List.mem_filter.mpr ⟨List.mem_append_right _ (List.mem_append_right _ (List.mem_append_left _ (List.mem_of_getElem? (i := 212) rfl))), rfl⟩, mx_in (by decide +kernel), by decide +kernel, by decide +kernel⟩
theorem kX7_overlap : mx_cd yX7_overlap cX7_overlap 2 ((some FieldType.int)) 1 := ⟨List.mem_filter.mpr ⟨List.mem_append_right _ (List.mem_append_right _ (List.mem_append_left _ (List.mem_of_getElem? (i := 216) rfl))), rfl⟩, mx_in (by decide +kernel), by decide +kernel, by decide +kernel⟩
theorem kX5_firstBroken : mx_cd yX5_firstBroken cX5_firstBroken 5 ((some FieldType.int)) 1 := ⟨List.mem_filter.mpr ⟨List.mem_append_right _ (List.mem_append_right _ (List.mem_append_left _ (List.mem_of_getElem? (i := 220) rfl))), rfl⟩, mx_in (by decide +kernel), by decide +kernel, by decide +kernel⟩
theorem kX7_sign : mx_cd yX7_sign cX7_sign 2 ((some FieldType.int)) 1 := ⟨List.mem_filter.mpr ⟨List.mem_append_right _ (List.mem_append_right _ (List.mem_append_left _ (List.mem_of_getElem? (i := 228) rfl))), rfl⟩, mx_in (by decide +kernel), by decide +kernel, by decide +kernel⟩
theorem kX6_append : mx_cd yX6_append cX6_append 2 (none) 1 := ⟨List.mem_filter.mpr ⟨List.mem_append_right _ (List.mem_append_right _ (List.mem_append_left _ (List.mem_of_getElem? (i := 232) rfl))), rfl⟩, mx_in (by decide +kernel), by decide +kernel, by decide +kernel⟩
theorem kX7_end : mx_cd yX7_end cX7_end 2 ((some FieldType.boolean)) 1 := ⟨List.mem_filter.mpr ⟨List.mem_append_right _ (List.mem_append_right _ (List.mem_append_left _ (List.mem_of_getElem? (i := 236) rfl))), rfl⟩, mx_in (by decide +kernel), by decide +kernel, by decide +kernel⟩
theorem kX7_sheet : mx_cd yX7_sheet cX7_sheet 3 ((some FieldType.int)) 0 := ⟨List.mem_filter.mpr ⟨List.mem_append_right _ (List.mem_append_right _ (List.mem_append_right _ (List.mem_append_left _ (List.mem_of_getElem? (i := 0) rfl)))), rfl⟩, mx_in (by decide +kernel), by decide +kernel, by decide +kernel⟩
theorem kX6_firstFault : mx_cd yX6_firstFault cX6_firstFault 5 ((some FieldType.int)) 1 := ⟨List.mem_filter.mpr ⟨List.mem_append_right _ (List.mem_append_right _ (List.mem_append_right _ (List.mem_append_left _ (List.mem_of_getElem? (i := 4) rfl)))), rfl⟩, mx_in (by decide +kernel), by decide +kernel, by decide +kernel⟩
theorem kJ9_min_7cf53 : mx_cd yJ9_min_7cf53 cJ9_min_7cf53 2 ((some FieldType.int)) 2 := ⟨List.mem_filter.mpr ⟨List.mem_append_right _ (List.mem_append_right _ (List.mem_append_right _ (List.mem_append_left _ (List.mem_of_getElem? (i := 7) rfl)))), rfl⟩, mx_in (by decide +kernel), by decide +kernel, by decide +kernel⟩
theorem kX6_faultInItem : mx_cd yX6_faultInItem cX6_faultInItem 4 ((some FieldType.int)) 1 := ⟨List.mem_filter.mpr ⟨List.mem_append_right _ (List.mem_append_right _ (List.mem_append_right _ (List.mem_append_left _ (List.mem_of_getElem? (i := 11) rfl)))), rfl⟩, mx_in (by decide +kernel), by decide +kernel, by decide +kernel⟩
theorem kX6_signAt : mx_cd yX6_signAt cX6_signAt 2 ((some FieldType.char)) 1 := ⟨List.mem_filter.mpr ⟨List.mem_append_right _ (List.mem_append_right _ (List.mem_append_right _ (List.mem_append_left _ (List.mem_of_getElem? (i := 15) rfl)))), rfl⟩, mx_in (by decide +kernel), by decide +kernel, by decide +kernel⟩
theorem kX6_playerOf : mx_cd yX6_playerOf cX6_playerOf 1 ((some FieldType.int)) 1 := ⟨List.mem_filter.mpr ⟨List.mem_append_right _ (List.mem_append_right _ (List.mem_append_right _ (List.mem_append_left _ (List.mem_of_getElem? (i := 18) rfl)))), rfl⟩, mx_in (by decide +kernel), by decide +kernel, by decide +kernel⟩
theorem kX6_itemLength : mx_cd yX6_itemLength cX6_itemLength 4 ((some FieldType.int)) 1 := ⟨List.mem_filter.mpr ⟨List.mem_append_right _ (List.mem_append_right _ (List.mem_append_right _ (List.mem_append_left _ (List.mem_of_getElem? (i := 22) rfl)))), rfl⟩, mx_in (by decide +kernel), by decide +kernel, by decide +kernel⟩
theorem kJ9_max_7cf53 : mx_cd yJ9_max_7cf53 cJ9_max_7cf53 2 ((some FieldType.int)) 2 := ⟨List.mem_filter.mpr ⟨List.mem_append_right _ (List.mem_append_right _ (List.mem_append_right _ (List.mem_append_left _ (List.mem_of_getElem? (i := 25) rfl)))), rfl⟩, mx_in (by decide +kernel), by decide +kernel, by decide +kernel⟩
theorem kX7_doItems : mx_cd yX7_doItems cX7_doItems 4 ((some FieldType.int)) 1 := ⟨List.mem_filter.mpr ⟨List.mem_append_right _ (List.mem_append_right _ (List.mem_append_right _ (List.mem_append_left _ (List.mem_of_getElem? (i := 29) rfl)))), rfl⟩, mx_in (by decide +kernel), by decide +kernel, by decide +kernel⟩
theorem kX7_saveMatch : mx_cd yX7_saveMatch cX7_saveMatch 1 (none) 0 := ⟨List.mem_filter.mpr ⟨List.mem_append_right _ (List.mem_append_right _ (List.mem_append_right _ (List.mem_append_left _ (List.mem_of_getElem? (i := 33) rfl)))), rfl⟩, mx_in (by decide +kernel), by decide +kernel, by decide +kernel⟩
theorem kX2_copyFrom : mx_cd yX2_copyFrom cX2_copyFrom 2 (none) 1 := ⟨List.mem_filter.mpr ⟨List.mem_append_right _ (List.mem_append_right _ (List.mem_append_right _ (List.mem_append_left _ (List.mem_of_getElem? (i := 37) rfl)))), rfl⟩, mx_in (by decide +kernel), by decide +kernel, by decide +kernel⟩
theorem kX1_copyFrom : mx_cd yX1_copyFrom cX1_copyFrom 2 (none) 1 := ⟨List.mem_filter.mpr ⟨List.mem_append_right _ (List.mem_append_right _ (List.mem_append_right _ (List.mem_append_left _ (List.mem_of_getElem? (i := 42) rfl)))), rfl⟩, mx_in (by decide +kernel), by decide +kernel, by decide +kernel⟩
theorem kX7_doItem : mx_cd yX7_doItem cX7_doItem 5 ((some FieldType.int)) 1 := ⟨List.mem_filter.mpr ⟨List.mem_append_right _ (List.mem_append_right _ (List.mem_append_right _ (List.mem_append_left _ (List.mem_of_getElem? (i := 46) rfl)))), rfl⟩, mx_in (by decide +kernel), by decide +kernel, by decide +kernel⟩
theorem kX7_restoreMatch : mx_cd yX7_restoreMatch cX7_restoreMatch 1 (none) 0 := ⟨List.mem_filter.mpr ⟨List.mem_append_right _ (List.mem_append_right _ (List.mem_append_right _ (List.mem_append_left _ (List.mem_of_getElem? (i := 56) rfl)))), rfl⟩, mx_in (by decide +kernel), by decide +kernel, by decide +kernel⟩
theorem kX7_odds : mx_cd yX7_odds cX7_odds 4 ((some FieldType.int)) 3 := ⟨List.mem_filter.mpr ⟨List.mem_append_right _ (List.mem_append_right _ (List.mem_append_right _ (List.mem_append_left _ (List.mem_of_getElem? (i := 62) rfl)))), rfl⟩, mx_in (by decide +kernel), by decide +kernel, by decide +kernel⟩
theorem kX7_takeCourts : mx_cd yX7_takeCourts cX7_takeCourts 1 (none) 0 := ⟨List.mem_filter.mpr ⟨List.mem_append_right _ (List.mem_append_right _ (List.mem_append_right _ (List.mem_append_left _ (List.mem_of_getElem? (i := 66) rfl)))), rfl⟩, mx_in (by decide +kernel), by decide +kernel, by decide +kernel⟩
theorem kX0_take : mx_cd yX0_take cX0_take 7 (none) 3 := ⟨List.mem_filter.mpr ⟨List.mem_append_right _ (List.mem_append_right _ (List.mem_append_right _ (List.mem_append_left _ (List.mem_of_getElem? (i := 70) rfl)))), rfl⟩, mx_in (by decide +kernel), by decide +kernel, by decide +kernel⟩
theorem kJ9_floorMod_7cf53 : mx_cd yJ9_floorMod_7cf53 cJ9_floorMod_7cf53 3 ((some FieldType.int)) 2 := ⟨List.mem_filter.mpr ⟨List.mem_append_right _ (List.mem_append_right _ (List.mem_append_right _ (List.mem_append_left _ (List.mem_of_getElem? (i := 73) rfl)))), rfl⟩, mx_in (by decide +kernel), by decide +kernel, by decide +kernel⟩
theorem kX0_rallyChance : mx_cd yX0_rallyChance cX0_rallyChance 13 ((some FieldType.int)) 5 := ⟨List.mem_filter.mpr ⟨List.mem_append_right _ (List.mem_append_right _ (List.mem_append_right _ (List.mem_append_left _ (List.mem_of_getElem? (i := 77) rfl)))), rfl⟩, mx_in (by decide +kernel), by decide +kernel, by decide +kernel⟩
theorem kX4_third : mx_cd yX4_third cX4_third 7 ((some FieldType.int)) 4 := ⟨List.mem_filter.mpr ⟨List.mem_append_right _ (List.mem_append_right _ (List.mem_append_right _ (List.mem_append_left _ (List.mem_of_getElem? (i := 84) rfl)))), rfl⟩, mx_in (by decide +kernel), by decide +kernel, by decide +kernel⟩
theorem kX7_chance : mx_cd yX7_chance cX7_chance 1 ((some FieldType.int)) 0 := ⟨List.mem_filter.mpr ⟨List.mem_append_right _ (List.mem_append_right _ (List.mem_append_right _ (List.mem_append_left _ (List.mem_of_getElem? (i := 94) rfl)))), rfl⟩, mx_in (by decide +kernel), by decide +kernel, by decide +kernel⟩
theorem kX7_chanceNow : mx_cd yX7_chanceNow cX7_chanceNow 1 ((some FieldType.int)) 0 := ⟨List.mem_filter.mpr ⟨List.mem_append_right _ (List.mem_append_right _ (List.mem_append_right _ (List.mem_append_left _ (List.mem_of_getElem? (i := 98) rfl)))), rfl⟩, mx_in (by decide +kernel), by decide +kernel, by decide +kernel⟩
theorem kX7_chanceFrom : mx_cd yX7_chanceFrom cX7_chanceFrom 5 ((some FieldType.int)) 3 := ⟨List.mem_filter.mpr ⟨List.mem_append_right _ (List.mem_append_right _ (List.mem_append_right _ (List.mem_append_left _ (List.mem_of_getElem? (i := 102) rfl)))), rfl⟩, mx_in (by decide +kernel), by decide +kernel, by decide +kernel⟩
theorem kX0_fillPhases : mx_cd yX0_fillPhases cX0_fillPhases 10 (none) 3 := ⟨List.mem_filter.mpr ⟨List.mem_append_right _ (List.mem_append_right _ (List.mem_append_right _ (List.mem_append_left _ (List.mem_of_getElem? (i := 106) rfl)))), rfl⟩, mx_in (by decide +kernel), by decide +kernel, by decide +kernel⟩
theorem kX0_setChance : mx_cd yX0_setChance cX0_setChance 8 ((some FieldType.int)) 4 := ⟨List.mem_filter.mpr ⟨List.mem_append_right _ (List.mem_append_right _ (List.mem_append_right _ (List.mem_append_left _ (List.mem_of_getElem? (i := 111) rfl)))), rfl⟩, mx_in (by decide +kernel), by decide +kernel, by decide +kernel⟩
theorem kX0_fillScore : mx_cd yX0_fillScore cX0_fillScore 7 (none) 3 := ⟨List.mem_filter.mpr ⟨List.mem_append_right _ (List.mem_append_right _ (List.mem_append_right _ (List.mem_append_left _ (List.mem_of_getElem? (i := 117) rfl)))), rfl⟩, mx_in (by decide +kernel), by decide +kernel, by decide +kernel⟩
theorem kX0_reckonScore : mx_cd yX0_reckonScore cX0_reckonScore 16 (none) 2 := ⟨List.mem_filter.mpr ⟨List.mem_append_right _ (List.mem_append_right _ (List.mem_append_right _ (List.mem_append_left _ (List.mem_of_getElem? (i := 121) rfl)))), rfl⟩, mx_in (by decide +kernel), by decide +kernel, by decide +kernel⟩
theorem kX0_valueAt : mx_cd yX0_valueAt cX0_valueAt 4 ((some FieldType.int)) 3 := ⟨List.mem_filter.mpr ⟨List.mem_append_right _ (List.mem_append_right _ (List.mem_append_right _ (List.mem_append_left _ (List.mem_of_getElem? (i := 126) rfl)))), rfl⟩, mx_in (by decide +kernel), by decide +kernel, by decide +kernel⟩
theorem kX7_weight : mx_cd yX7_weight cX7_weight 1 ((some FieldType.int)) 0 := ⟨List.mem_filter.mpr ⟨List.mem_append_right _ (List.mem_append_right _ (List.mem_append_right _ (List.mem_append_left _ (List.mem_of_getElem? (i := 130) rfl)))), rfl⟩, mx_in (by decide +kernel), by decide +kernel, by decide +kernel⟩
theorem kX0_weightOfRally : mx_cd yX0_weightOfRally cX0_weightOfRally 4 ((some FieldType.int)) 2 := ⟨List.mem_filter.mpr ⟨List.mem_append_right _ (List.mem_append_right _ (List.mem_append_right _ (List.mem_append_left _ (List.mem_of_getElem? (i := 134) rfl)))), rfl⟩, mx_in (by decide +kernel), by decide +kernel, by decide +kernel⟩
theorem kX7_turn : mx_cd yX7_turn cX7_turn 7 ((some FieldType.int)) 2 := ⟨List.mem_filter.mpr ⟨List.mem_append_right _ (List.mem_append_right _ (List.mem_append_right _ (List.mem_append_left _ (List.mem_of_getElem? (i := 138) rfl)))), rfl⟩, mx_in (by decide +kernel), by decide +kernel, by decide +kernel⟩
theorem kX7_isBetter : mx_cd yX7_isBetter cX7_isBetter 3 ((some FieldType.boolean)) 3 := ⟨List.mem_filter.mpr ⟨List.mem_append_right _ (List.mem_append_right _ (List.mem_append_right _ (List.mem_append_left _ (List.mem_of_getElem? (i := 141) rfl)))), rfl⟩, mx_in (by decide +kernel), by decide +kernel, by decide +kernel⟩
theorem kX7_tellRow : mx_cd yX7_tellRow cX7_tellRow 2 (none) 1 := ⟨List.mem_filter.mpr ⟨List.mem_append_right _ (List.mem_append_right _ (List.mem_append_right _ (List.mem_append_left _ (List.mem_of_getElem? (i := 145) rfl)))), rfl⟩, mx_in (by decide +kernel), by decide +kernel, by decide +kernel⟩
theorem kX7_advice : mx_cd yX7_advice cX7_advice 7 ((some FieldType.int)) 1 := ⟨List.mem_filter.mpr ⟨List.mem_append_right _ (List.mem_append_right _ (List.mem_append_right _ (List.mem_append_left _ (List.mem_of_getElem? (i := 149) rfl)))), rfl⟩, mx_in (by decide +kernel), by decide +kernel, by decide +kernel⟩
theorem kX7_chanceAfter : mx_cd yX7_chanceAfter cX7_chanceAfter 5 ((some FieldType.int)) 3 := ⟨List.mem_filter.mpr ⟨List.mem_append_right _ (List.mem_append_right _ (List.mem_append_right _ (List.mem_append_left _ (List.mem_of_getElem? (i := 153) rfl)))), rfl⟩, mx_in (by decide +kernel), by decide +kernel, by decide +kernel⟩
theorem kX0_replace : mx_cd yX0_replace cX0_replace 6 (none) 3 := ⟨List.mem_filter.mpr ⟨List.mem_append_right _ (List.mem_append_right _ (List.mem_append_right _ (List.mem_append_left _ (List.mem_of_getElem? (i := 157) rfl)))), rfl⟩, mx_in (by decide +kernel), by decide +kernel, by decide +kernel⟩
theorem kX7_row : mx_cd yX7_row cX7_row 2 ((some FieldType.int)) 1 := ⟨List.mem_filter.mpr ⟨List.mem_append_right _ (List.mem_append_right _ (List.mem_append_right _ (List.mem_append_left _ (List.mem_of_getElem? (i := 165) rfl)))), rfl⟩, mx_in (by decide +kernel), by decide +kernel, by decide +kernel⟩
theorem kX8_init : mx_cd yX8_init cX8_init 3 (none) 0 := ⟨List.mem_filter.mpr ⟨List.mem_append_right _ (List.mem_append_right _ (List.mem_append_right _ (List.mem_append_left _ (List.mem_of_getElem? (i := 231) rfl)))), rfl⟩, mx_in (by decide +kernel), by decide +kernel, by decide +kernel⟩
theorem kX8_put : mx_cd yX8_put cX8_put 4 (none) 3 := ⟨List.mem_filter.mpr ⟨List.mem_append_right _ (List.mem_append_right _ (List.mem_append_right _ (List.mem_append_left _ (List.mem_of_getElem? (i := 237) rfl)))), rfl⟩, mx_in (by decide +kernel), by decide +kernel, by decide +kernel⟩
theorem kX8_stand : mx_cd yX8_stand cX8_stand 3 (none) 0 := ⟨List.mem_filter.mpr ⟨List.mem_append_right _ (List.mem_append_right _ (List.mem_append_right _ (List.mem_append_right _ (List.mem_append_left _ (List.mem_of_getElem? (i := 1) rfl))))), rfl⟩, mx_in (by decide +kernel), by decide +kernel, by decide +kernel⟩
theorem kX8_thrown : mx_cd yX8_thrown cX8_thrown 1 ((some FieldType.int)) 0 := ⟨List.mem_filter.mpr ⟨List.mem_append_right _ (List.mem_append_right _ (List.mem_append_right _ (List.mem_append_right _ (List.mem_append_left _ (List.mem_of_getElem? (i := 63) rfl))))), rfl⟩, mx_in (by decide +kernel), by decide +kernel, by decide +kernel⟩
theorem kX8_skill : mx_cd yX8_skill cX8_skill 6 ((some FieldType.int)) 4 := ⟨List.mem_filter.mpr ⟨List.mem_append_right _ (List.mem_append_right _ (List.mem_append_right _ (List.mem_append_right _ (List.mem_append_left _ (List.mem_of_getElem? (i := 67) rfl))))), rfl⟩, mx_in (by decide +kernel), by decide +kernel, by decide +kernel⟩
theorem kX8_isTeam : mx_cd yX8_isTeam cX8_isTeam 1 ((some FieldType.boolean)) 1 := ⟨List.mem_filter.mpr ⟨List.mem_append_right _ (List.mem_append_right _ (List.mem_append_right _ (List.mem_append_right _ (List.mem_append_left _ (List.mem_of_getElem? (i := 70) rfl))))), rfl⟩, mx_in (by decide +kernel), by decide +kernel, by decide +kernel⟩
theorem kX8_isPlayer : mx_cd yX8_isPlayer cX8_isPlayer 1 ((some FieldType.boolean)) 1 := ⟨List.mem_filter.mpr ⟨List.mem_append_right _ (List.mem_append_right _ (List.mem_append_right _ (List.mem_append_right _ (List.mem_append_left _ (List.mem_of_getElem? (i := 73) rfl))))), rfl⟩, mx_in (by decide +kernel), by decide +kernel, by decide +kernel⟩
theorem kX8_in : mx_cd yX8_in cX8_in 3 ((some FieldType.boolean)) 3 := ⟨List.mem_filter.mpr ⟨List.mem_append_right _ (List.mem_append_right _ (List.mem_append_right _ (List.mem_append_right _ (List.mem_append_left _ (List.mem_of_getElem? (i := 76) rfl))))), rfl⟩, mx_in (by decide +kernel), by decide +kernel, by decide +kernel⟩
theorem kX8_skillOf : mx_cd yX8_skillOf cX8_skillOf 4 ((some FieldType.int)) 3 := ⟨List.mem_filter.mpr ⟨List.mem_append_right _ (List.mem_append_right _ (List.mem_append_right _ (List.mem_append_right _ (List.mem_append_left _ (List.mem_of_getElem? (i := 80) rfl))))), rfl⟩, mx_in (by decide +kernel), by decide +kernel, by decide +kernel⟩
theorem kX8_libre : mx_cd yX8_libre cX8_libre 4 ((some FieldType.int)) 2 := ⟨List.mem_filter.mpr ⟨List.mem_append_right _ (List.mem_append_right _ (List.mem_append_right _ (List.mem_append_right _ (List.mem_append_left _ (List.mem_of_getElem? (i := 84) rfl))))), rfl⟩, mx_in (by decide +kernel), by decide +kernel, by decide +kernel⟩
theorem kX8_isOn : mx_cd yX8_isOn cX8_isOn 1 ((some FieldType.boolean)) 0 := ⟨List.mem_filter.mpr ⟨List.mem_append_right _ (List.mem_append_right _ (List.mem_append_right _ (List.mem_append_right _ (List.mem_append_left _ (List.mem_of_getElem? (i := 88) rfl))))), rfl⟩, mx_in (by decide +kernel), by decide +kernel, by decide +kernel⟩
theorem kX8_set : mx_cd yX8_set cX8_set 4 ((some FieldType.int)) 2 := ⟨List.mem_filter.mpr ⟨List.mem_append_right _ (List.mem_append_right _ (List.mem_append_right _ (List.mem_append_right _ (List.mem_append_left _ (List.mem_of_getElem? (i := 92) rfl))))), rfl⟩, mx_in (by decide +kernel), by decide +kernel, by decide +kernel⟩
theorem kX8_lineUp : mx_cd yX8_lineUp cX8_lineUp 10 ((some FieldType.boolean)) 7 := ⟨List.mem_filter.mpr ⟨List.mem_append_right _ (List.mem_append_right _ (List.mem_append_right _ (List.mem_append_right _ (List.mem_append_left _ (List.mem_of_getElem? (i := 100) rfl))))), rfl⟩, mx_in (by decide +kernel), by decide +kernel, by decide +kernel⟩
theorem kX8_begin : mx_cd yX8_begin cX8_begin 5 ((some FieldType.int)) 1 := ⟨List.mem_filter.mpr ⟨List.mem_append_right _ (List.mem_append_right _ (List.mem_append_right _ (List.mem_append_right _ (List.mem_append_left _ (List.mem_of_getElem? (i := 104) rfl))))), rfl⟩, mx_in (by decide +kernel), by decide +kernel, by decide +kernel⟩
theorem kX8_hasFree : mx_cd yX8_hasFree cX8_hasFree 3 ((some FieldType.boolean)) 1 := ⟨List.mem_filter.mpr ⟨List.mem_append_right _ (List.mem_append_right _ (List.mem_append_right _ (List.mem_append_right _ (List.mem_append_left _ (List.mem_of_getElem? (i := 108) rfl))))), rfl⟩, mx_in (by decide +kernel), by decide +kernel, by decide +kernel⟩
theorem kX8_get : mx_cd yX8_get cX8_get 3 ((some FieldType.int)) 2 := ⟨List.mem_filter.mpr ⟨List.mem_append_right _ (List.mem_append_right _ (List.mem_append_right _ (List.mem_append_right _ (List.mem_append_left _ (List.mem_of_getElem? (i := 112) rfl))))), rfl⟩, mx_in (by decide +kernel), by decide +kernel, by decide +kernel⟩
theorem kX8_rally : mx_cd yX8_rally cX8_rally 2 ((some FieldType.int)) 1 := ⟨List.mem_filter.mpr ⟨List.mem_append_right _ (List.mem_append_right _ (List.mem_append_right _ (List.mem_append_right _ (List.mem_append_left _ (List.mem_of_getElem? (i := 116) rfl))))), rfl⟩, mx_in (by decide +kernel), by decide +kernel, by decide +kernel⟩
theorem kX8_point : mx_cd yX8_point cX8_point 4 ((some FieldType.int)) 1 := ⟨List.mem_filter.mpr ⟨List.mem_append_right _ (List.mem_append_right _ (List.mem_append_right _ (List.mem_append_right _ (List.mem_append_left _ (List.mem_of_getElem? (i := 120) rfl))))), rfl⟩, mx_in (by decide +kernel), by decide +kernel, by decide +kernel⟩
theorem kX8_goal : mx_cd yX8_goal cX8_goal 1 ((some FieldType.int)) 0 := ⟨List.mem_filter.mpr ⟨List.mem_append_right _ (List.mem_append_right _ (List.mem_append_right _ (List.mem_append_right _ (List.mem_append_left _ (List.mem_of_getElem? (i := 124) rfl))))), rfl⟩, mx_in (by decide +kernel), by decide +kernel, by decide +kernel⟩
theorem kX8_isLastSet : mx_cd yX8_isLastSet cX8_isLastSet 1 ((some FieldType.boolean)) 0 := ⟨List.mem_filter.mpr ⟨List.mem_append_right _ (List.mem_append_right _ (List.mem_append_right _ (List.mem_append_right _ (List.mem_append_left _ (List.mem_of_getElem? (i := 128) rfl))))), rfl⟩, mx_in (by decide +kernel), by decide +kernel, by decide +kernel⟩
theorem kX8_turn : mx_cd yX8_turn cX8_turn 4 (none) 1 := ⟨List.mem_filter.mpr ⟨List.mem_append_right _ (List.mem_append_right _ (List.mem_append_right _ (List.mem_append_right _ (List.mem_append_left _ (List.mem_of_getElem? (i := 132) rfl))))), rfl⟩, mx_in (by decide +kernel), by decide +kernel, by decide +kernel⟩
theorem kX8_wins : mx_cd yX8_wins cX8_wins 4 ((some FieldType.boolean)) 3 := ⟨List.mem_filter.mpr ⟨List.mem_append_right _ (List.mem_append_right _ (List.mem_append_right _ (List.mem_append_right _ (List.mem_append_left _ (List.mem_of_getElem? (i := 136) rfl))))), rfl⟩, mx_in (by decide +kernel), by decide +kernel, by decide +kernel⟩
theorem kX8_may : mx_cd yX8_may cX8_may 4 ((some FieldType.int)) 3 := ⟨List.mem_filter.mpr ⟨List.mem_append_right _ (List.mem_append_right _ (List.mem_append_right _ (List.mem_append_right _ (List.mem_append_left _ (List.mem_of_getElem? (i := 140) rfl))))), rfl⟩, mx_in (by decide +kernel), by decide +kernel, by decide +kernel⟩
theorem kX8_mayNot : mx_cd yX8_mayNot cX8_mayNot 6 ((some FieldType.int)) 3 := ⟨List.mem_filter.mpr ⟨List.mem_append_right _ (List.mem_append_right _ (List.mem_append_right _ (List.mem_append_right _ (List.mem_append_left _ (List.mem_of_getElem? (i := 144) rfl))))), rfl⟩, mx_in (by decide +kernel), by decide +kernel, by decide +kernel⟩
theorem kX8_placeOf : mx_cd yX8_placeOf cX8_placeOf 4 ((some FieldType.int)) 2 := ⟨List.mem_filter.mpr ⟨List.mem_append_right _ (List.mem_append_right _ (List.mem_append_right _ (List.mem_append_right _ (List.mem_append_left _ (List.mem_of_getElem? (i := 148) rfl))))), rfl⟩, mx_in (by decide +kernel), by decide +kernel, by decide +kernel⟩
theorem kX8_change : mx_cd yX8_change cX8_change 4 ((some FieldType.int)) 3 := ⟨List.mem_filter.mpr ⟨List.mem_append_right _ (List.mem_append_right _ (List.mem_append_right _ (List.mem_append_right _ (List.mem_append_left _ (List.mem_of_getElem? (i := 152) rfl))))), rfl⟩, mx_in (by decide +kernel), by decide +kernel, by decide +kernel⟩
theorem kX8_doChange : mx_cd yX8_doChange cX8_doChange 6 ((some FieldType.int)) 3 := ⟨List.mem_filter.mpr ⟨List.mem_append_right _ (List.mem_append_right _ (List.mem_append_right _ (List.mem_append_right _ (List.mem_append_left _ (List.mem_of_getElem? (i := 156) rfl))))), rfl⟩, mx_in (by decide +kernel), by decide +kernel, by decide +kernel⟩
theorem kX8_free : mx_cd yX8_free cX8_free 3 ((some FieldType.int)) 2 := ⟨List.mem_filter.mpr ⟨List.mem_append_right _ (List.mem_append_right _ (List.mem_append_right _ (List.mem_append_right _ (List.mem_append_left _ (List.mem_of_getElem? (i := 160) rfl))))), rfl⟩, mx_in (by decide +kernel), by decide +kernel, by decide +kernel⟩
theorem kX8_doFree : mx_cd yX8_doFree cX8_doFree 4 ((some FieldType.int)) 2 := ⟨List.mem_filter.mpr ⟨List.mem_append_right _ (List.mem_append_right _ (List.mem_append_right _ (List.mem_append_right _ (List.mem_append_left _ (List.mem_of_getElem? (i := 164) rfl))))), rfl⟩, mx_in (by decide +kernel), by decide +kernel, by decide +kernel⟩
theorem kX8_pause : mx_cd yX8_pause cX8_pause 2 ((some FieldType.int)) 1 := ⟨List.mem_filter.mpr ⟨List.mem_append_right _ (List.mem_append_right _ (List.mem_append_right _ (List.mem_append_right _ (List.mem_append_left _ (List.mem_of_getElem? (i := 168) rfl))))), rfl⟩, mx_in (by decide +kernel), by decide +kernel, by decide +kernel⟩
theorem kX8_doPause : mx_cd yX8_doPause cX8_doPause 2 ((some FieldType.int)) 1 := ⟨List.mem_filter.mpr ⟨List.mem_append_right _ (List.mem_append_right _ (List.mem_append_right _ (List.mem_append_right _ (List.mem_append_left _ (List.mem_of_getElem? (i := 172) rfl))))), rfl⟩, mx_in (by decide +kernel), by decide +kernel, by decide +kernel⟩
theorem kX8_wrong : mx_cd yX8_wrong cX8_wrong 3 ((some FieldType.int)) 1 := ⟨List.mem_filter.mpr ⟨List.mem_append_right _ (List.mem_append_right _ (List.mem_append_right _ (List.mem_append_right _ (List.mem_append_left _ (List.mem_of_getElem? (i := 176) rfl))))), rfl⟩, mx_in (by decide +kernel), by decide +kernel, by decide +kernel⟩
theorem kX8_at : mx_cd yX8_at cX8_at 3 ((some FieldType.int)) 2 := ⟨List.mem_filter.mpr ⟨List.mem_append_right _ (List.mem_append_right _ (List.mem_append_right _ (List.mem_append_right _ (List.mem_append_left _ (List.mem_of_getElem? (i := 180) rfl))))), rfl⟩, mx_in (by decide +kernel), by decide +kernel, by decide +kernel⟩
theorem kX8_of : mx_cd yX8_of cX8_of 3 ((some FieldType.int)) 2 := ⟨List.mem_filter.mpr ⟨List.mem_append_right _ (List.mem_append_right _ (List.mem_append_right _ (List.mem_append_right _ (List.mem_append_left _ (List.mem_of_getElem? (i := 184) rfl))))), rfl⟩, mx_in (by decide +kernel), by decide +kernel, by decide +kernel⟩
theorem kX8_count : mx_cd yX8_count cX8_count 2 ((some FieldType.int)) 1 := ⟨List.mem_filter.mpr ⟨List.mem_append_right _ (List.mem_append_right _ (List.mem_append_right _ (List.mem_append_right _ (List.mem_append_left _ (List.mem_of_getElem? (i := 188) rfl))))), rfl⟩, mx_in (by decide +kernel), by decide +kernel, by decide +kernel⟩
theorem kX8_served : mx_cd yX8_served cX8_served 3 ((some FieldType.int)) 2 := ⟨List.mem_filter.mpr ⟨List.mem_append_right _ (List.mem_append_right _ (List.mem_append_right _ (List.mem_append_right _ (List.mem_append_left _ (List.mem_of_getElem? (i := 192) rfl))))), rfl⟩, mx_in (by decide +kernel), by decide +kernel, by decide +kernel⟩
theorem kX8_feet : mx_cd yX8_feet cX8_feet 5 ((some FieldType.boolean)) 4 := ⟨List.mem_filter.mpr ⟨List.mem_append_right _ (List.mem_append_right _ (List.mem_append_right _ (List.mem_append_right _ (List.mem_append_left _ (List.mem_of_getElem? (i := 196) rfl))))), rfl⟩, mx_in (by decide +kernel), by decide +kernel, by decide +kernel⟩
theorem kX8_overlap : mx_cd yX8_overlap cX8_overlap 4 ((some FieldType.int)) 1 := ⟨List.mem_filter.mpr ⟨List.mem_append_right _ (List.mem_append_right _ (List.mem_append_right _ (List.mem_append_right _ (List.mem_append_left _ (List.mem_of_getElem? (i := 200) rfl))))), rfl⟩, mx_in (by decide +kernel), by decide +kernel, by decide +kernel⟩
theorem kX8_sign : mx_cd yX8_sign cX8_sign 3 ((some FieldType.int)) 1 := ⟨List.mem_filter.mpr ⟨List.mem_append_right _ (List.mem_append_right _ (List.mem_append_right _ (List.mem_append_right _ (List.mem_append_left _ (List.mem_of_getElem? (i := 208) rfl))))), rfl⟩, mx_in (by decide +kernel), by decide +kernel, by decide +kernel⟩
theorem kX8_end : mx_cd yX8_end cX8_end 2 ((some FieldType.boolean)) 1 := ⟨List.mem_filter.mpr ⟨List.mem_append_right _ (List.mem_append_right _ (List.mem_append_right _ (List.mem_append_right _ (List.mem_append_left _ (List.mem_of_getElem? (i := 212) rfl))))), rfl⟩, mx_in (by decide +kernel), by decide +kernel, by decide +kernel⟩
theorem kX8_sheet : mx_cd yX8_sheet cX8_sheet 5 ((some FieldType.int)) 0 := ⟨List.mem_filter.mpr ⟨List.mem_append_right _ (List.mem_append_right _ (List.mem_append_right _ (List.mem_append_right _ (List.mem_append_left _ (List.mem_of_getElem? (i := 216) rfl))))), rfl⟩, mx_in (by decide +kernel), by decide +kernel, by decide +kernel⟩
theorem kX8_reads : mx_cd yX8_reads cX8_reads 6 ((some FieldType.int)) 2 := ⟨List.mem_filter.mpr ⟨List.mem_append_right _ (List.mem_append_right _ (List.mem_append_right _ (List.mem_append_right _ (List.mem_append_left _ (List.mem_of_getElem? (i := 221) rfl))))), rfl⟩, mx_in (by decide +kernel), by decide +kernel, by decide +kernel⟩
theorem kX8_playerOf : mx_cd yX8_playerOf cX8_playerOf 1 ((some FieldType.int)) 1 := ⟨List.mem_filter.mpr ⟨List.mem_append_right _ (List.mem_append_right _ (List.mem_append_right _ (List.mem_append_right _ (List.mem_append_left _ (List.mem_of_getElem? (i := 224) rfl))))), rfl⟩, mx_in (by decide +kernel), by decide +kernel, by decide +kernel⟩
theorem kX8_putAside : mx_cd yX8_putAside cX8_putAside 2 (none) 0 := ⟨List.mem_filter.mpr ⟨List.mem_append_right _ (List.mem_append_right _ (List.mem_append_right _ (List.mem_append_right _ (List.mem_append_left _ (List.mem_of_getElem? (i := 228) rfl))))), rfl⟩, mx_in (by decide +kernel), by decide +kernel, by decide +kernel⟩
theorem kX8_doItem : mx_cd yX8_doItem cX8_doItem 6 ((some FieldType.boolean)) 1 := ⟨List.mem_filter.mpr ⟨List.mem_append_right _ (List.mem_append_right _ (List.mem_append_right _ (List.mem_append_right _ (List.mem_append_left _ (List.mem_of_getElem? (i := 232) rfl))))), rfl⟩, mx_in (by decide +kernel), by decide +kernel, by decide +kernel⟩
theorem kX8_putBack : mx_cd yX8_putBack cX8_putBack 2 (none) 0 := ⟨List.mem_filter.mpr ⟨List.mem_append_right _ (List.mem_append_right _ (List.mem_append_right _ (List.mem_append_right _ (List.mem_append_left _ (List.mem_of_getElem? (i := 236) rfl))))), rfl⟩, mx_in (by decide +kernel), by decide +kernel, by decide +kernel⟩
theorem kX8_odds : mx_cd yX8_odds cX8_odds 4 ((some FieldType.int)) 3 := ⟨List.mem_filter.mpr ⟨List.mem_append_right _ (List.mem_append_right _ (List.mem_append_right _ (List.mem_append_right _ (List.mem_append_right _ (List.mem_of_getElem? (i := 0) rfl))))), rfl⟩, mx_in (by decide +kernel), by decide +kernel, by decide +kernel⟩
theorem kX8_countNow : mx_cd yX8_countNow cX8_countNow 4 (none) 0 := ⟨List.mem_filter.mpr ⟨List.mem_append_right _ (List.mem_append_right _ (List.mem_append_right _ (List.mem_append_right _ (List.mem_append_right _ (List.mem_of_getElem? (i := 4) rfl))))), rfl⟩, mx_in (by decide +kernel), by decide +kernel, by decide +kernel⟩
theorem kX8_oddsOf : mx_cd yX8_oddsOf cX8_oddsOf 7 ((some FieldType.int)) 3 := ⟨List.mem_filter.mpr ⟨List.mem_append_right _ (List.mem_append_right _ (List.mem_append_right _ (List.mem_append_right _ (List.mem_append_right _ (List.mem_of_getElem? (i := 8) rfl))))), rfl⟩, mx_in (by decide +kernel), by decide +kernel, by decide +kernel⟩
theorem kX8_later : mx_cd yX8_later cX8_later 4 ((some FieldType.int)) 3 := ⟨List.mem_filter.mpr ⟨List.mem_append_right _ (List.mem_append_right _ (List.mem_append_right _ (List.mem_append_right _ (List.mem_append_right _ (List.mem_of_getElem? (i := 12) rfl))))), rfl⟩, mx_in (by decide +kernel), by decide +kernel, by decide +kernel⟩
theorem kX8_sum : mx_cd yX8_sum cX8_sum 7 ((some FieldType.int)) 6 := ⟨List.mem_filter.mpr ⟨List.mem_append_right _ (List.mem_append_right _ (List.mem_append_right _ (List.mem_append_right _ (List.mem_append_right _ (List.mem_of_getElem? (i := 16) rfl))))), rfl⟩, mx_in (by decide +kernel), by decide +kernel, by decide +kernel⟩
theorem kX8_chance : mx_cd yX8_chance cX8_chance 1 ((some FieldType.int)) 0 := ⟨List.mem_filter.mpr ⟨List.mem_append_right _ (List.mem_append_right _ (List.mem_append_right _ (List.mem_append_right _ (List.mem_append_right _ (List.mem_of_getElem? (i := 21) rfl))))), rfl⟩, mx_in (by decide +kernel), by decide +kernel, by decide +kernel⟩
theorem kX8_fill : mx_cd yX8_fill cX8_fill 10 (none) 1 := ⟨List.mem_filter.mpr ⟨List.mem_append_right _ (List.mem_append_right _ (List.mem_append_right _ (List.mem_append_right _ (List.mem_append_right _ (List.mem_of_getElem? (i := 25) rfl))))), rfl⟩, mx_in (by decide +kernel), by decide +kernel, by decide +kernel⟩
theorem kX8_cell : mx_cd yX8_cell cX8_cell 5 ((some FieldType.int)) 5 := ⟨List.mem_filter.mpr ⟨List.mem_append_right _ (List.mem_append_right _ (List.mem_append_right _ (List.mem_append_right _ (List.mem_append_right _ (List.mem_of_getElem? (i := 30) rfl))))), rfl⟩, mx_in (by decide +kernel), by decide +kernel, by decide +kernel⟩
theorem kX8_mean : mx_cd yX8_mean cX8_mean 5 ((some FieldType.long)) 3 := ⟨List.mem_filter.mpr ⟨List.mem_append_right _ (List.mem_append_right _ (List.mem_append_right _ (List.mem_append_right _ (List.mem_append_right _ (List.mem_of_getElem? (i := 33) rfl))))), rfl⟩, mx_in (by decide +kernel), by decide +kernel, by decide +kernel⟩
theorem kX8_now : mx_cd yX8_now cX8_now 1 ((some FieldType.int)) 0 := ⟨List.mem_filter.mpr ⟨List.mem_append_right _ (List.mem_append_right _ (List.mem_append_right _ (List.mem_append_right _ (List.mem_append_right _ (List.mem_of_getElem? (i := 38) rfl))))), rfl⟩, mx_in (by decide +kernel), by decide +kernel, by decide +kernel⟩
theorem kX8_weight : mx_cd yX8_weight cX8_weight 8 ((some FieldType.int)) 0 := ⟨List.mem_filter.mpr ⟨List.mem_append_right _ (List.mem_append_right _ (List.mem_append_right _ (List.mem_append_right _ (List.mem_append_right _ (List.mem_of_getElem? (i := 42) rfl))))), rfl⟩, mx_in (by decide +kernel), by decide +kernel, by decide +kernel⟩
theorem kX8_turn_ : mx_cd yX8_turn_ cX8_turn_ 9 ((some FieldType.int)) 2 := ⟨List.mem_filter.mpr ⟨List.mem_append_right _ (List.mem_append_right _ (List.mem_append_right _ (List.mem_append_right _ (List.mem_append_right _ (List.mem_of_getElem? (i := 46) rfl))))), rfl⟩, mx_in (by decide +kernel), by decide +kernel, by decide +kernel⟩
theorem kX8_advice : mx_cd yX8_advice cX8_advice 7 ((some FieldType.int)) 1 := ⟨List.mem_filter.mpr ⟨List.mem_append_right _ (List.mem_append_right _ (List.mem_append_right _ (List.mem_append_right _ (List.mem_append_right _ (List.mem_of_getElem? (i := 50) rfl))))), rfl⟩, mx_in (by decide +kernel), by decide +kernel, by decide +kernel⟩
theorem kX8_row : mx_cd yX8_row cX8_row 2 ((some FieldType.int)) 1 := ⟨List.mem_filter.mpr ⟨List.mem_append_right _ (List.mem_append_right _ (List.mem_append_right _ (List.mem_append_right _ (List.mem_append_right _ (List.mem_of_getElem? (i := 54) rfl))))), rfl⟩, mx_in (by decide +kernel), by decide +kernel, by decide +kernel⟩
theorem lX7_83 : Cond.methodLink RX7 83 yX7_isTeam ∈ mx_gW ∧ Cond.static yX7_isTeam ∈ mx_gW := ⟨mx_in (by decide +kernel), mx_in (by decide +kernel)⟩
theorem lX7_87 : Cond.methodLink RX7 87 yX7_isPlayer ∈ mx_gW ∧ Cond.static yX7_isPlayer ∈ mx_gW := ⟨mx_in (by decide +kernel), mx_in (by decide +kernel)⟩
theorem lX7_90 : Cond.methodLink RX7 90 yX7_squadOf ∈ mx_gW ∧ Cond.instanceMethod yX7_squadOf ∈ mx_gW ∧ Cond.selects yX7_squadOf.cls yX7_squadOf yX7_squadOf ∈ mx_gW := ⟨mx_in (by decide +kernel), mx_in (by decide +kernel), mx_in (by decide +kernel)⟩
theorem lX7_94 : Cond.methodLink RX7 94 yX4_skillOf ∈ mx_gW ∧ Cond.instanceMethod yX4_skillOf ∈ mx_gW ∧ Cond.selects yX4_skillOf.cls yX4_skillOf yX4_skillOf ∈ mx_gW := ⟨mx_in (by decide +kernel), mx_in (by decide +kernel), mx_in (by decide +kernel)⟩
theorem lX7_98 : Cond.methodLink RX7 98 yX4_putSkill ∈ mx_gW ∧ Cond.instanceMethod yX4_putSkill ∈ mx_gW ∧ Cond.selects yX4_putSkill.cls yX4_putSkill yX4_putSkill ∈ mx_gW := ⟨mx_in (by decide +kernel), mx_in (by decide +kernel), mx_in (by decide +kernel)⟩
theorem lX7_112 : Cond.methodLink RX7 112 yX3_takes ∈ mx_gW ∧ Cond.instanceMethod yX3_takes ∈ mx_gW ∧ Cond.selects yX3_takes.cls yX3_takes yX3_takes ∈ mx_gW := ⟨mx_in (by decide +kernel), mx_in (by decide +kernel), mx_in (by decide +kernel)⟩
theorem lX7_116 : Cond.methodLink RX7 116 yX3_valueOf ∈ mx_gW ∧ Cond.instanceMethod yX3_valueOf ∈ mx_gW ∧ Cond.selects yX3_valueOf.cls yX3_valueOf yX3_valueOf ∈ mx_gW := ⟨mx_in (by decide +kernel), mx_in (by decide +kernel), mx_in (by decide +kernel)⟩
theorem lX7_120 : Cond.methodLink RX7 120 yX3_putValue ∈ mx_gW ∧ Cond.instanceMethod yX3_putValue ∈ mx_gW ∧ Cond.selects yX3_putValue.cls yX3_putValue yX3_putValue ∈ mx_gW := ⟨mx_in (by decide +kernel), mx_in (by decide +kernel), mx_in (by decide +kernel)⟩
theorem lX7_127 : Cond.methodLink RX7 127 yX7_bitOf ∈ mx_gW ∧ Cond.static yX7_bitOf ∈ mx_gW := ⟨mx_in (by decide +kernel), mx_in (by decide +kernel)⟩
theorem lX7_130 : Cond.methodLink RX7 130 yJ6_bitCount_0f7a4 ∈ mx_gW ∧ Cond.static yJ6_bitCount_0f7a4 ∈ mx_gW := ⟨mx_in (by decide +kernel), mx_in (by decide +kernel)⟩
theorem lX7_135 : Cond.methodLink RX7 135 yX4_tell ∈ mx_gW ∧ Cond.instanceMethod yX4_tell ∈ mx_gW ∧ Cond.selects yX4_tell.cls yX4_tell yX4_tell ∈ mx_gW := ⟨mx_in (by decide +kernel), mx_in (by decide +kernel), mx_in (by decide +kernel)⟩
theorem lX7_139 : Cond.methodLink RX7 139 yX4_isReady ∈ mx_gW ∧ Cond.instanceMethod yX4_isReady ∈ mx_gW ∧ Cond.selects yX4_isReady.cls yX4_isReady yX4_isReady ∈ mx_gW := ⟨mx_in (by decide +kernel), mx_in (by decide +kernel), mx_in (by decide +kernel)⟩
theorem lX7_143 : Cond.methodLink RX7 143 yX2_startSet ∈ mx_gW ∧ Cond.instanceMethod yX2_startSet ∈ mx_gW ∧ Cond.selects yX2_startSet.cls yX2_startSet yX2_startSet ∈ mx_gW := ⟨mx_in (by decide +kernel), mx_in (by decide +kernel), mx_in (by decide +kernel)⟩
theorem lX7_150 : Cond.methodLink RX7 150 yX5_stand ∈ mx_gW ∧ Cond.instanceMethod yX5_stand ∈ mx_gW ∧ Cond.selects yX5_stand.cls yX5_stand yX5_stand ∈ mx_gW := ⟨mx_in (by decide +kernel), mx_in (by decide +kernel), mx_in (by decide +kernel)⟩
theorem lX7_153 : Cond.methodLink RX7 153 yX1_startSet ∈ mx_gW ∧ Cond.instanceMethod yX1_startSet ∈ mx_gW ∧ Cond.selects yX1_startSet.cls yX1_startSet yX1_startSet ∈ mx_gW := ⟨mx_in (by decide +kernel), mx_in (by decide +kernel), mx_in (by decide +kernel)⟩
theorem lX7_156 : Cond.methodLink RX7 156 yX7_winRally ∈ mx_gW ∧ Cond.instanceMethod yX7_winRally ∈ mx_gW ∧ Cond.selects yX7_winRally.cls yX7_winRally yX7_winRally ∈ mx_gW := ⟨mx_in (by decide +kernel), mx_in (by decide +kernel), mx_in (by decide +kernel)⟩
theorem lX7_159 : Cond.methodLink RX7 159 yX7_courtOf ∈ mx_gW ∧ Cond.instanceMethod yX7_courtOf ∈ mx_gW ∧ Cond.selects yX7_courtOf.cls yX7_courtOf yX7_courtOf ∈ mx_gW := ⟨mx_in (by decide +kernel), mx_in (by decide +kernel), mx_in (by decide +kernel)⟩
theorem lX7_163 : Cond.methodLink RX7 163 yX2_mayLeave ∈ mx_gW ∧ Cond.instanceMethod yX2_mayLeave ∈ mx_gW ∧ Cond.selects yX2_mayLeave.cls yX2_mayLeave yX2_mayLeave ∈ mx_gW := ⟨mx_in (by decide +kernel), mx_in (by decide +kernel), mx_in (by decide +kernel)⟩
theorem lX7_166 : Cond.methodLink RX7 166 yX2_mayEnter ∈ mx_gW ∧ Cond.instanceMethod yX2_mayEnter ∈ mx_gW ∧ Cond.selects yX2_mayEnter.cls yX2_mayEnter yX2_mayEnter ∈ mx_gW := ⟨mx_in (by decide +kernel), mx_in (by decide +kernel), mx_in (by decide +kernel)⟩
theorem lX7_172 : Cond.methodLink RX7 172 yX2_arePair ∈ mx_gW ∧ Cond.instanceMethod yX2_arePair ∈ mx_gW ∧ Cond.selects yX2_arePair.cls yX2_arePair yX2_arePair ∈ mx_gW := ⟨mx_in (by decide +kernel), mx_in (by decide +kernel), mx_in (by decide +kernel)⟩
theorem lX7_175 : Cond.methodLink RX7 175 yX7_may ∈ mx_gW ∧ Cond.instanceMethod yX7_may ∈ mx_gW ∧ Cond.selects yX7_may.cls yX7_may yX7_may ∈ mx_gW := ⟨mx_in (by decide +kernel), mx_in (by decide +kernel), mx_in (by decide +kernel)⟩
theorem lX7_179 : Cond.methodLink RX7 179 yX2_exchange ∈ mx_gW ∧ Cond.instanceMethod yX2_exchange ∈ mx_gW ∧ Cond.selects yX2_exchange.cls yX2_exchange yX2_exchange ∈ mx_gW := ⟨mx_in (by decide +kernel), mx_in (by decide +kernel), mx_in (by decide +kernel)⟩
theorem lX7_186 : Cond.methodLink RX7 186 yX2_freeOff ∈ mx_gW ∧ Cond.instanceMethod yX2_freeOff ∈ mx_gW ∧ Cond.selects yX2_freeOff.cls yX2_freeOff yX2_freeOff ∈ mx_gW := ⟨mx_in (by decide +kernel), mx_in (by decide +kernel), mx_in (by decide +kernel)⟩
theorem lX7_190 : Cond.methodLink RX7 190 yX2_freeOn ∈ mx_gW ∧ Cond.instanceMethod yX2_freeOn ∈ mx_gW ∧ Cond.selects yX2_freeOn.cls yX2_freeOn yX2_freeOn ∈ mx_gW := ⟨mx_in (by decide +kernel), mx_in (by decide +kernel), mx_in (by decide +kernel)⟩
theorem lX7_205 : Cond.methodLink RX7 205 yX2_playerAt ∈ mx_gW ∧ Cond.instanceMethod yX2_playerAt ∈ mx_gW ∧ Cond.selects yX2_playerAt.cls yX2_playerAt yX2_playerAt ∈ mx_gW := ⟨mx_in (by decide +kernel), mx_in (by decide +kernel), mx_in (by decide +kernel)⟩
theorem lX7_211 : Cond.methodLink RX7 211 yX2_freeStandsFor ∈ mx_gW ∧ Cond.instanceMethod yX2_freeStandsFor ∈ mx_gW ∧ Cond.selects yX2_freeStandsFor.cls yX2_freeStandsFor yX2_freeStandsFor ∈ mx_gW := ⟨mx_in (by decide +kernel), mx_in (by decide +kernel), mx_in (by decide +kernel)⟩
theorem lX7_230 : Cond.methodLink RX7 230 yX7_stanceOf ∈ mx_gW ∧ Cond.instanceMethod yX7_stanceOf ∈ mx_gW ∧ Cond.selects yX7_stanceOf.cls yX7_stanceOf yX7_stanceOf ∈ mx_gW := ⟨mx_in (by decide +kernel), mx_in (by decide +kernel), mx_in (by decide +kernel)⟩
theorem lX7_234 : Cond.methodLink RX7 234 yX5_put ∈ mx_gW ∧ Cond.instanceMethod yX5_put ∈ mx_gW ∧ Cond.selects yX5_put.cls yX5_put yX5_put ∈ mx_gW := ⟨mx_in (by decide +kernel), mx_in (by decide +kernel), mx_in (by decide +kernel)⟩
theorem lX7_237 : Cond.methodLink RX7 237 yX5_firstBroken ∈ mx_gW ∧ Cond.instanceMethod yX5_firstBroken ∈ mx_gW ∧ Cond.selects yX5_firstBroken.cls yX5_firstBroken yX5_firstBroken ∈ mx_gW := ⟨mx_in (by decide +kernel), mx_in (by decide +kernel), mx_in (by decide +kernel)⟩
theorem lX7_241 : Cond.methodLink RX7 241 yX6_append ∈ mx_gW ∧ Cond.instanceMethod yX6_append ∈ mx_gW ∧ Cond.selects yX6_append.cls yX6_append yX6_append ∈ mx_gW := ⟨mx_in (by decide +kernel), mx_in (by decide +kernel), mx_in (by decide +kernel)⟩
theorem lX7_245 : Cond.methodLink RX7 245 yX6_firstFault ∈ mx_gW ∧ Cond.instanceMethod yX6_firstFault ∈ mx_gW ∧ Cond.selects yX6_firstFault.cls yX6_firstFault yX6_firstFault ∈ mx_gW := ⟨mx_in (by decide +kernel), mx_in (by decide +kernel), mx_in (by decide +kernel)⟩
theorem lX7_248 : Cond.methodLink RX7 248 yX7_doItems ∈ mx_gW ∧ Cond.instanceMethod yX7_doItems ∈ mx_gW ∧ Cond.selects yX7_doItems.cls yX7_doItems yX7_doItems ∈ mx_gW := ⟨mx_in (by decide +kernel), mx_in (by decide +kernel), mx_in (by decide +kernel)⟩
theorem lX7_251 : Cond.methodLink RX7 251 yX7_takeCourts ∈ mx_gW ∧ Cond.instanceMethod yX7_takeCourts ∈ mx_gW ∧ Cond.selects yX7_takeCourts.cls yX7_takeCourts yX7_takeCourts ∈ mx_gW := ⟨mx_in (by decide +kernel), mx_in (by decide +kernel), mx_in (by decide +kernel)⟩
theorem lX7_254 : Cond.methodLink RX7 254 yX0_rallyChance ∈ mx_gW ∧ Cond.instanceMethod yX0_rallyChance ∈ mx_gW ∧ Cond.selects yX0_rallyChance.cls yX0_rallyChance yX0_rallyChance ∈ mx_gW := ⟨mx_in (by decide +kernel), mx_in (by decide +kernel), mx_in (by decide +kernel)⟩
theorem lX7_258 : Cond.methodLink RX7 258 yX7_chanceNow ∈ mx_gW ∧ Cond.instanceMethod yX7_chanceNow ∈ mx_gW ∧ Cond.selects yX7_chanceNow.cls yX7_chanceNow yX7_chanceNow ∈ mx_gW := ⟨mx_in (by decide +kernel), mx_in (by decide +kernel), mx_in (by decide +kernel)⟩
theorem lX7_261 : Cond.methodLink RX7 261 yX0_weightOfRally ∈ mx_gW ∧ Cond.instanceMethod yX0_weightOfRally ∈ mx_gW ∧ Cond.selects yX0_weightOfRally.cls yX0_weightOfRally yX0_weightOfRally ∈ mx_gW := ⟨mx_in (by decide +kernel), mx_in (by decide +kernel), mx_in (by decide +kernel)⟩
theorem lX7_267 : Cond.methodLink RX7 267 yX0_take ∈ mx_gW ∧ Cond.instanceMethod yX0_take ∈ mx_gW ∧ Cond.selects yX0_take.cls yX0_take yX0_take ∈ mx_gW := ⟨mx_in (by decide +kernel), mx_in (by decide +kernel), mx_in (by decide +kernel)⟩
theorem lX7_271 : Cond.methodLink RX7 271 yX7_chanceFrom ∈ mx_gW ∧ Cond.instanceMethod yX7_chanceFrom ∈ mx_gW ∧ Cond.selects yX7_chanceFrom.cls yX7_chanceFrom yX7_chanceFrom ∈ mx_gW := ⟨mx_in (by decide +kernel), mx_in (by decide +kernel), mx_in (by decide +kernel)⟩
theorem lX7_274 : Cond.methodLink RX7 274 yX7_isBetter ∈ mx_gW ∧ Cond.static yX7_isBetter ∈ mx_gW := ⟨mx_in (by decide +kernel), mx_in (by decide +kernel)⟩
theorem lX7_278 : Cond.methodLink RX7 278 yX7_tellRow ∈ mx_gW ∧ Cond.instanceMethod yX7_tellRow ∈ mx_gW ∧ Cond.selects yX7_tellRow.cls yX7_tellRow yX7_tellRow ∈ mx_gW := ⟨mx_in (by decide +kernel), mx_in (by decide +kernel), mx_in (by decide +kernel)⟩
theorem lX7_281 : Cond.methodLink RX7 281 yX7_chanceAfter ∈ mx_gW ∧ Cond.instanceMethod yX7_chanceAfter ∈ mx_gW ∧ Cond.selects yX7_chanceAfter.cls yX7_chanceAfter yX7_chanceAfter ∈ mx_gW := ⟨mx_in (by decide +kernel), mx_in (by decide +kernel), mx_in (by decide +kernel)⟩
theorem lX7_287 : Cond.methodLink RX7 287 yX2_countServe ∈ mx_gW ∧ Cond.instanceMethod yX2_countServe ∈ mx_gW ∧ Cond.selects yX2_countServe.cls yX2_countServe yX2_countServe ∈ mx_gW := ⟨mx_in (by decide +kernel), mx_in (by decide +kernel), mx_in (by decide +kernel)⟩
theorem lX7_290 : Cond.methodLink RX7 290 yX2_turnOn ∈ mx_gW ∧ Cond.instanceMethod yX2_turnOn ∈ mx_gW ∧ Cond.selects yX2_turnOn.cls yX2_turnOn yX2_turnOn ∈ mx_gW := ⟨mx_in (by decide +kernel), mx_in (by decide +kernel), mx_in (by decide +kernel)⟩
theorem lX7_293 : Cond.methodLink RX7 293 yX7_closeIfWon ∈ mx_gW ∧ Cond.instanceMethod yX7_closeIfWon ∈ mx_gW ∧ Cond.selects yX7_closeIfWon.cls yX7_closeIfWon yX7_closeIfWon ∈ mx_gW := ⟨mx_in (by decide +kernel), mx_in (by decide +kernel), mx_in (by decide +kernel)⟩
theorem lX7_296 : Cond.methodLink RX7 296 yX3_target ∈ mx_gW ∧ Cond.instanceMethod yX3_target ∈ mx_gW ∧ Cond.selects yX3_target.cls yX3_target yX3_target ∈ mx_gW := ⟨mx_in (by decide +kernel), mx_in (by decide +kernel), mx_in (by decide +kernel)⟩
theorem lX7_299 : Cond.methodLink RX7 299 yX3_wins ∈ mx_gW ∧ Cond.static yX3_wins ∈ mx_gW := ⟨mx_in (by decide +kernel), mx_in (by decide +kernel)⟩
theorem lX7_303 : Cond.methodLink RX7 303 yX7_saveMatch ∈ mx_gW ∧ Cond.instanceMethod yX7_saveMatch ∈ mx_gW ∧ Cond.selects yX7_saveMatch.cls yX7_saveMatch yX7_saveMatch ∈ mx_gW := ⟨mx_in (by decide +kernel), mx_in (by decide +kernel), mx_in (by decide +kernel)⟩
theorem lX7_306 : Cond.methodLink RX7 306 yX7_doItem ∈ mx_gW ∧ Cond.instanceMethod yX7_doItem ∈ mx_gW ∧ Cond.selects yX7_doItem.cls yX7_doItem yX7_doItem ∈ mx_gW := ⟨mx_in (by decide +kernel), mx_in (by decide +kernel), mx_in (by decide +kernel)⟩
theorem lX7_309 : Cond.methodLink RX7 309 yX7_restoreMatch ∈ mx_gW ∧ Cond.instanceMethod yX7_restoreMatch ∈ mx_gW ∧ Cond.selects yX7_restoreMatch.cls yX7_restoreMatch yX7_restoreMatch ∈ mx_gW := ⟨mx_in (by decide +kernel), mx_in (by decide +kernel), mx_in (by decide +kernel)⟩
theorem lX7_312 : Cond.methodLink RX7 312 yX6_itemLength ∈ mx_gW ∧ Cond.instanceMethod yX6_itemLength ∈ mx_gW ∧ Cond.selects yX6_itemLength.cls yX6_itemLength yX6_itemLength ∈ mx_gW := ⟨mx_in (by decide +kernel), mx_in (by decide +kernel), mx_in (by decide +kernel)⟩
theorem lX7_315 : Cond.methodLink RX7 315 yJ9_max_7cf53 ∈ mx_gW ∧ Cond.static yJ9_max_7cf53 ∈ mx_gW := ⟨mx_in (by decide +kernel), mx_in (by decide +kernel)⟩
theorem lX7_320 : Cond.methodLink RX7 320 yX6_signAt ∈ mx_gW ∧ Cond.instanceMethod yX6_signAt ∈ mx_gW ∧ Cond.selects yX6_signAt.cls yX6_signAt yX6_signAt ∈ mx_gW := ⟨mx_in (by decide +kernel), mx_in (by decide +kernel), mx_in (by decide +kernel)⟩
theorem lX7_324 : Cond.methodLink RX7 324 yX7_rally ∈ mx_gW ∧ Cond.instanceMethod yX7_rally ∈ mx_gW ∧ Cond.selects yX7_rally.cls yX7_rally yX7_rally ∈ mx_gW := ⟨mx_in (by decide +kernel), mx_in (by decide +kernel), mx_in (by decide +kernel)⟩
theorem lX7_327 : Cond.methodLink RX7 327 yX7_pause ∈ mx_gW ∧ Cond.instanceMethod yX7_pause ∈ mx_gW ∧ Cond.selects yX7_pause.cls yX7_pause yX7_pause ∈ mx_gW := ⟨mx_in (by decide +kernel), mx_in (by decide +kernel), mx_in (by decide +kernel)⟩
theorem lX7_330 : Cond.methodLink RX7 330 yX7_free ∈ mx_gW ∧ Cond.instanceMethod yX7_free ∈ mx_gW ∧ Cond.selects yX7_free.cls yX7_free yX7_free ∈ mx_gW := ⟨mx_in (by decide +kernel), mx_in (by decide +kernel), mx_in (by decide +kernel)⟩
theorem lX7_333 : Cond.methodLink RX7 333 yX6_playerOf ∈ mx_gW ∧ Cond.static yX6_playerOf ∈ mx_gW := ⟨mx_in (by decide +kernel), mx_in (by decide +kernel)⟩
theorem lX7_337 : Cond.methodLink RX7 337 yX7_change ∈ mx_gW ∧ Cond.instanceMethod yX7_change ∈ mx_gW ∧ Cond.selects yX7_change.cls yX7_change yX7_change ∈ mx_gW := ⟨mx_in (by decide +kernel), mx_in (by decide +kernel), mx_in (by decide +kernel)⟩
theorem lX7_340 : Cond.methodLink RX7 340 yX2_copyFrom ∈ mx_gW ∧ Cond.instanceMethod yX2_copyFrom ∈ mx_gW ∧ Cond.selects yX2_copyFrom.cls yX2_copyFrom yX2_copyFrom ∈ mx_gW := ⟨mx_in (by decide +kernel), mx_in (by decide +kernel), mx_in (by decide +kernel)⟩
theorem lX7_344 : Cond.methodLink RX7 344 yX1_copyFrom ∈ mx_gW ∧ Cond.instanceMethod yX1_copyFrom ∈ mx_gW ∧ Cond.selects yX1_copyFrom.cls yX1_copyFrom yX1_copyFrom ∈ mx_gW := ⟨mx_in (by decide +kernel), mx_in (by decide +kernel), mx_in (by decide +kernel)⟩
theorem lX7_350 : Cond.methodLink RX7 350 yX0_fillPhases ∈ mx_gW ∧ Cond.instanceMethod yX0_fillPhases ∈ mx_gW ∧ Cond.selects yX0_fillPhases.cls yX0_fillPhases yX0_fillPhases ∈ mx_gW := ⟨mx_in (by decide +kernel), mx_in (by decide +kernel), mx_in (by decide +kernel)⟩
theorem lX7_354 : Cond.methodLink RX7 354 yX0_setChance ∈ mx_gW ∧ Cond.instanceMethod yX0_setChance ∈ mx_gW ∧ Cond.selects yX0_setChance.cls yX0_setChance yX0_setChance ∈ mx_gW := ⟨mx_in (by decide +kernel), mx_in (by decide +kernel), mx_in (by decide +kernel)⟩
theorem lX7_358 : Cond.methodLink RX7 358 yX0_replace ∈ mx_gW ∧ Cond.instanceMethod yX0_replace ∈ mx_gW ∧ Cond.selects yX0_replace.cls yX0_replace yX0_replace ∈ mx_gW := ⟨mx_in (by decide +kernel), mx_in (by decide +kernel), mx_in (by decide +kernel)⟩
theorem lX0_30 : Cond.methodLink RX0 30 yJ9_floorMod_7cf53 ∈ mx_gW ∧ Cond.static yJ9_floorMod_7cf53 ∈ mx_gW := ⟨mx_in (by decide +kernel), mx_in (by decide +kernel)⟩
theorem lX0_36 : Cond.methodLink RX0 36 yX4_skillOf ∈ mx_gW ∧ Cond.instanceMethod yX4_skillOf ∈ mx_gW ∧ Cond.selects yX4_skillOf.cls yX4_skillOf yX4_skillOf ∈ mx_gW := ⟨mx_in (by decide +kernel), mx_in (by decide +kernel), mx_in (by decide +kernel)⟩
theorem lX0_44 : Cond.methodLink RX0 44 yX4_third ∈ mx_gW ∧ Cond.instanceMethod yX4_third ∈ mx_gW ∧ Cond.selects yX4_third.cls yX4_third yX4_third ∈ mx_gW := ⟨mx_in (by decide +kernel), mx_in (by decide +kernel), mx_in (by decide +kernel)⟩
theorem lX0_51 : Cond.methodLink RX0 51 yJ9_min_7cf53 ∈ mx_gW ∧ Cond.static yJ9_min_7cf53 ∈ mx_gW := ⟨mx_in (by decide +kernel), mx_in (by decide +kernel)⟩
theorem lX0_54 : Cond.methodLink RX0 54 yJ9_max_7cf53 ∈ mx_gW ∧ Cond.static yJ9_max_7cf53 ∈ mx_gW := ⟨mx_in (by decide +kernel), mx_in (by decide +kernel)⟩
theorem lX0_57 : Cond.methodLink RX0 57 yX0_rallyChance ∈ mx_gW ∧ Cond.instanceMethod yX0_rallyChance ∈ mx_gW ∧ Cond.selects yX0_rallyChance.cls yX0_rallyChance yX0_rallyChance ∈ mx_gW := ⟨mx_in (by decide +kernel), mx_in (by decide +kernel), mx_in (by decide +kernel)⟩
theorem lX0_61 : Cond.methodLink RX0 61 yX3_wins ∈ mx_gW ∧ Cond.static yX3_wins ∈ mx_gW := ⟨mx_in (by decide +kernel), mx_in (by decide +kernel)⟩
theorem lX0_68 : Cond.methodLink RX0 68 yX0_fillScore ∈ mx_gW ∧ Cond.instanceMethod yX0_fillScore ∈ mx_gW ∧ Cond.selects yX0_fillScore.cls yX0_fillScore yX0_fillScore ∈ mx_gW := ⟨mx_in (by decide +kernel), mx_in (by decide +kernel), mx_in (by decide +kernel)⟩
theorem lX0_72 : Cond.methodLink RX0 72 yX0_reckonScore ∈ mx_gW ∧ Cond.instanceMethod yX0_reckonScore ∈ mx_gW ∧ Cond.selects yX0_reckonScore.cls yX0_reckonScore yX0_reckonScore ∈ mx_gW := ⟨mx_in (by decide +kernel), mx_in (by decide +kernel), mx_in (by decide +kernel)⟩
theorem lX0_76 : Cond.methodLink RX0 76 yX0_valueAt ∈ mx_gW ∧ Cond.instanceMethod yX0_valueAt ∈ mx_gW ∧ Cond.selects yX0_valueAt.cls yX0_valueAt yX0_valueAt ∈ mx_gW := ⟨mx_in (by decide +kernel), mx_in (by decide +kernel), mx_in (by decide +kernel)⟩
theorem lX2_66 : Cond.methodLink RX2 66 yX2_placeOf ∈ mx_gW ∧ Cond.instanceMethod yX2_placeOf ∈ mx_gW ∧ Cond.selects yX2_placeOf.cls yX2_placeOf yX2_placeOf ∈ mx_gW := ⟨mx_in (by decide +kernel), mx_in (by decide +kernel), mx_in (by decide +kernel)⟩
theorem lX2_70 : Cond.methodLink RX2 70 yX2_arePair ∈ mx_gW ∧ Cond.instanceMethod yX2_arePair ∈ mx_gW ∧ Cond.selects yX2_arePair.cls yX2_arePair yX2_arePair ∈ mx_gW := ⟨mx_in (by decide +kernel), mx_in (by decide +kernel), mx_in (by decide +kernel)⟩
theorem lX4_26 : Cond.methodLink RX4 26 yJ9_floorMod_7cf53 ∈ mx_gW ∧ Cond.static yJ9_floorMod_7cf53 ∈ mx_gW := ⟨mx_in (by decide +kernel), mx_in (by decide +kernel)⟩
theorem lX4_32 : Cond.methodLink RX4 32 yX4_skillOf ∈ mx_gW ∧ Cond.instanceMethod yX4_skillOf ∈ mx_gW ∧ Cond.selects yX4_skillOf.cls yX4_skillOf yX4_skillOf ∈ mx_gW := ⟨mx_in (by decide +kernel), mx_in (by decide +kernel), mx_in (by decide +kernel)⟩
theorem lX6_19 : Cond.methodLink RX6 19 yJ9_min_7cf53 ∈ mx_gW ∧ Cond.static yJ9_min_7cf53 ∈ mx_gW := ⟨mx_in (by decide +kernel), mx_in (by decide +kernel)⟩
theorem lX6_25 : Cond.methodLink RX6 25 yX6_faultInItem ∈ mx_gW ∧ Cond.instanceMethod yX6_faultInItem ∈ mx_gW ∧ Cond.selects yX6_faultInItem.cls yX6_faultInItem yX6_faultInItem ∈ mx_gW := ⟨mx_in (by decide +kernel), mx_in (by decide +kernel), mx_in (by decide +kernel)⟩
theorem lX6_29 : Cond.methodLink RX6 29 yX6_itemLength ∈ mx_gW ∧ Cond.instanceMethod yX6_itemLength ∈ mx_gW ∧ Cond.selects yX6_itemLength.cls yX6_itemLength yX6_itemLength ∈ mx_gW := ⟨mx_in (by decide +kernel), mx_in (by decide +kernel), mx_in (by decide +kernel)⟩
theorem lX6_32 : Cond.methodLink RX6 32 yJ9_max_7cf53 ∈ mx_gW ∧ Cond.static yJ9_max_7cf53 ∈ mx_gW := ⟨mx_in (by decide +kernel), mx_in (by decide +kernel)⟩
theorem lX6_35 : Cond.methodLink RX6 35 yX6_signAt ∈ mx_gW ∧ Cond.instanceMethod yX6_signAt ∈ mx_gW ∧ Cond.selects yX6_signAt.cls yX6_signAt yX6_signAt ∈ mx_gW := ⟨mx_in (by decide +kernel), mx_in (by decide +kernel), mx_in (by decide +kernel)⟩
theorem lX6_39 : Cond.methodLink RX6 39 yX6_playerOf ∈ mx_gW ∧ Cond.static yX6_playerOf ∈ mx_gW := ⟨mx_in (by decide +kernel), mx_in (by decide +kernel)⟩
theorem lL_7 : Cond.methodLink RL 7 yX7_row ∈ mx_gW ∧ Cond.instanceMethod yX7_row ∈ mx_gW ∧ Cond.selects yX7_row.cls yX7_row yX7_row ∈ mx_gW := ⟨mx_in (by decide +kernel), mx_in (by decide +kernel), mx_in (by decide +kernel)⟩
theorem lL_19 : Cond.methodLink RL 19 yX7_skill ∈ mx_gW ∧ Cond.instanceMethod yX7_skill ∈ mx_gW ∧ Cond.selects yX7_skill.cls yX7_skill yX7_skill ∈ mx_gW := ⟨mx_in (by decide +kernel), mx_in (by decide +kernel), mx_in (by decide +kernel)⟩
theorem lL_23 : Cond.methodLink RL 23 yX8_skill ∈ mx_gW ∧ Cond.instanceMethod yX8_skill ∈ mx_gW ∧ Cond.selects yX8_skill.cls yX8_skill yX8_skill ∈ mx_gW := ⟨mx_in (by decide +kernel), mx_in (by decide +kernel), mx_in (by decide +kernel)⟩
theorem lL_24 : Cond.methodLink RL 24 yX7_libre ∈ mx_gW ∧ Cond.instanceMethod yX7_libre ∈ mx_gW ∧ Cond.selects yX7_libre.cls yX7_libre yX7_libre ∈ mx_gW := ⟨mx_in (by decide +kernel), mx_in (by decide +kernel), mx_in (by decide +kernel)⟩
theorem lL_28 : Cond.methodLink RL 28 yX8_libre ∈ mx_gW ∧ Cond.instanceMethod yX8_libre ∈ mx_gW ∧ Cond.selects yX8_libre.cls yX8_libre yX8_libre ∈ mx_gW := ⟨mx_in (by decide +kernel), mx_in (by decide +kernel), mx_in (by decide +kernel)⟩
theorem lL_29 : Cond.methodLink RL 29 yX7_set ∈ mx_gW ∧ Cond.instanceMethod yX7_set ∈ mx_gW ∧ Cond.selects yX7_set.cls yX7_set yX7_set ∈ mx_gW := ⟨mx_in (by decide +kernel), mx_in (by decide +kernel), mx_in (by decide +kernel)⟩
theorem lL_32 : Cond.methodLink RL 32 yX8_set ∈ mx_gW ∧ Cond.instanceMethod yX8_set ∈ mx_gW ∧ Cond.selects yX8_set.cls yX8_set yX8_set ∈ mx_gW := ⟨mx_in (by decide +kernel), mx_in (by decide +kernel), mx_in (by decide +kernel)⟩
theorem lL_33 : Cond.methodLink RL 33 yX7_lineUp ∈ mx_gW ∧ Cond.instanceMethod yX7_lineUp ∈ mx_gW ∧ Cond.selects yX7_lineUp.cls yX7_lineUp yX7_lineUp ∈ mx_gW := ⟨mx_in (by decide +kernel), mx_in (by decide +kernel), mx_in (by decide +kernel)⟩
theorem lL_37 : Cond.methodLink RL 37 yX8_lineUp ∈ mx_gW ∧ Cond.instanceMethod yX8_lineUp ∈ mx_gW ∧ Cond.selects yX8_lineUp.cls yX8_lineUp yX8_lineUp ∈ mx_gW := ⟨mx_in (by decide +kernel), mx_in (by decide +kernel), mx_in (by decide +kernel)⟩
theorem lL_38 : Cond.methodLink RL 38 yX7_begin ∈ mx_gW ∧ Cond.instanceMethod yX7_begin ∈ mx_gW ∧ Cond.selects yX7_begin.cls yX7_begin yX7_begin ∈ mx_gW := ⟨mx_in (by decide +kernel), mx_in (by decide +kernel), mx_in (by decide +kernel)⟩
theorem lL_41 : Cond.methodLink RL 41 yX8_begin ∈ mx_gW ∧ Cond.instanceMethod yX8_begin ∈ mx_gW ∧ Cond.selects yX8_begin.cls yX8_begin yX8_begin ∈ mx_gW := ⟨mx_in (by decide +kernel), mx_in (by decide +kernel), mx_in (by decide +kernel)⟩
theorem lL_42 : Cond.methodLink RL 42 yX7_rally ∈ mx_gW ∧ Cond.instanceMethod yX7_rally ∈ mx_gW ∧ Cond.selects yX7_rally.cls yX7_rally yX7_rally ∈ mx_gW := ⟨mx_in (by decide +kernel), mx_in (by decide +kernel), mx_in (by decide +kernel)⟩
theorem lL_45 : Cond.methodLink RL 45 yX8_rally ∈ mx_gW ∧ Cond.instanceMethod yX8_rally ∈ mx_gW ∧ Cond.selects yX8_rally.cls yX8_rally yX8_rally ∈ mx_gW := ⟨mx_in (by decide +kernel), mx_in (by decide +kernel), mx_in (by decide +kernel)⟩
theorem lL_46 : Cond.methodLink RL 46 yX7_may ∈ mx_gW ∧ Cond.instanceMethod yX7_may ∈ mx_gW ∧ Cond.selects yX7_may.cls yX7_may yX7_may ∈ mx_gW := ⟨mx_in (by decide +kernel), mx_in (by decide +kernel), mx_in (by decide +kernel)⟩
theorem lL_50 : Cond.methodLink RL 50 yX8_may ∈ mx_gW ∧ Cond.instanceMethod yX8_may ∈ mx_gW ∧ Cond.selects yX8_may.cls yX8_may yX8_may ∈ mx_gW := ⟨mx_in (by decide +kernel), mx_in (by decide +kernel), mx_in (by decide +kernel)⟩
theorem lL_51 : Cond.methodLink RL 51 yX7_change ∈ mx_gW ∧ Cond.instanceMethod yX7_change ∈ mx_gW ∧ Cond.selects yX7_change.cls yX7_change yX7_change ∈ mx_gW := ⟨mx_in (by decide +kernel), mx_in (by decide +kernel), mx_in (by decide +kernel)⟩
theorem lL_54 : Cond.methodLink RL 54 yX8_change ∈ mx_gW ∧ Cond.instanceMethod yX8_change ∈ mx_gW ∧ Cond.selects yX8_change.cls yX8_change yX8_change ∈ mx_gW := ⟨mx_in (by decide +kernel), mx_in (by decide +kernel), mx_in (by decide +kernel)⟩
theorem lL_55 : Cond.methodLink RL 55 yX7_free ∈ mx_gW ∧ Cond.instanceMethod yX7_free ∈ mx_gW ∧ Cond.selects yX7_free.cls yX7_free yX7_free ∈ mx_gW := ⟨mx_in (by decide +kernel), mx_in (by decide +kernel), mx_in (by decide +kernel)⟩
theorem lL_58 : Cond.methodLink RL 58 yX8_free ∈ mx_gW ∧ Cond.instanceMethod yX8_free ∈ mx_gW ∧ Cond.selects yX8_free.cls yX8_free yX8_free ∈ mx_gW := ⟨mx_in (by decide +kernel), mx_in (by decide +kernel), mx_in (by decide +kernel)⟩
theorem lL_59 : Cond.methodLink RL 59 yX7_pause ∈ mx_gW ∧ Cond.instanceMethod yX7_pause ∈ mx_gW ∧ Cond.selects yX7_pause.cls yX7_pause yX7_pause ∈ mx_gW := ⟨mx_in (by decide +kernel), mx_in (by decide +kernel), mx_in (by decide +kernel)⟩
theorem lL_62 : Cond.methodLink RL 62 yX8_pause ∈ mx_gW ∧ Cond.instanceMethod yX8_pause ∈ mx_gW ∧ Cond.selects yX8_pause.cls yX8_pause yX8_pause ∈ mx_gW := ⟨mx_in (by decide +kernel), mx_in (by decide +kernel), mx_in (by decide +kernel)⟩
theorem lL_63 : Cond.methodLink RL 63 yX7_wrong ∈ mx_gW ∧ Cond.instanceMethod yX7_wrong ∈ mx_gW ∧ Cond.selects yX7_wrong.cls yX7_wrong yX7_wrong ∈ mx_gW := ⟨mx_in (by decide +kernel), mx_in (by decide +kernel), mx_in (by decide +kernel)⟩
theorem lL_66 : Cond.methodLink RL 66 yX8_wrong ∈ mx_gW ∧ Cond.instanceMethod yX8_wrong ∈ mx_gW ∧ Cond.selects yX8_wrong.cls yX8_wrong yX8_wrong ∈ mx_gW := ⟨mx_in (by decide +kernel), mx_in (by decide +kernel), mx_in (by decide +kernel)⟩
theorem lL_67 : Cond.methodLink RL 67 yX7_at ∈ mx_gW ∧ Cond.instanceMethod yX7_at ∈ mx_gW ∧ Cond.selects yX7_at.cls yX7_at yX7_at ∈ mx_gW := ⟨mx_in (by decide +kernel), mx_in (by decide +kernel), mx_in (by decide +kernel)⟩
theorem lL_70 : Cond.methodLink RL 70 yX8_at ∈ mx_gW ∧ Cond.instanceMethod yX8_at ∈ mx_gW ∧ Cond.selects yX8_at.cls yX8_at yX8_at ∈ mx_gW := ⟨mx_in (by decide +kernel), mx_in (by decide +kernel), mx_in (by decide +kernel)⟩
theorem lL_71 : Cond.methodLink RL 71 yX7_of ∈ mx_gW ∧ Cond.instanceMethod yX7_of ∈ mx_gW ∧ Cond.selects yX7_of.cls yX7_of yX7_of ∈ mx_gW := ⟨mx_in (by decide +kernel), mx_in (by decide +kernel), mx_in (by decide +kernel)⟩
theorem lL_74 : Cond.methodLink RL 74 yX8_of ∈ mx_gW ∧ Cond.instanceMethod yX8_of ∈ mx_gW ∧ Cond.selects yX8_of.cls yX8_of yX8_of ∈ mx_gW := ⟨mx_in (by decide +kernel), mx_in (by decide +kernel), mx_in (by decide +kernel)⟩
theorem lL_75 : Cond.methodLink RL 75 yX7_count ∈ mx_gW ∧ Cond.instanceMethod yX7_count ∈ mx_gW ∧ Cond.selects yX7_count.cls yX7_count yX7_count ∈ mx_gW := ⟨mx_in (by decide +kernel), mx_in (by decide +kernel), mx_in (by decide +kernel)⟩
theorem lL_78 : Cond.methodLink RL 78 yX8_count ∈ mx_gW ∧ Cond.instanceMethod yX8_count ∈ mx_gW ∧ Cond.selects yX8_count.cls yX8_count yX8_count ∈ mx_gW := ⟨mx_in (by decide +kernel), mx_in (by decide +kernel), mx_in (by decide +kernel)⟩
theorem lL_79 : Cond.methodLink RL 79 yX7_served ∈ mx_gW ∧ Cond.instanceMethod yX7_served ∈ mx_gW ∧ Cond.selects yX7_served.cls yX7_served yX7_served ∈ mx_gW := ⟨mx_in (by decide +kernel), mx_in (by decide +kernel), mx_in (by decide +kernel)⟩
theorem lL_82 : Cond.methodLink RL 82 yX8_served ∈ mx_gW ∧ Cond.instanceMethod yX8_served ∈ mx_gW ∧ Cond.selects yX8_served.cls yX8_served yX8_served ∈ mx_gW := ⟨mx_in (by decide +kernel), mx_in (by decide +kernel), mx_in (by decide +kernel)⟩
theorem lL_83 : Cond.methodLink RL 83 yX7_feet ∈ mx_gW ∧ Cond.instanceMethod yX7_feet ∈ mx_gW ∧ Cond.selects yX7_feet.cls yX7_feet yX7_feet ∈ mx_gW := ⟨mx_in (by decide +kernel), mx_in (by decide +kernel), mx_in (by decide +kernel)⟩
theorem lL_87 : Cond.methodLink RL 87 yX8_feet ∈ mx_gW ∧ Cond.instanceMethod yX8_feet ∈ mx_gW ∧ Cond.selects yX8_feet.cls yX8_feet yX8_feet ∈ mx_gW := ⟨mx_in (by decide +kernel), mx_in (by decide +kernel), mx_in (by decide +kernel)⟩
theorem lL_88 : Cond.methodLink RL 88 yX7_overlap ∈ mx_gW ∧ Cond.instanceMethod yX7_overlap ∈ mx_gW ∧ Cond.selects yX7_overlap.cls yX7_overlap yX7_overlap ∈ mx_gW := ⟨mx_in (by decide +kernel), mx_in (by decide +kernel), mx_in (by decide +kernel)⟩
theorem lL_91 : Cond.methodLink RL 91 yX8_overlap ∈ mx_gW ∧ Cond.instanceMethod yX8_overlap ∈ mx_gW ∧ Cond.selects yX8_overlap.cls yX8_overlap yX8_overlap ∈ mx_gW := ⟨mx_in (by decide +kernel), mx_in (by decide +kernel), mx_in (by decide +kernel)⟩
theorem lL_92 : Cond.methodLink RL 92 yX7_sign ∈ mx_gW ∧ Cond.instanceMethod yX7_sign ∈ mx_gW ∧ Cond.selects yX7_sign.cls yX7_sign yX7_sign ∈ mx_gW := ⟨mx_in (by decide +kernel), mx_in (by decide +kernel), mx_in (by decide +kernel)⟩
theorem lL_95 : Cond.methodLink RL 95 yX8_sign ∈ mx_gW ∧ Cond.instanceMethod yX8_sign ∈ mx_gW ∧ Cond.selects yX8_sign.cls yX8_sign yX8_sign ∈ mx_gW := ⟨mx_in (by decide +kernel), mx_in (by decide +kernel), mx_in (by decide +kernel)⟩
theorem lL_96 : Cond.methodLink RL 96 yX7_end ∈ mx_gW ∧ Cond.instanceMethod yX7_end ∈ mx_gW ∧ Cond.selects yX7_end.cls yX7_end yX7_end ∈ mx_gW := ⟨mx_in (by decide +kernel), mx_in (by decide +kernel), mx_in (by decide +kernel)⟩
theorem lL_100 : Cond.methodLink RL 100 yX8_end ∈ mx_gW ∧ Cond.instanceMethod yX8_end ∈ mx_gW ∧ Cond.selects yX8_end.cls yX8_end yX8_end ∈ mx_gW := ⟨mx_in (by decide +kernel), mx_in (by decide +kernel), mx_in (by decide +kernel)⟩
theorem lL_101 : Cond.methodLink RL 101 yX7_sheet ∈ mx_gW ∧ Cond.instanceMethod yX7_sheet ∈ mx_gW ∧ Cond.selects yX7_sheet.cls yX7_sheet yX7_sheet ∈ mx_gW := ⟨mx_in (by decide +kernel), mx_in (by decide +kernel), mx_in (by decide +kernel)⟩
theorem lL_105 : Cond.methodLink RL 105 yX8_sheet ∈ mx_gW ∧ Cond.instanceMethod yX8_sheet ∈ mx_gW ∧ Cond.selects yX8_sheet.cls yX8_sheet yX8_sheet ∈ mx_gW := ⟨mx_in (by decide +kernel), mx_in (by decide +kernel), mx_in (by decide +kernel)⟩
theorem lL_106 : Cond.methodLink RL 106 yX7_odds ∈ mx_gW ∧ Cond.instanceMethod yX7_odds ∈ mx_gW ∧ Cond.selects yX7_odds.cls yX7_odds yX7_odds ∈ mx_gW := ⟨mx_in (by decide +kernel), mx_in (by decide +kernel), mx_in (by decide +kernel)⟩
theorem lL_109 : Cond.methodLink RL 109 yX8_odds ∈ mx_gW ∧ Cond.instanceMethod yX8_odds ∈ mx_gW ∧ Cond.selects yX8_odds.cls yX8_odds yX8_odds ∈ mx_gW := ⟨mx_in (by decide +kernel), mx_in (by decide +kernel), mx_in (by decide +kernel)⟩
theorem lL_110 : Cond.methodLink RL 110 yX7_chance ∈ mx_gW ∧ Cond.instanceMethod yX7_chance ∈ mx_gW ∧ Cond.selects yX7_chance.cls yX7_chance yX7_chance ∈ mx_gW := ⟨mx_in (by decide +kernel), mx_in (by decide +kernel), mx_in (by decide +kernel)⟩
theorem lL_113 : Cond.methodLink RL 113 yX8_chance ∈ mx_gW ∧ Cond.instanceMethod yX8_chance ∈ mx_gW ∧ Cond.selects yX8_chance.cls yX8_chance yX8_chance ∈ mx_gW := ⟨mx_in (by decide +kernel), mx_in (by decide +kernel), mx_in (by decide +kernel)⟩
theorem lL_114 : Cond.methodLink RL 114 yX7_weight ∈ mx_gW ∧ Cond.instanceMethod yX7_weight ∈ mx_gW ∧ Cond.selects yX7_weight.cls yX7_weight yX7_weight ∈ mx_gW := ⟨mx_in (by decide +kernel), mx_in (by decide +kernel), mx_in (by decide +kernel)⟩
theorem lL_117 : Cond.methodLink RL 117 yX8_weight ∈ mx_gW ∧ Cond.instanceMethod yX8_weight ∈ mx_gW ∧ Cond.selects yX8_weight.cls yX8_weight yX8_weight ∈ mx_gW := ⟨mx_in (by decide +kernel), mx_in (by decide +kernel), mx_in (by decide +kernel)⟩
theorem lL_118 : Cond.methodLink RL 118 yX7_turn ∈ mx_gW ∧ Cond.instanceMethod yX7_turn ∈ mx_gW ∧ Cond.selects yX7_turn.cls yX7_turn yX7_turn ∈ mx_gW := ⟨mx_in (by decide +kernel), mx_in (by decide +kernel), mx_in (by decide +kernel)⟩
theorem lL_121 : Cond.methodLink RL 121 yX8_turn_ ∈ mx_gW ∧ Cond.instanceMethod yX8_turn_ ∈ mx_gW ∧ Cond.selects yX8_turn_.cls yX8_turn_ yX8_turn_ ∈ mx_gW := ⟨mx_in (by decide +kernel), mx_in (by decide +kernel), mx_in (by decide +kernel)⟩
theorem lL_122 : Cond.methodLink RL 122 yX7_advice ∈ mx_gW ∧ Cond.instanceMethod yX7_advice ∈ mx_gW ∧ Cond.selects yX7_advice.cls yX7_advice yX7_advice ∈ mx_gW := ⟨mx_in (by decide +kernel), mx_in (by decide +kernel), mx_in (by decide +kernel)⟩
theorem lL_125 : Cond.methodLink RL 125 yX8_advice ∈ mx_gW ∧ Cond.instanceMethod yX8_advice ∈ mx_gW ∧ Cond.selects yX8_advice.cls yX8_advice yX8_advice ∈ mx_gW := ⟨mx_in (by decide +kernel), mx_in (by decide +kernel), mx_in (by decide +kernel)⟩
theorem lL_126 : Cond.methodLink RL 126 yL_row ∈ mx_gW ∧ Cond.static yL_row ∈ mx_gW := ⟨mx_in (by decide +kernel), mx_in (by decide +kernel)⟩
theorem lL_131 : Cond.methodLink RL 131 yX8_row ∈ mx_gW ∧ Cond.instanceMethod yX8_row ∈ mx_gW ∧ Cond.selects yX8_row.cls yX8_row yX8_row ∈ mx_gW := ⟨mx_in (by decide +kernel), mx_in (by decide +kernel), mx_in (by decide +kernel)⟩
theorem lL_132 : Cond.methodLink RL 132 yX8_thrown ∈ mx_gW ∧ Cond.instanceMethod yX8_thrown ∈ mx_gW ∧ Cond.selects yX8_thrown.cls yX8_thrown yX8_thrown ∈ mx_gW := ⟨mx_in (by decide +kernel), mx_in (by decide +kernel), mx_in (by decide +kernel)⟩
theorem lX8_56 : Cond.methodLink RX8 56 yX8_put ∈ mx_gW ∧ Cond.instanceMethod yX8_put ∈ mx_gW ∧ Cond.selects yX8_put.cls yX8_put yX8_put ∈ mx_gW := ⟨mx_in (by decide +kernel), mx_in (by decide +kernel), mx_in (by decide +kernel)⟩
theorem lX8_60 : Cond.methodLink RX8 60 yX8_stand ∈ mx_gW ∧ Cond.instanceMethod yX8_stand ∈ mx_gW ∧ Cond.selects yX8_stand.cls yX8_stand yX8_stand ∈ mx_gW := ⟨mx_in (by decide +kernel), mx_in (by decide +kernel), mx_in (by decide +kernel)⟩
theorem lX8_67 : Cond.methodLink RX8 67 yX8_in ∈ mx_gW ∧ Cond.static yX8_in ∈ mx_gW := ⟨mx_in (by decide +kernel), mx_in (by decide +kernel)⟩
theorem lX8_71 : Cond.methodLink RX8 71 yX8_isTeam ∈ mx_gW ∧ Cond.static yX8_isTeam ∈ mx_gW := ⟨mx_in (by decide +kernel), mx_in (by decide +kernel)⟩
theorem lX8_75 : Cond.methodLink RX8 75 yX8_isPlayer ∈ mx_gW ∧ Cond.static yX8_isPlayer ∈ mx_gW := ⟨mx_in (by decide +kernel), mx_in (by decide +kernel)⟩
theorem lX8_78 : Cond.methodLink RX8 78 yX8_skillOf ∈ mx_gW ∧ Cond.instanceMethod yX8_skillOf ∈ mx_gW ∧ Cond.selects yX8_skillOf.cls yX8_skillOf yX8_skillOf ∈ mx_gW := ⟨mx_in (by decide +kernel), mx_in (by decide +kernel), mx_in (by decide +kernel)⟩
theorem lX8_82 : Cond.methodLink RX8 82 yX8_isOn ∈ mx_gW ∧ Cond.instanceMethod yX8_isOn ∈ mx_gW ∧ Cond.selects yX8_isOn.cls yX8_isOn yX8_isOn ∈ mx_gW := ⟨mx_in (by decide +kernel), mx_in (by decide +kernel), mx_in (by decide +kernel)⟩
theorem lX8_92 : Cond.methodLink RX8 92 yX8_hasFree ∈ mx_gW ∧ Cond.instanceMethod yX8_hasFree ∈ mx_gW ∧ Cond.selects yX8_hasFree.cls yX8_hasFree yX8_hasFree ∈ mx_gW := ⟨mx_in (by decide +kernel), mx_in (by decide +kernel), mx_in (by decide +kernel)⟩
theorem lX8_95 : Cond.methodLink RX8 95 yX8_get ∈ mx_gW ∧ Cond.instanceMethod yX8_get ∈ mx_gW ∧ Cond.selects yX8_get.cls yX8_get yX8_get ∈ mx_gW := ⟨mx_in (by decide +kernel), mx_in (by decide +kernel), mx_in (by decide +kernel)⟩
theorem lX8_99 : Cond.methodLink RX8 99 yX8_isLastSet ∈ mx_gW ∧ Cond.instanceMethod yX8_isLastSet ∈ mx_gW ∧ Cond.selects yX8_isLastSet.cls yX8_isLastSet yX8_isLastSet ∈ mx_gW := ⟨mx_in (by decide +kernel), mx_in (by decide +kernel), mx_in (by decide +kernel)⟩
theorem lX8_102 : Cond.methodLink RX8 102 yX8_goal ∈ mx_gW ∧ Cond.instanceMethod yX8_goal ∈ mx_gW ∧ Cond.selects yX8_goal.cls yX8_goal yX8_goal ∈ mx_gW := ⟨mx_in (by decide +kernel), mx_in (by decide +kernel), mx_in (by decide +kernel)⟩
theorem lX8_106 : Cond.methodLink RX8 106 yX8_turn ∈ mx_gW ∧ Cond.instanceMethod yX8_turn ∈ mx_gW ∧ Cond.selects yX8_turn.cls yX8_turn yX8_turn ∈ mx_gW := ⟨mx_in (by decide +kernel), mx_in (by decide +kernel), mx_in (by decide +kernel)⟩
theorem lX8_110 : Cond.methodLink RX8 110 yX8_wins ∈ mx_gW ∧ Cond.instanceMethod yX8_wins ∈ mx_gW ∧ Cond.selects yX8_wins.cls yX8_wins yX8_wins ∈ mx_gW := ⟨mx_in (by decide +kernel), mx_in (by decide +kernel), mx_in (by decide +kernel)⟩
theorem lX8_113 : Cond.methodLink RX8 113 yX8_point ∈ mx_gW ∧ Cond.instanceMethod yX8_point ∈ mx_gW ∧ Cond.selects yX8_point.cls yX8_point yX8_point ∈ mx_gW := ⟨mx_in (by decide +kernel), mx_in (by decide +kernel), mx_in (by decide +kernel)⟩
theorem lX8_117 : Cond.methodLink RX8 117 yX8_placeOf ∈ mx_gW ∧ Cond.instanceMethod yX8_placeOf ∈ mx_gW ∧ Cond.selects yX8_placeOf.cls yX8_placeOf yX8_placeOf ∈ mx_gW := ⟨mx_in (by decide +kernel), mx_in (by decide +kernel), mx_in (by decide +kernel)⟩
theorem lX8_120 : Cond.methodLink RX8 120 yX8_mayNot ∈ mx_gW ∧ Cond.instanceMethod yX8_mayNot ∈ mx_gW ∧ Cond.selects yX8_mayNot.cls yX8_mayNot yX8_mayNot ∈ mx_gW := ⟨mx_in (by decide +kernel), mx_in (by decide +kernel), mx_in (by decide +kernel)⟩
theorem lX8_123 : Cond.methodLink RX8 123 yX8_doChange ∈ mx_gW ∧ Cond.instanceMethod yX8_doChange ∈ mx_gW ∧ Cond.selects yX8_doChange.cls yX8_doChange yX8_doChange ∈ mx_gW := ⟨mx_in (by decide +kernel), mx_in (by decide +kernel), mx_in (by decide +kernel)⟩
theorem lX8_126 : Cond.methodLink RX8 126 yX8_doFree ∈ mx_gW ∧ Cond.instanceMethod yX8_doFree ∈ mx_gW ∧ Cond.selects yX8_doFree.cls yX8_doFree yX8_doFree ∈ mx_gW := ⟨mx_in (by decide +kernel), mx_in (by decide +kernel), mx_in (by decide +kernel)⟩
theorem lX8_129 : Cond.methodLink RX8 129 yX8_doPause ∈ mx_gW ∧ Cond.instanceMethod yX8_doPause ∈ mx_gW ∧ Cond.selects yX8_doPause.cls yX8_doPause yX8_doPause ∈ mx_gW := ⟨mx_in (by decide +kernel), mx_in (by decide +kernel), mx_in (by decide +kernel)⟩
theorem lX8_144 : Cond.methodLink RX8 144 yX8_playerOf ∈ mx_gW ∧ Cond.static yX8_playerOf ∈ mx_gW := ⟨mx_in (by decide +kernel), mx_in (by decide +kernel)⟩
theorem lX8_147 : Cond.methodLink RX8 147 yJ9_min_7cf53 ∈ mx_gW ∧ Cond.static yJ9_min_7cf53 ∈ mx_gW := ⟨mx_in (by decide +kernel), mx_in (by decide +kernel)⟩
theorem lX8_152 : Cond.methodLink RX8 152 yX8_reads ∈ mx_gW ∧ Cond.instanceMethod yX8_reads ∈ mx_gW ∧ Cond.selects yX8_reads.cls yX8_reads yX8_reads ∈ mx_gW := ⟨mx_in (by decide +kernel), mx_in (by decide +kernel), mx_in (by decide +kernel)⟩
theorem lX8_155 : Cond.methodLink RX8 155 yX8_putAside ∈ mx_gW ∧ Cond.instanceMethod yX8_putAside ∈ mx_gW ∧ Cond.selects yX8_putAside.cls yX8_putAside yX8_putAside ∈ mx_gW := ⟨mx_in (by decide +kernel), mx_in (by decide +kernel), mx_in (by decide +kernel)⟩
theorem lX8_158 : Cond.methodLink RX8 158 yX8_doItem ∈ mx_gW ∧ Cond.instanceMethod yX8_doItem ∈ mx_gW ∧ Cond.selects yX8_doItem.cls yX8_doItem yX8_doItem ∈ mx_gW := ⟨mx_in (by decide +kernel), mx_in (by decide +kernel), mx_in (by decide +kernel)⟩
theorem lX8_161 : Cond.methodLink RX8 161 yX8_putBack ∈ mx_gW ∧ Cond.instanceMethod yX8_putBack ∈ mx_gW ∧ Cond.selects yX8_putBack.cls yX8_putBack yX8_putBack ∈ mx_gW := ⟨mx_in (by decide +kernel), mx_in (by decide +kernel), mx_in (by decide +kernel)⟩
theorem lX8_164 : Cond.methodLink RX8 164 yX8_later ∈ mx_gW ∧ Cond.instanceMethod yX8_later ∈ mx_gW ∧ Cond.selects yX8_later.cls yX8_later yX8_later ∈ mx_gW := ⟨mx_in (by decide +kernel), mx_in (by decide +kernel), mx_in (by decide +kernel)⟩
theorem lX8_167 : Cond.methodLink RX8 167 yX8_sum ∈ mx_gW ∧ Cond.instanceMethod yX8_sum ∈ mx_gW ∧ Cond.selects yX8_sum.cls yX8_sum yX8_sum ∈ mx_gW := ⟨mx_in (by decide +kernel), mx_in (by decide +kernel), mx_in (by decide +kernel)⟩
theorem lX8_171 : Cond.methodLink RX8 171 yJ9_max_7cf53 ∈ mx_gW ∧ Cond.static yJ9_max_7cf53 ∈ mx_gW := ⟨mx_in (by decide +kernel), mx_in (by decide +kernel)⟩
theorem lX8_174 : Cond.methodLink RX8 174 yX8_countNow ∈ mx_gW ∧ Cond.instanceMethod yX8_countNow ∈ mx_gW ∧ Cond.selects yX8_countNow.cls yX8_countNow yX8_countNow ∈ mx_gW := ⟨mx_in (by decide +kernel), mx_in (by decide +kernel), mx_in (by decide +kernel)⟩
theorem lX8_177 : Cond.methodLink RX8 177 yX8_oddsOf ∈ mx_gW ∧ Cond.instanceMethod yX8_oddsOf ∈ mx_gW ∧ Cond.selects yX8_oddsOf.cls yX8_oddsOf yX8_oddsOf ∈ mx_gW := ⟨mx_in (by decide +kernel), mx_in (by decide +kernel), mx_in (by decide +kernel)⟩
theorem lX8_184 : Cond.methodLink RX8 184 yX8_cell ∈ mx_gW ∧ Cond.static yX8_cell ∈ mx_gW := ⟨mx_in (by decide +kernel), mx_in (by decide +kernel)⟩
theorem lX8_188 : Cond.methodLink RX8 188 yX8_mean ∈ mx_gW ∧ Cond.static yX8_mean ∈ mx_gW := ⟨mx_in (by decide +kernel), mx_in (by decide +kernel)⟩
theorem lX8_194 : Cond.methodLink RX8 194 yX8_fill ∈ mx_gW ∧ Cond.instanceMethod yX8_fill ∈ mx_gW ∧ Cond.selects yX8_fill.cls yX8_fill yX8_fill ∈ mx_gW := ⟨mx_in (by decide +kernel), mx_in (by decide +kernel), mx_in (by decide +kernel)⟩
theorem lX8_197 : Cond.methodLink RX8 197 yX8_now ∈ mx_gW ∧ Cond.instanceMethod yX8_now ∈ mx_gW ∧ Cond.selects yX8_now.cls yX8_now yX8_now ∈ mx_gW := ⟨mx_in (by decide +kernel), mx_in (by decide +kernel), mx_in (by decide +kernel)⟩
theorem lX2_55 : Cond.methodLinkNest RX2 55 yX7_isPlayer RX7 ∈ mx_nest ∧ Cond.static yX7_isPlayer ∈ mx_gW := ⟨List.mem_of_getElem? (i := 24) rfl, mx_in (by decide +kernel)⟩
theorem qJ6_265 : Cond.constant RJ6 265 (1431655765) ∈ mx_gW := mx_in (by decide +kernel)
theorem qJ6_266 : Cond.constant RJ6 266 (858993459) ∈ mx_gW := mx_in (by decide +kernel)
theorem qJ6_267 : Cond.constant RJ6 267 (252645135) ∈ mx_gW := mx_in (by decide +kernel)
theorem qX0_67 : Cond.constant RX0 67 (1000000000) ∈ mx_gW := mx_in (by decide +kernel)
theorem qX0_80 : Cond.constantLong RX0 80 (1000) ∈ mx_gW := mx_in (by decide +kernel)
theorem qX8_51 : Cond.constant RX8 51 (69192) ∈ mx_gW := mx_in (by decide +kernel)
theorem qX8_180 : Cond.constantLong RX8 180 (1000000000) ∈ mx_gW := mx_in (by decide +kernel)
theorem qX8_182 : Cond.constantLong RX8 182 (-1) ∈ mx_gW := mx_in (by decide +kernel)
theorem qX8_192 : Cond.constantLong RX8 192 (1000) ∈ mx_gW := mx_in (by decide +kernel)
end
section
theorem dX0_init_0 : decode cX0_init 0 = .ok (.aload_n 0, 1) := by decide +kernel
theorem dX0_init_1 : decode cX0_init 1 = .ok (.invokespecial 3, 3) := by decide +kernel
theorem dX0_init_4 : decode cX0_init 4 = .ok (.aload_n 0, 1) := by decide +kernel
theorem dX0_init_5 : decode cX0_init 5 = .ok (.bipush 6, 2) := by decide +kernel
theorem dX0_init_7 : decode cX0_init 7 = .ok (.newarray .int, 2) := by decide +kernel
theorem dX0_init_9 : decode cX0_init 9 = .ok (.putfield 9, 3) := by decide +kernel
theorem dX0_init_12 : decode cX0_init 12 = .ok (.aload_n 0, 1) := by decide +kernel
theorem dX0_init_13 : decode cX0_init 13 = .ok (.bipush 6, 2) := by decide +kernel
theorem dX0_init_15 : decode cX0_init 15 = .ok (.newarray .int, 2) := by decide +kernel
theorem dX0_init_17 : decode cX0_init 17 = .ok (.putfield 15, 3) := by decide +kernel
theorem dX0_init_20 : decode cX0_init 20 = .ok (.aload_n 0, 1) := by decide +kernel
theorem dX0_init_21 : decode cX0_init 21 = .ok (.bipush 12, 2) := by decide +kernel
theorem dX0_init_23 : decode cX0_init 23 = .ok (.newarray .int, 2) := by decide +kernel
theorem dX0_init_25 : decode cX0_init 25 = .ok (.putfield 18, 3) := by decide +kernel
theorem dX0_init_28 : decode cX0_init 28 = .ok (.aload_n 0, 1) := by decide +kernel
theorem dX0_init_29 : decode cX0_init 29 = .ok (.iconst 2, 1) := by decide +kernel
theorem dX0_init_30 : decode cX0_init 30 = .ok (.sipush 372, 3) := by decide +kernel
theorem dX0_init_33 : decode cX0_init 33 = .ok (.multianewarray 21 2, 4) := by decide +kernel
theorem dX0_init_37 : decode cX0_init 37 = .ok (.putfield 23, 3) := by decide +kernel
theorem dX0_init_40 : decode cX0_init 40 = .ok (.aload_n 0, 1) := by decide +kernel
theorem dX0_init_41 : decode cX0_init 41 = .ok (.iconst 0, 1) := by decide +kernel
theorem dX0_init_42 : decode cX0_init 42 = .ok (.putfield 26, 3) := by decide +kernel
theorem dX0_init_45 : decode cX0_init 45 = .ok (.return_, 1) := by decide +kernel
theorem dX0_take_0 : decode cX0_take 0 = .ok (.iload_n 1, 1) := by decide +kernel
theorem dX0_take_1 : decode cX0_take 1 = .ok (.ifCond .ne 10, 3) := by decide +kernel
theorem dX0_take_4 : decode cX0_take 4 = .ok (.aload_n 0, 1) := by decide +kernel
theorem dX0_take_5 : decode cX0_take 5 = .ok (.getfield 9, 3) := by decide +kernel
theorem dX0_take_8 : decode cX0_take 8 = .ok (.goto 7, 3) := by decide +kernel
theorem dX0_take_11 : decode cX0_take 11 = .ok (.aload_n 0, 1) := by decide +kernel
theorem dX0_take_12 : decode cX0_take 12 = .ok (.getfield 15, 3) := by decide +kernel
theorem dX0_take_15 : decode cX0_take 15 = .ok (.astore 4, 2) := by decide +kernel
theorem dX0_take_17 : decode cX0_take 17 = .ok (.iconst 0, 1) := by decide +kernel
theorem dX0_take_18 : decode cX0_take 18 = .ok (.istore 5, 2) := by decide +kernel
theorem dX0_take_20 : decode cX0_take 20 = .ok (.iload 5, 2) := by decide +kernel
theorem dX0_take_22 : decode cX0_take 22 = .ok (.bipush 6, 2) := by decide +kernel
theorem dX0_take_24 : decode cX0_take 24 = .ok (.if_icmp .ge 36, 3) := by decide +kernel
theorem dX0_take_27 : decode cX0_take 27 = .ok (.iload 5, 2) := by decide +kernel
theorem dX0_take_29 : decode cX0_take 29 = .ok (.iload_n 3, 1) := by decide +kernel
theorem dX0_take_30 : decode cX0_take 30 = .ok (.iadd, 1) := by decide +kernel
theorem dX0_take_31 : decode cX0_take 31 = .ok (.bipush 6, 2) := by decide +kernel
theorem dX0_take_33 : decode cX0_take 33 = .ok (.invokestatic 30, 3) := by decide +kernel
theorem dX0_take_36 : decode cX0_take 36 = .ok (.istore 6, 2) := by decide +kernel
theorem dX0_take_38 : decode cX0_take 38 = .ok (.iload 6, 2) := by decide +kernel
theorem dX0_take_40 : decode cX0_take 40 = .ok (.aload_n 2, 1) := by decide +kernel
theorem dX0_take_41 : decode cX0_take 41 = .ok (.arraylength, 1) := by decide +kernel
theorem dX0_take_42 : decode cX0_take 42 = .ok (.if_icmp .ge 12, 3) := by decide +kernel
theorem dX0_take_45 : decode cX0_take 45 = .ok (.aload 4, 2) := by decide +kernel
theorem dX0_take_47 : decode cX0_take 47 = .ok (.iload 5, 2) := by decide +kernel
theorem dX0_take_49 : decode cX0_take 49 = .ok (.aload_n 2, 1) := by decide +kernel
theorem dX0_take_50 : decode cX0_take 50 = .ok (.iload 6, 2) := by decide +kernel
theorem dX0_take_52 : decode cX0_take 52 = .ok (.iaload, 1) := by decide +kernel
theorem dX0_take_53 : decode cX0_take 53 = .ok (.iastore, 1) := by decide +kernel
theorem dX0_take_54 : decode cX0_take 54 = .ok (.iinc 5 1, 3) := by decide +kernel
theorem dX0_take_57 : decode cX0_take 57 = .ok (.goto (-37), 3) := by decide +kernel
theorem dX0_take_60 : decode cX0_take 60 = .ok (.return_, 1) := by decide +kernel
theorem dX0_replace_0 : decode cX0_replace 0 = .ok (.iload_n 1, 1) := by decide +kernel
theorem dX0_replace_1 : decode cX0_replace 1 = .ok (.ifCond .ne 10, 3) := by decide +kernel
theorem dX0_replace_4 : decode cX0_replace 4 = .ok (.aload_n 0, 1) := by decide +kernel
theorem dX0_replace_5 : decode cX0_replace 5 = .ok (.getfield 9, 3) := by decide +kernel
theorem dX0_replace_8 : decode cX0_replace 8 = .ok (.goto 7, 3) := by decide +kernel
theorem dX0_replace_11 : decode cX0_replace 11 = .ok (.aload_n 0, 1) := by decide +kernel
theorem dX0_replace_12 : decode cX0_replace 12 = .ok (.getfield 15, 3) := by decide +kernel
theorem dX0_replace_15 : decode cX0_replace 15 = .ok (.astore 4, 2) := by decide +kernel
theorem dX0_replace_17 : decode cX0_replace 17 = .ok (.iconst 0, 1) := by decide +kernel
theorem dX0_replace_18 : decode cX0_replace 18 = .ok (.istore 5, 2) := by decide +kernel
theorem dX0_replace_20 : decode cX0_replace 20 = .ok (.iload 5, 2) := by decide +kernel
theorem dX0_replace_22 : decode cX0_replace 22 = .ok (.bipush 6, 2) := by decide +kernel
theorem dX0_replace_24 : decode cX0_replace 24 = .ok (.if_icmp .ge 24, 3) := by decide +kernel
theorem dX0_replace_27 : decode cX0_replace 27 = .ok (.aload 4, 2) := by decide +kernel
theorem dX0_replace_29 : decode cX0_replace 29 = .ok (.iload 5, 2) := by decide +kernel
theorem dX0_replace_31 : decode cX0_replace 31 = .ok (.iaload, 1) := by decide +kernel
theorem dX0_replace_32 : decode cX0_replace 32 = .ok (.iload_n 2, 1) := by decide +kernel
theorem dX0_replace_33 : decode cX0_replace 33 = .ok (.if_icmp .ne 9, 3) := by decide +kernel
theorem dX0_replace_36 : decode cX0_replace 36 = .ok (.aload 4, 2) := by decide +kernel
theorem dX0_replace_38 : decode cX0_replace 38 = .ok (.iload 5, 2) := by decide +kernel
theorem dX0_replace_40 : decode cX0_replace 40 = .ok (.iload_n 3, 1) := by decide +kernel
theorem dX0_replace_41 : decode cX0_replace 41 = .ok (.iastore, 1) := by decide +kernel
theorem dX0_replace_42 : decode cX0_replace 42 = .ok (.iinc 5 1, 3) := by decide +kernel
theorem dX0_replace_45 : decode cX0_replace 45 = .ok (.goto (-25), 3) := by decide +kernel
theorem dX0_replace_48 : decode cX0_replace 48 = .ok (.return_, 1) := by decide +kernel
theorem dX0_rallyChance_0 : decode cX0_rallyChance 0 = .ok (.iload 5, 2) := by decide +kernel
theorem dX0_rallyChance_2 : decode cX0_rallyChance 2 = .ok (.ifCond .ne 7, 3) := by decide +kernel
theorem dX0_rallyChance_5 : decode cX0_rallyChance 5 = .ok (.aload_n 1, 1) := by decide +kernel
theorem dX0_rallyChance_6 : decode cX0_rallyChance 6 = .ok (.goto 4, 3) := by decide +kernel
theorem dX0_rallyChance_9 : decode cX0_rallyChance 9 = .ok (.aload_n 2, 1) := by decide +kernel
theorem dX0_rallyChance_10 : decode cX0_rallyChance 10 = .ok (.astore 6, 2) := by decide +kernel
theorem dX0_rallyChance_12 : decode cX0_rallyChance 12 = .ok (.iload 5, 2) := by decide +kernel
theorem dX0_rallyChance_14 : decode cX0_rallyChance 14 = .ok (.ifCond .ne 7, 3) := by decide +kernel
theorem dX0_rallyChance_17 : decode cX0_rallyChance 17 = .ok (.aload_n 2, 1) := by decide +kernel
theorem dX0_rallyChance_18 : decode cX0_rallyChance 18 = .ok (.goto 4, 3) := by decide +kernel
theorem dX0_rallyChance_21 : decode cX0_rallyChance 21 = .ok (.aload_n 1, 1) := by decide +kernel
theorem dX0_rallyChance_22 : decode cX0_rallyChance 22 = .ok (.astore 7, 2) := by decide +kernel
theorem dX0_rallyChance_24 : decode cX0_rallyChance 24 = .ok (.iload 5, 2) := by decide +kernel
theorem dX0_rallyChance_26 : decode cX0_rallyChance 26 = .ok (.ifCond .ne 10, 3) := by decide +kernel
theorem dX0_rallyChance_29 : decode cX0_rallyChance 29 = .ok (.aload_n 0, 1) := by decide +kernel
theorem dX0_rallyChance_30 : decode cX0_rallyChance 30 = .ok (.getfield 9, 3) := by decide +kernel
theorem dX0_rallyChance_33 : decode cX0_rallyChance 33 = .ok (.goto 7, 3) := by decide +kernel
theorem dX0_rallyChance_36 : decode cX0_rallyChance 36 = .ok (.aload_n 0, 1) := by decide +kernel
theorem dX0_rallyChance_37 : decode cX0_rallyChance 37 = .ok (.getfield 15, 3) := by decide +kernel
theorem dX0_rallyChance_40 : decode cX0_rallyChance 40 = .ok (.astore 8, 2) := by decide +kernel
theorem dX0_rallyChance_42 : decode cX0_rallyChance 42 = .ok (.iload 5, 2) := by decide +kernel
theorem dX0_rallyChance_44 : decode cX0_rallyChance 44 = .ok (.ifCond .ne 10, 3) := by decide +kernel
theorem dX0_rallyChance_47 : decode cX0_rallyChance 47 = .ok (.aload_n 0, 1) := by decide +kernel
theorem dX0_rallyChance_48 : decode cX0_rallyChance 48 = .ok (.getfield 15, 3) := by decide +kernel
theorem dX0_rallyChance_51 : decode cX0_rallyChance 51 = .ok (.goto 7, 3) := by decide +kernel
theorem dX0_rallyChance_54 : decode cX0_rallyChance 54 = .ok (.aload_n 0, 1) := by decide +kernel
theorem dX0_rallyChance_55 : decode cX0_rallyChance 55 = .ok (.getfield 9, 3) := by decide +kernel
theorem dX0_rallyChance_58 : decode cX0_rallyChance 58 = .ok (.astore 9, 2) := by decide +kernel
theorem dX0_rallyChance_60 : decode cX0_rallyChance 60 = .ok (.iload 5, 2) := by decide +kernel
theorem dX0_rallyChance_62 : decode cX0_rallyChance 62 = .ok (.ifCond .ne 7, 3) := by decide +kernel
theorem dX0_rallyChance_65 : decode cX0_rallyChance 65 = .ok (.iload_n 3, 1) := by decide +kernel
theorem dX0_rallyChance_66 : decode cX0_rallyChance 66 = .ok (.goto 5, 3) := by decide +kernel
theorem dX0_rallyChance_69 : decode cX0_rallyChance 69 = .ok (.iload 4, 2) := by decide +kernel
theorem dX0_rallyChance_71 : decode cX0_rallyChance 71 = .ok (.istore 10, 2) := by decide +kernel
theorem dX0_rallyChance_73 : decode cX0_rallyChance 73 = .ok (.iload 5, 2) := by decide +kernel
theorem dX0_rallyChance_75 : decode cX0_rallyChance 75 = .ok (.ifCond .ne 8, 3) := by decide +kernel
theorem dX0_rallyChance_78 : decode cX0_rallyChance 78 = .ok (.iload 4, 2) := by decide +kernel
theorem dX0_rallyChance_80 : decode cX0_rallyChance 80 = .ok (.goto 4, 3) := by decide +kernel
theorem dX0_rallyChance_83 : decode cX0_rallyChance 83 = .ok (.iload_n 3, 1) := by decide +kernel
theorem dX0_rallyChance_84 : decode cX0_rallyChance 84 = .ok (.istore 11, 2) := by decide +kernel
theorem dX0_rallyChance_86 : decode cX0_rallyChance 86 = .ok (.sipush 380, 3) := by decide +kernel
theorem dX0_rallyChance_89 : decode cX0_rallyChance 89 = .ok (.aload 6, 2) := by decide +kernel
theorem dX0_rallyChance_91 : decode cX0_rallyChance 91 = .ok (.aload 8, 2) := by decide +kernel
theorem dX0_rallyChance_93 : decode cX0_rallyChance 93 = .ok (.iload 10, 2) := by decide +kernel
theorem dX0_rallyChance_95 : decode cX0_rallyChance 95 = .ok (.bipush 6, 2) := by decide +kernel
theorem dX0_rallyChance_97 : decode cX0_rallyChance 97 = .ok (.invokestatic 30, 3) := by decide +kernel
theorem dX0_rallyChance_100 : decode cX0_rallyChance 100 = .ok (.iaload, 1) := by decide +kernel
theorem dX0_rallyChance_101 : decode cX0_rallyChance 101 = .ok (.iconst 0, 1) := by decide +kernel
theorem dX0_rallyChance_102 : decode cX0_rallyChance 102 = .ok (.invokevirtual 36, 3) := by decide +kernel
theorem dX0_rallyChance_105 : decode cX0_rallyChance 105 = .ok (.iadd, 1) := by decide +kernel
theorem dX0_rallyChance_106 : decode cX0_rallyChance 106 = .ok (.aload 7, 2) := by decide +kernel
theorem dX0_rallyChance_108 : decode cX0_rallyChance 108 = .ok (.aload 9, 2) := by decide +kernel
theorem dX0_rallyChance_110 : decode cX0_rallyChance 110 = .ok (.iload 11, 2) := by decide +kernel
theorem dX0_rallyChance_112 : decode cX0_rallyChance 112 = .ok (.getstatic 41, 3) := by decide +kernel
theorem dX0_rallyChance_115 : decode cX0_rallyChance 115 = .ok (.iconst 1, 1) := by decide +kernel
theorem dX0_rallyChance_116 : decode cX0_rallyChance 116 = .ok (.invokevirtual 44, 3) := by decide +kernel
theorem dX0_rallyChance_119 : decode cX0_rallyChance 119 = .ok (.isub, 1) := by decide +kernel
theorem dX0_rallyChance_120 : decode cX0_rallyChance 120 = .ok (.aload 6, 2) := by decide +kernel
theorem dX0_rallyChance_122 : decode cX0_rallyChance 122 = .ok (.aload 8, 2) := by decide +kernel
theorem dX0_rallyChance_124 : decode cX0_rallyChance 124 = .ok (.iload 10, 2) := by decide +kernel
theorem dX0_rallyChance_126 : decode cX0_rallyChance 126 = .ok (.getstatic 48, 3) := by decide +kernel
theorem dX0_rallyChance_129 : decode cX0_rallyChance 129 = .ok (.iconst 3, 1) := by decide +kernel
theorem dX0_rallyChance_130 : decode cX0_rallyChance 130 = .ok (.invokevirtual 44, 3) := by decide +kernel
theorem dX0_rallyChance_133 : decode cX0_rallyChance 133 = .ok (.iadd, 1) := by decide +kernel
theorem dX0_rallyChance_134 : decode cX0_rallyChance 134 = .ok (.aload 7, 2) := by decide +kernel
theorem dX0_rallyChance_136 : decode cX0_rallyChance 136 = .ok (.aload 9, 2) := by decide +kernel
theorem dX0_rallyChance_138 : decode cX0_rallyChance 138 = .ok (.iload 11, 2) := by decide +kernel
theorem dX0_rallyChance_140 : decode cX0_rallyChance 140 = .ok (.getstatic 48, 3) := by decide +kernel
theorem dX0_rallyChance_143 : decode cX0_rallyChance 143 = .ok (.iconst 2, 1) := by decide +kernel
theorem dX0_rallyChance_144 : decode cX0_rallyChance 144 = .ok (.invokevirtual 44, 3) := by decide +kernel
theorem dX0_rallyChance_147 : decode cX0_rallyChance 147 = .ok (.isub, 1) := by decide +kernel
theorem dX0_rallyChance_148 : decode cX0_rallyChance 148 = .ok (.istore 12, 2) := by decide +kernel
theorem dX0_rallyChance_150 : decode cX0_rallyChance 150 = .ok (.bipush 50, 2) := by decide +kernel
theorem dX0_rallyChance_152 : decode cX0_rallyChance 152 = .ok (.sipush 950, 3) := by decide +kernel
theorem dX0_rallyChance_155 : decode cX0_rallyChance 155 = .ok (.iload 12, 2) := by decide +kernel
theorem dX0_rallyChance_157 : decode cX0_rallyChance 157 = .ok (.invokestatic 51, 3) := by decide +kernel
theorem dX0_rallyChance_160 : decode cX0_rallyChance 160 = .ok (.invokestatic 54, 3) := by decide +kernel
theorem dX0_rallyChance_163 : decode cX0_rallyChance 163 = .ok (.ireturn, 1) := by decide +kernel
theorem dX0_fillPhases_0 : decode cX0_fillPhases 0 = .ok (.aload_n 0, 1) := by decide +kernel
theorem dX0_fillPhases_1 : decode cX0_fillPhases 1 = .ok (.iload_n 3, 1) := by decide +kernel
theorem dX0_fillPhases_2 : decode cX0_fillPhases 2 = .ok (.putfield 26, 3) := by decide +kernel
theorem dX0_fillPhases_5 : decode cX0_fillPhases 5 = .ok (.iconst 0, 1) := by decide +kernel
theorem dX0_fillPhases_6 : decode cX0_fillPhases 6 = .ok (.istore 4, 2) := by decide +kernel
theorem dX0_fillPhases_8 : decode cX0_fillPhases 8 = .ok (.iload 4, 2) := by decide +kernel
theorem dX0_fillPhases_10 : decode cX0_fillPhases 10 = .ok (.bipush 12, 2) := by decide +kernel
theorem dX0_fillPhases_12 : decode cX0_fillPhases 12 = .ok (.if_icmp .ge 96, 3) := by decide +kernel
theorem dX0_fillPhases_15 : decode cX0_fillPhases 15 = .ok (.iload 4, 2) := by decide +kernel
theorem dX0_fillPhases_17 : decode cX0_fillPhases 17 = .ok (.iconst 2, 1) := by decide +kernel
theorem dX0_fillPhases_18 : decode cX0_fillPhases 18 = .ok (.idiv, 1) := by decide +kernel
theorem dX0_fillPhases_19 : decode cX0_fillPhases 19 = .ok (.istore 5, 2) := by decide +kernel
theorem dX0_fillPhases_21 : decode cX0_fillPhases 21 = .ok (.iload 4, 2) := by decide +kernel
theorem dX0_fillPhases_23 : decode cX0_fillPhases 23 = .ok (.iconst 1, 1) := by decide +kernel
theorem dX0_fillPhases_24 : decode cX0_fillPhases 24 = .ok (.iadd, 1) := by decide +kernel
theorem dX0_fillPhases_25 : decode cX0_fillPhases 25 = .ok (.iconst 2, 1) := by decide +kernel
theorem dX0_fillPhases_26 : decode cX0_fillPhases 26 = .ok (.idiv, 1) := by decide +kernel
theorem dX0_fillPhases_27 : decode cX0_fillPhases 27 = .ok (.istore 6, 2) := by decide +kernel
theorem dX0_fillPhases_29 : decode cX0_fillPhases 29 = .ok (.aload_n 0, 1) := by decide +kernel
theorem dX0_fillPhases_30 : decode cX0_fillPhases 30 = .ok (.getfield 26, 3) := by decide +kernel
theorem dX0_fillPhases_33 : decode cX0_fillPhases 33 = .ok (.ifCond .ne 8, 3) := by decide +kernel
theorem dX0_fillPhases_36 : decode cX0_fillPhases 36 = .ok (.iload 5, 2) := by decide +kernel
theorem dX0_fillPhases_38 : decode cX0_fillPhases 38 = .ok (.goto 5, 3) := by decide +kernel
theorem dX0_fillPhases_41 : decode cX0_fillPhases 41 = .ok (.iload 6, 2) := by decide +kernel
theorem dX0_fillPhases_43 : decode cX0_fillPhases 43 = .ok (.istore 7, 2) := by decide +kernel
theorem dX0_fillPhases_45 : decode cX0_fillPhases 45 = .ok (.aload_n 0, 1) := by decide +kernel
theorem dX0_fillPhases_46 : decode cX0_fillPhases 46 = .ok (.getfield 26, 3) := by decide +kernel
theorem dX0_fillPhases_49 : decode cX0_fillPhases 49 = .ok (.ifCond .ne 8, 3) := by decide +kernel
theorem dX0_fillPhases_52 : decode cX0_fillPhases 52 = .ok (.iload 6, 2) := by decide +kernel
theorem dX0_fillPhases_54 : decode cX0_fillPhases 54 = .ok (.goto 5, 3) := by decide +kernel
theorem dX0_fillPhases_57 : decode cX0_fillPhases 57 = .ok (.iload 5, 2) := by decide +kernel
theorem dX0_fillPhases_59 : decode cX0_fillPhases 59 = .ok (.istore 8, 2) := by decide +kernel
theorem dX0_fillPhases_61 : decode cX0_fillPhases 61 = .ok (.iload 4, 2) := by decide +kernel
theorem dX0_fillPhases_63 : decode cX0_fillPhases 63 = .ok (.iconst 2, 1) := by decide +kernel
theorem dX0_fillPhases_64 : decode cX0_fillPhases 64 = .ok (.irem, 1) := by decide +kernel
theorem dX0_fillPhases_65 : decode cX0_fillPhases 65 = .ok (.ifCond .ne 10, 3) := by decide +kernel
theorem dX0_fillPhases_68 : decode cX0_fillPhases 68 = .ok (.aload_n 0, 1) := by decide +kernel
theorem dX0_fillPhases_69 : decode cX0_fillPhases 69 = .ok (.getfield 26, 3) := by decide +kernel
theorem dX0_fillPhases_72 : decode cX0_fillPhases 72 = .ok (.goto 9, 3) := by decide +kernel
theorem dX0_fillPhases_75 : decode cX0_fillPhases 75 = .ok (.iconst 1, 1) := by decide +kernel
theorem dX0_fillPhases_76 : decode cX0_fillPhases 76 = .ok (.aload_n 0, 1) := by decide +kernel
theorem dX0_fillPhases_77 : decode cX0_fillPhases 77 = .ok (.getfield 26, 3) := by decide +kernel
theorem dX0_fillPhases_80 : decode cX0_fillPhases 80 = .ok (.isub, 1) := by decide +kernel
theorem dX0_fillPhases_81 : decode cX0_fillPhases 81 = .ok (.istore 9, 2) := by decide +kernel
theorem dX0_fillPhases_83 : decode cX0_fillPhases 83 = .ok (.aload_n 0, 1) := by decide +kernel
theorem dX0_fillPhases_84 : decode cX0_fillPhases 84 = .ok (.getfield 18, 3) := by decide +kernel
theorem dX0_fillPhases_87 : decode cX0_fillPhases 87 = .ok (.iload 4, 2) := by decide +kernel
theorem dX0_fillPhases_89 : decode cX0_fillPhases 89 = .ok (.aload_n 0, 1) := by decide +kernel
theorem dX0_fillPhases_90 : decode cX0_fillPhases 90 = .ok (.aload_n 1, 1) := by decide +kernel
theorem dX0_fillPhases_91 : decode cX0_fillPhases 91 = .ok (.aload_n 2, 1) := by decide +kernel
theorem dX0_fillPhases_92 : decode cX0_fillPhases 92 = .ok (.iload 7, 2) := by decide +kernel
theorem dX0_fillPhases_94 : decode cX0_fillPhases 94 = .ok (.iload 8, 2) := by decide +kernel
theorem dX0_fillPhases_96 : decode cX0_fillPhases 96 = .ok (.iload 9, 2) := by decide +kernel
theorem dX0_fillPhases_98 : decode cX0_fillPhases 98 = .ok (.invokevirtual 57, 3) := by decide +kernel
theorem dX0_fillPhases_101 : decode cX0_fillPhases 101 = .ok (.iastore, 1) := by decide +kernel
theorem dX0_fillPhases_102 : decode cX0_fillPhases 102 = .ok (.iinc 4 1, 3) := by decide +kernel
theorem dX0_fillPhases_105 : decode cX0_fillPhases 105 = .ok (.goto (-97), 3) := by decide +kernel
theorem dX0_fillPhases_108 : decode cX0_fillPhases 108 = .ok (.return_, 1) := by decide +kernel
theorem dX0_setChance_0 : decode cX0_setChance 0 = .ok (.iload 4, 2) := by decide +kernel
theorem dX0_setChance_2 : decode cX0_setChance 2 = .ok (.bipush 30, 2) := by decide +kernel
theorem dX0_setChance_4 : decode cX0_setChance 4 = .ok (.invokestatic 51, 3) := by decide +kernel
theorem dX0_setChance_7 : decode cX0_setChance 7 = .ok (.istore 5, 2) := by decide +kernel
theorem dX0_setChance_9 : decode cX0_setChance 9 = .ok (.iload 5, 2) := by decide +kernel
theorem dX0_setChance_11 : decode cX0_setChance 11 = .ok (.istore 6, 2) := by decide +kernel
theorem dX0_setChance_13 : decode cX0_setChance 13 = .ok (.iload 6, 2) := by decide +kernel
theorem dX0_setChance_15 : decode cX0_setChance 15 = .ok (.iload_n 1, 1) := by decide +kernel
theorem dX0_setChance_16 : decode cX0_setChance 16 = .ok (.if_icmp .lt 94, 3) := by decide +kernel
theorem dX0_setChance_19 : decode cX0_setChance 19 = .ok (.iload 6, 2) := by decide +kernel
theorem dX0_setChance_21 : decode cX0_setChance 21 = .ok (.ifCond .lt 89, 3) := by decide +kernel
theorem dX0_setChance_24 : decode cX0_setChance 24 = .ok (.iload 5, 2) := by decide +kernel
theorem dX0_setChance_26 : decode cX0_setChance 26 = .ok (.istore 7, 2) := by decide +kernel
theorem dX0_setChance_28 : decode cX0_setChance 28 = .ok (.iload 7, 2) := by decide +kernel
theorem dX0_setChance_30 : decode cX0_setChance 30 = .ok (.iload_n 2, 1) := by decide +kernel
theorem dX0_setChance_31 : decode cX0_setChance 31 = .ok (.if_icmp .lt 73, 3) := by decide +kernel
theorem dX0_setChance_34 : decode cX0_setChance 34 = .ok (.iload 7, 2) := by decide +kernel
theorem dX0_setChance_36 : decode cX0_setChance 36 = .ok (.ifCond .lt 68, 3) := by decide +kernel
theorem dX0_setChance_39 : decode cX0_setChance 39 = .ok (.iload 6, 2) := by decide +kernel
theorem dX0_setChance_41 : decode cX0_setChance 41 = .ok (.iload 7, 2) := by decide +kernel
theorem dX0_setChance_43 : decode cX0_setChance 43 = .ok (.iload_n 3, 1) := by decide +kernel
theorem dX0_setChance_44 : decode cX0_setChance 44 = .ok (.iload 5, 2) := by decide +kernel
theorem dX0_setChance_46 : decode cX0_setChance 46 = .ok (.invokestatic 61, 3) := by decide +kernel
theorem dX0_setChance_49 : decode cX0_setChance 49 = .ok (.ifCond .eq 16, 3) := by decide +kernel
theorem dX0_setChance_52 : decode cX0_setChance 52 = .ok (.aload_n 0, 1) := by decide +kernel
theorem dX0_setChance_53 : decode cX0_setChance 53 = .ok (.iload 6, 2) := by decide +kernel
theorem dX0_setChance_55 : decode cX0_setChance 55 = .ok (.iload 7, 2) := by decide +kernel
theorem dX0_setChance_57 : decode cX0_setChance 57 = .ok (.ldc 67, 2) := by decide +kernel
theorem dX0_setChance_59 : decode cX0_setChance 59 = .ok (.invokevirtual 68, 3) := by decide +kernel
theorem dX0_setChance_62 : decode cX0_setChance 62 = .ok (.goto 36, 3) := by decide +kernel
theorem dX0_setChance_65 : decode cX0_setChance 65 = .ok (.iload 7, 2) := by decide +kernel
theorem dX0_setChance_67 : decode cX0_setChance 67 = .ok (.iload 6, 2) := by decide +kernel
theorem dX0_setChance_69 : decode cX0_setChance 69 = .ok (.iload_n 3, 1) := by decide +kernel
theorem dX0_setChance_70 : decode cX0_setChance 70 = .ok (.iload 5, 2) := by decide +kernel
theorem dX0_setChance_72 : decode cX0_setChance 72 = .ok (.invokestatic 61, 3) := by decide +kernel
theorem dX0_setChance_75 : decode cX0_setChance 75 = .ok (.ifCond .eq 15, 3) := by decide +kernel
theorem dX0_setChance_78 : decode cX0_setChance 78 = .ok (.aload_n 0, 1) := by decide +kernel
theorem dX0_setChance_79 : decode cX0_setChance 79 = .ok (.iload 6, 2) := by decide +kernel
theorem dX0_setChance_81 : decode cX0_setChance 81 = .ok (.iload 7, 2) := by decide +kernel
theorem dX0_setChance_83 : decode cX0_setChance 83 = .ok (.iconst 0, 1) := by decide +kernel
theorem dX0_setChance_84 : decode cX0_setChance 84 = .ok (.invokevirtual 68, 3) := by decide +kernel
theorem dX0_setChance_87 : decode cX0_setChance 87 = .ok (.goto 11, 3) := by decide +kernel
theorem dX0_setChance_90 : decode cX0_setChance 90 = .ok (.aload_n 0, 1) := by decide +kernel
theorem dX0_setChance_91 : decode cX0_setChance 91 = .ok (.iload 6, 2) := by decide +kernel
theorem dX0_setChance_93 : decode cX0_setChance 93 = .ok (.iload 7, 2) := by decide +kernel
theorem dX0_setChance_95 : decode cX0_setChance 95 = .ok (.invokevirtual 72, 3) := by decide +kernel
theorem dX0_setChance_98 : decode cX0_setChance 98 = .ok (.iinc 7 (-1), 3) := by decide +kernel
theorem dX0_setChance_101 : decode cX0_setChance 101 = .ok (.goto (-73), 3) := by decide +kernel
theorem dX0_setChance_104 : decode cX0_setChance 104 = .ok (.iinc 6 (-1), 3) := by decide +kernel
theorem dX0_setChance_107 : decode cX0_setChance 107 = .ok (.goto (-94), 3) := by decide +kernel
theorem dX0_setChance_110 : decode cX0_setChance 110 = .ok (.aload_n 0, 1) := by decide +kernel
theorem dX0_setChance_111 : decode cX0_setChance 111 = .ok (.iload_n 1, 1) := by decide +kernel
theorem dX0_setChance_112 : decode cX0_setChance 112 = .ok (.iload_n 2, 1) := by decide +kernel
theorem dX0_setChance_113 : decode cX0_setChance 113 = .ok (.iconst 0, 1) := by decide +kernel
theorem dX0_setChance_114 : decode cX0_setChance 114 = .ok (.invokevirtual 76, 3) := by decide +kernel
theorem dX0_setChance_117 : decode cX0_setChance 117 = .ok (.ireturn, 1) := by decide +kernel
theorem dX0_weightOfRally_0 : decode cX0_weightOfRally 0 = .ok (.aload_n 0, 1) := by decide +kernel
theorem dX0_weightOfRally_1 : decode cX0_weightOfRally 1 = .ok (.getfield 26, 3) := by decide +kernel
theorem dX0_weightOfRally_4 : decode cX0_weightOfRally 4 = .ok (.ifCond .ne 7, 3) := by decide +kernel
theorem dX0_weightOfRally_7 : decode cX0_weightOfRally 7 = .ok (.iconst 0, 1) := by decide +kernel
theorem dX0_weightOfRally_8 : decode cX0_weightOfRally 8 = .ok (.goto 4, 3) := by decide +kernel
theorem dX0_weightOfRally_11 : decode cX0_weightOfRally 11 = .ok (.iconst 1, 1) := by decide +kernel
theorem dX0_weightOfRally_12 : decode cX0_weightOfRally 12 = .ok (.istore_n 3, 1) := by decide +kernel
theorem dX0_weightOfRally_13 : decode cX0_weightOfRally 13 = .ok (.aload_n 0, 1) := by decide +kernel
theorem dX0_weightOfRally_14 : decode cX0_weightOfRally 14 = .ok (.iload_n 1, 1) := by decide +kernel
theorem dX0_weightOfRally_15 : decode cX0_weightOfRally 15 = .ok (.iconst 1, 1) := by decide +kernel
theorem dX0_weightOfRally_16 : decode cX0_weightOfRally 16 = .ok (.iadd, 1) := by decide +kernel
theorem dX0_weightOfRally_17 : decode cX0_weightOfRally 17 = .ok (.iload_n 2, 1) := by decide +kernel
theorem dX0_weightOfRally_18 : decode cX0_weightOfRally 18 = .ok (.iload_n 3, 1) := by decide +kernel
theorem dX0_weightOfRally_19 : decode cX0_weightOfRally 19 = .ok (.invokevirtual 76, 3) := by decide +kernel
theorem dX0_weightOfRally_22 : decode cX0_weightOfRally 22 = .ok (.aload_n 0, 1) := by decide +kernel
theorem dX0_weightOfRally_23 : decode cX0_weightOfRally 23 = .ok (.iload_n 1, 1) := by decide +kernel
theorem dX0_weightOfRally_24 : decode cX0_weightOfRally 24 = .ok (.iload_n 2, 1) := by decide +kernel
theorem dX0_weightOfRally_25 : decode cX0_weightOfRally 25 = .ok (.iconst 1, 1) := by decide +kernel
theorem dX0_weightOfRally_26 : decode cX0_weightOfRally 26 = .ok (.iadd, 1) := by decide +kernel
theorem dX0_weightOfRally_27 : decode cX0_weightOfRally 27 = .ok (.iconst 1, 1) := by decide +kernel
theorem dX0_weightOfRally_28 : decode cX0_weightOfRally 28 = .ok (.iload_n 3, 1) := by decide +kernel
theorem dX0_weightOfRally_29 : decode cX0_weightOfRally 29 = .ok (.isub, 1) := by decide +kernel
theorem dX0_weightOfRally_30 : decode cX0_weightOfRally 30 = .ok (.invokevirtual 76, 3) := by decide +kernel
theorem dX0_weightOfRally_33 : decode cX0_weightOfRally 33 = .ok (.isub, 1) := by decide +kernel
theorem dX0_weightOfRally_34 : decode cX0_weightOfRally 34 = .ok (.ireturn, 1) := by decide +kernel
theorem dX0_valueAt_0 : decode cX0_valueAt 0 = .ok (.iload_n 1, 1) := by decide +kernel
theorem dX0_valueAt_1 : decode cX0_valueAt 1 = .ok (.ifCond .lt 23, 3) := by decide +kernel
theorem dX0_valueAt_4 : decode cX0_valueAt 4 = .ok (.iload_n 2, 1) := by decide +kernel
theorem dX0_valueAt_5 : decode cX0_valueAt 5 = .ok (.ifCond .lt 19, 3) := by decide +kernel
theorem dX0_valueAt_8 : decode cX0_valueAt 8 = .ok (.iload_n 2, 1) := by decide +kernel
theorem dX0_valueAt_9 : decode cX0_valueAt 9 = .ok (.bipush 30, 2) := by decide +kernel
theorem dX0_valueAt_11 : decode cX0_valueAt 11 = .ok (.if_icmp .gt 13, 3) := by decide +kernel
theorem dX0_valueAt_14 : decode cX0_valueAt 14 = .ok (.iload_n 3, 1) := by decide +kernel
theorem dX0_valueAt_15 : decode cX0_valueAt 15 = .ok (.ifCond .lt 9, 3) := by decide +kernel
theorem dX0_valueAt_18 : decode cX0_valueAt 18 = .ok (.iload_n 3, 1) := by decide +kernel
theorem dX0_valueAt_19 : decode cX0_valueAt 19 = .ok (.bipush 12, 2) := by decide +kernel
theorem dX0_valueAt_21 : decode cX0_valueAt 21 = .ok (.if_icmp .lt 5, 3) := by decide +kernel
theorem dX0_valueAt_24 : decode cX0_valueAt 24 = .ok (.iconst 0, 1) := by decide +kernel
theorem dX0_valueAt_25 : decode cX0_valueAt 25 = .ok (.ireturn, 1) := by decide +kernel
theorem dX0_valueAt_26 : decode cX0_valueAt 26 = .ok (.aload_n 0, 1) := by decide +kernel
theorem dX0_valueAt_27 : decode cX0_valueAt 27 = .ok (.getfield 23, 3) := by decide +kernel
theorem dX0_valueAt_30 : decode cX0_valueAt 30 = .ok (.iload_n 1, 1) := by decide +kernel
theorem dX0_valueAt_31 : decode cX0_valueAt 31 = .ok (.iconst 1, 1) := by decide +kernel
theorem dX0_valueAt_32 : decode cX0_valueAt 32 = .ok (.iand, 1) := by decide +kernel
theorem dX0_valueAt_33 : decode cX0_valueAt 33 = .ok (.aaload, 1) := by decide +kernel
theorem dX0_valueAt_34 : decode cX0_valueAt 34 = .ok (.iload_n 2, 1) := by decide +kernel
theorem dX0_valueAt_35 : decode cX0_valueAt 35 = .ok (.bipush 12, 2) := by decide +kernel
theorem dX0_valueAt_37 : decode cX0_valueAt 37 = .ok (.imul, 1) := by decide +kernel
theorem dX0_valueAt_38 : decode cX0_valueAt 38 = .ok (.iload_n 3, 1) := by decide +kernel
theorem dX0_valueAt_39 : decode cX0_valueAt 39 = .ok (.iadd, 1) := by decide +kernel
theorem dX0_valueAt_40 : decode cX0_valueAt 40 = .ok (.iaload, 1) := by decide +kernel
theorem dX0_valueAt_41 : decode cX0_valueAt 41 = .ok (.ireturn, 1) := by decide +kernel
theorem dX0_fillScore_0 : decode cX0_fillScore 0 = .ok (.aload_n 0, 1) := by decide +kernel
theorem dX0_fillScore_1 : decode cX0_fillScore 1 = .ok (.getfield 23, 3) := by decide +kernel
theorem dX0_fillScore_4 : decode cX0_fillScore 4 = .ok (.iload_n 1, 1) := by decide +kernel
theorem dX0_fillScore_5 : decode cX0_fillScore 5 = .ok (.iconst 1, 1) := by decide +kernel
theorem dX0_fillScore_6 : decode cX0_fillScore 6 = .ok (.iand, 1) := by decide +kernel
theorem dX0_fillScore_7 : decode cX0_fillScore 7 = .ok (.aaload, 1) := by decide +kernel
theorem dX0_fillScore_8 : decode cX0_fillScore 8 = .ok (.astore 4, 2) := by decide +kernel
theorem dX0_fillScore_10 : decode cX0_fillScore 10 = .ok (.iload_n 2, 1) := by decide +kernel
theorem dX0_fillScore_11 : decode cX0_fillScore 11 = .ok (.bipush 12, 2) := by decide +kernel
theorem dX0_fillScore_13 : decode cX0_fillScore 13 = .ok (.imul, 1) := by decide +kernel
theorem dX0_fillScore_14 : decode cX0_fillScore 14 = .ok (.istore 5, 2) := by decide +kernel
theorem dX0_fillScore_16 : decode cX0_fillScore 16 = .ok (.iconst 0, 1) := by decide +kernel
theorem dX0_fillScore_17 : decode cX0_fillScore 17 = .ok (.istore 6, 2) := by decide +kernel
theorem dX0_fillScore_19 : decode cX0_fillScore 19 = .ok (.iload 6, 2) := by decide +kernel
theorem dX0_fillScore_21 : decode cX0_fillScore 21 = .ok (.bipush 12, 2) := by decide +kernel
theorem dX0_fillScore_23 : decode cX0_fillScore 23 = .ok (.if_icmp .ge 18, 3) := by decide +kernel
theorem dX0_fillScore_26 : decode cX0_fillScore 26 = .ok (.aload 4, 2) := by decide +kernel
theorem dX0_fillScore_28 : decode cX0_fillScore 28 = .ok (.iload 5, 2) := by decide +kernel
theorem dX0_fillScore_30 : decode cX0_fillScore 30 = .ok (.iload 6, 2) := by decide +kernel
theorem dX0_fillScore_32 : decode cX0_fillScore 32 = .ok (.iadd, 1) := by decide +kernel
theorem dX0_fillScore_33 : decode cX0_fillScore 33 = .ok (.iload_n 3, 1) := by decide +kernel
theorem dX0_fillScore_34 : decode cX0_fillScore 34 = .ok (.iastore, 1) := by decide +kernel
theorem dX0_fillScore_35 : decode cX0_fillScore 35 = .ok (.iinc 6 1, 3) := by decide +kernel
theorem dX0_fillScore_38 : decode cX0_fillScore 38 = .ok (.goto (-19), 3) := by decide +kernel
theorem dX0_fillScore_41 : decode cX0_fillScore 41 = .ok (.return_, 1) := by decide +kernel
theorem dX0_reckonScore_0 : decode cX0_reckonScore 0 = .ok (.aload_n 0, 1) := by decide +kernel
theorem dX0_reckonScore_1 : decode cX0_reckonScore 1 = .ok (.getfield 23, 3) := by decide +kernel
theorem dX0_reckonScore_4 : decode cX0_reckonScore 4 = .ok (.iload_n 1, 1) := by decide +kernel
theorem dX0_reckonScore_5 : decode cX0_reckonScore 5 = .ok (.iconst 1, 1) := by decide +kernel
theorem dX0_reckonScore_6 : decode cX0_reckonScore 6 = .ok (.iand, 1) := by decide +kernel
theorem dX0_reckonScore_7 : decode cX0_reckonScore 7 = .ok (.aaload, 1) := by decide +kernel
theorem dX0_reckonScore_8 : decode cX0_reckonScore 8 = .ok (.astore_n 3, 1) := by decide +kernel
theorem dX0_reckonScore_9 : decode cX0_reckonScore 9 = .ok (.aload_n 0, 1) := by decide +kernel
theorem dX0_reckonScore_10 : decode cX0_reckonScore 10 = .ok (.getfield 23, 3) := by decide +kernel
theorem dX0_reckonScore_13 : decode cX0_reckonScore 13 = .ok (.iload_n 1, 1) := by decide +kernel
theorem dX0_reckonScore_14 : decode cX0_reckonScore 14 = .ok (.iconst 1, 1) := by decide +kernel
theorem dX0_reckonScore_15 : decode cX0_reckonScore 15 = .ok (.iadd, 1) := by decide +kernel
theorem dX0_reckonScore_16 : decode cX0_reckonScore 16 = .ok (.iconst 1, 1) := by decide +kernel
theorem dX0_reckonScore_17 : decode cX0_reckonScore 17 = .ok (.iand, 1) := by decide +kernel
theorem dX0_reckonScore_18 : decode cX0_reckonScore 18 = .ok (.aaload, 1) := by decide +kernel
theorem dX0_reckonScore_19 : decode cX0_reckonScore 19 = .ok (.astore 4, 2) := by decide +kernel
theorem dX0_reckonScore_21 : decode cX0_reckonScore 21 = .ok (.iload_n 2, 1) := by decide +kernel
theorem dX0_reckonScore_22 : decode cX0_reckonScore 22 = .ok (.bipush 12, 2) := by decide +kernel
theorem dX0_reckonScore_24 : decode cX0_reckonScore 24 = .ok (.imul, 1) := by decide +kernel
theorem dX0_reckonScore_25 : decode cX0_reckonScore 25 = .ok (.istore 5, 2) := by decide +kernel
theorem dX0_reckonScore_27 : decode cX0_reckonScore 27 = .ok (.iload 5, 2) := by decide +kernel
theorem dX0_reckonScore_29 : decode cX0_reckonScore 29 = .ok (.bipush 12, 2) := by decide +kernel
theorem dX0_reckonScore_31 : decode cX0_reckonScore 31 = .ok (.iadd, 1) := by decide +kernel
theorem dX0_reckonScore_32 : decode cX0_reckonScore 32 = .ok (.istore 6, 2) := by decide +kernel
theorem dX0_reckonScore_34 : decode cX0_reckonScore 34 = .ok (.aload_n 0, 1) := by decide +kernel
theorem dX0_reckonScore_35 : decode cX0_reckonScore 35 = .ok (.getfield 26, 3) := by decide +kernel
theorem dX0_reckonScore_38 : decode cX0_reckonScore 38 = .ok (.istore 7, 2) := by decide +kernel
theorem dX0_reckonScore_40 : decode cX0_reckonScore 40 = .ok (.iconst 0, 1) := by decide +kernel
theorem dX0_reckonScore_41 : decode cX0_reckonScore 41 = .ok (.istore 8, 2) := by decide +kernel
theorem dX0_reckonScore_43 : decode cX0_reckonScore 43 = .ok (.iload 8, 2) := by decide +kernel
theorem dX0_reckonScore_45 : decode cX0_reckonScore 45 = .ok (.bipush 12, 2) := by decide +kernel
theorem dX0_reckonScore_47 : decode cX0_reckonScore 47 = .ok (.if_icmp .ge 125, 3) := by decide +kernel
theorem dX0_reckonScore_50 : decode cX0_reckonScore 50 = .ok (.iload 8, 2) := by decide +kernel
theorem dX0_reckonScore_52 : decode cX0_reckonScore 52 = .ok (.iconst 1, 1) := by decide +kernel
theorem dX0_reckonScore_53 : decode cX0_reckonScore 53 = .ok (.iadd, 1) := by decide +kernel
theorem dX0_reckonScore_54 : decode cX0_reckonScore 54 = .ok (.bipush 12, 2) := by decide +kernel
theorem dX0_reckonScore_56 : decode cX0_reckonScore 56 = .ok (.if_icmp .ge 10, 3) := by decide +kernel
theorem dX0_reckonScore_59 : decode cX0_reckonScore 59 = .ok (.iload 8, 2) := by decide +kernel
theorem dX0_reckonScore_61 : decode cX0_reckonScore 61 = .ok (.iconst 1, 1) := by decide +kernel
theorem dX0_reckonScore_62 : decode cX0_reckonScore 62 = .ok (.iadd, 1) := by decide +kernel
theorem dX0_reckonScore_63 : decode cX0_reckonScore 63 = .ok (.goto 4, 3) := by decide +kernel
theorem dX0_reckonScore_66 : decode cX0_reckonScore 66 = .ok (.iconst 0, 1) := by decide +kernel
theorem dX0_reckonScore_67 : decode cX0_reckonScore 67 = .ok (.istore 9, 2) := by decide +kernel
theorem dX0_reckonScore_69 : decode cX0_reckonScore 69 = .ok (.iload 7, 2) := by decide +kernel
theorem dX0_reckonScore_71 : decode cX0_reckonScore 71 = .ok (.ifCond .ne 15, 3) := by decide +kernel
theorem dX0_reckonScore_74 : decode cX0_reckonScore 74 = .ok (.aload 4, 2) := by decide +kernel
theorem dX0_reckonScore_76 : decode cX0_reckonScore 76 = .ok (.iload 5, 2) := by decide +kernel
theorem dX0_reckonScore_78 : decode cX0_reckonScore 78 = .ok (.iload 8, 2) := by decide +kernel
theorem dX0_reckonScore_80 : decode cX0_reckonScore 80 = .ok (.iadd, 1) := by decide +kernel
theorem dX0_reckonScore_81 : decode cX0_reckonScore 81 = .ok (.iaload, 1) := by decide +kernel
theorem dX0_reckonScore_82 : decode cX0_reckonScore 82 = .ok (.i2l, 1) := by decide +kernel
theorem dX0_reckonScore_83 : decode cX0_reckonScore 83 = .ok (.goto 11, 3) := by decide +kernel
theorem dX0_reckonScore_86 : decode cX0_reckonScore 86 = .ok (.aload_n 3, 1) := by decide +kernel
theorem dX0_reckonScore_87 : decode cX0_reckonScore 87 = .ok (.iload 6, 2) := by decide +kernel
theorem dX0_reckonScore_89 : decode cX0_reckonScore 89 = .ok (.iload 8, 2) := by decide +kernel
theorem dX0_reckonScore_91 : decode cX0_reckonScore 91 = .ok (.iadd, 1) := by decide +kernel
theorem dX0_reckonScore_92 : decode cX0_reckonScore 92 = .ok (.iaload, 1) := by decide +kernel
theorem dX0_reckonScore_93 : decode cX0_reckonScore 93 = .ok (.i2l, 1) := by decide +kernel
theorem dX0_reckonScore_94 : decode cX0_reckonScore 94 = .ok (.lstore 10, 2) := by decide +kernel
theorem dX0_reckonScore_96 : decode cX0_reckonScore 96 = .ok (.iload 7, 2) := by decide +kernel
theorem dX0_reckonScore_98 : decode cX0_reckonScore 98 = .ok (.ifCond .ne 14, 3) := by decide +kernel
theorem dX0_reckonScore_101 : decode cX0_reckonScore 101 = .ok (.aload_n 3, 1) := by decide +kernel
theorem dX0_reckonScore_102 : decode cX0_reckonScore 102 = .ok (.iload 6, 2) := by decide +kernel
theorem dX0_reckonScore_104 : decode cX0_reckonScore 104 = .ok (.iload 9, 2) := by decide +kernel
theorem dX0_reckonScore_106 : decode cX0_reckonScore 106 = .ok (.iadd, 1) := by decide +kernel
theorem dX0_reckonScore_107 : decode cX0_reckonScore 107 = .ok (.iaload, 1) := by decide +kernel
theorem dX0_reckonScore_108 : decode cX0_reckonScore 108 = .ok (.i2l, 1) := by decide +kernel
theorem dX0_reckonScore_109 : decode cX0_reckonScore 109 = .ok (.goto 12, 3) := by decide +kernel
theorem dX0_reckonScore_112 : decode cX0_reckonScore 112 = .ok (.aload 4, 2) := by decide +kernel
theorem dX0_reckonScore_114 : decode cX0_reckonScore 114 = .ok (.iload 5, 2) := by decide +kernel
theorem dX0_reckonScore_116 : decode cX0_reckonScore 116 = .ok (.iload 9, 2) := by decide +kernel
theorem dX0_reckonScore_118 : decode cX0_reckonScore 118 = .ok (.iadd, 1) := by decide +kernel
theorem dX0_reckonScore_119 : decode cX0_reckonScore 119 = .ok (.iaload, 1) := by decide +kernel
theorem dX0_reckonScore_120 : decode cX0_reckonScore 120 = .ok (.i2l, 1) := by decide +kernel
theorem dX0_reckonScore_121 : decode cX0_reckonScore 121 = .ok (.lstore 12, 2) := by decide +kernel
theorem dX0_reckonScore_123 : decode cX0_reckonScore 123 = .ok (.aload_n 0, 1) := by decide +kernel
theorem dX0_reckonScore_124 : decode cX0_reckonScore 124 = .ok (.getfield 18, 3) := by decide +kernel
theorem dX0_reckonScore_127 : decode cX0_reckonScore 127 = .ok (.iload 8, 2) := by decide +kernel
theorem dX0_reckonScore_129 : decode cX0_reckonScore 129 = .ok (.iaload, 1) := by decide +kernel
theorem dX0_reckonScore_130 : decode cX0_reckonScore 130 = .ok (.i2l, 1) := by decide +kernel
theorem dX0_reckonScore_131 : decode cX0_reckonScore 131 = .ok (.lstore 14, 2) := by decide +kernel
theorem dX0_reckonScore_133 : decode cX0_reckonScore 133 = .ok (.aload_n 3, 1) := by decide +kernel
theorem dX0_reckonScore_134 : decode cX0_reckonScore 134 = .ok (.iload 5, 2) := by decide +kernel
theorem dX0_reckonScore_136 : decode cX0_reckonScore 136 = .ok (.iload 8, 2) := by decide +kernel
theorem dX0_reckonScore_138 : decode cX0_reckonScore 138 = .ok (.iadd, 1) := by decide +kernel
theorem dX0_reckonScore_139 : decode cX0_reckonScore 139 = .ok (.lload 14, 2) := by decide +kernel
theorem dX0_reckonScore_141 : decode cX0_reckonScore 141 = .ok (.lload 10, 2) := by decide +kernel
theorem dX0_reckonScore_143 : decode cX0_reckonScore 143 = .ok (.lmul, 1) := by decide +kernel
theorem dX0_reckonScore_144 : decode cX0_reckonScore 144 = .ok (.ldc2_w 80, 3) := by decide +kernel
theorem dX0_reckonScore_147 : decode cX0_reckonScore 147 = .ok (.lload 14, 2) := by decide +kernel
theorem dX0_reckonScore_149 : decode cX0_reckonScore 149 = .ok (.lsub, 1) := by decide +kernel
theorem dX0_reckonScore_150 : decode cX0_reckonScore 150 = .ok (.lload 12, 2) := by decide +kernel
theorem dX0_reckonScore_152 : decode cX0_reckonScore 152 = .ok (.lmul, 1) := by decide +kernel
theorem dX0_reckonScore_153 : decode cX0_reckonScore 153 = .ok (.ladd, 1) := by decide +kernel
theorem dX0_reckonScore_154 : decode cX0_reckonScore 154 = .ok (.ldc2_w 80, 3) := by decide +kernel
theorem dX0_reckonScore_157 : decode cX0_reckonScore 157 = .ok (.ldiv, 1) := by decide +kernel
theorem dX0_reckonScore_158 : decode cX0_reckonScore 158 = .ok (.l2i, 1) := by decide +kernel
theorem dX0_reckonScore_159 : decode cX0_reckonScore 159 = .ok (.iastore, 1) := by decide +kernel
theorem dX0_reckonScore_160 : decode cX0_reckonScore 160 = .ok (.iconst 1, 1) := by decide +kernel
theorem dX0_reckonScore_161 : decode cX0_reckonScore 161 = .ok (.iload 7, 2) := by decide +kernel
theorem dX0_reckonScore_163 : decode cX0_reckonScore 163 = .ok (.isub, 1) := by decide +kernel
theorem dX0_reckonScore_164 : decode cX0_reckonScore 164 = .ok (.istore 7, 2) := by decide +kernel
theorem dX0_reckonScore_166 : decode cX0_reckonScore 166 = .ok (.iinc 8 1, 3) := by decide +kernel
theorem dX0_reckonScore_169 : decode cX0_reckonScore 169 = .ok (.goto (-126), 3) := by decide +kernel
theorem dX0_reckonScore_172 : decode cX0_reckonScore 172 = .ok (.return_, 1) := by decide +kernel
theorem dX1_init_0 : decode cX1_init 0 = .ok (.aload_n 0, 1) := by decide +kernel
theorem dX1_init_1 : decode cX1_init 1 = .ok (.invokespecial 3, 3) := by decide +kernel
theorem dX1_init_4 : decode cX1_init 4 = .ok (.aload_n 0, 1) := by decide +kernel
theorem dX1_init_5 : decode cX1_init 5 = .ok (.iconst (-1), 1) := by decide +kernel
theorem dX1_init_6 : decode cX1_init 6 = .ok (.putfield 9, 3) := by decide +kernel
theorem dX1_init_9 : decode cX1_init 9 = .ok (.aload_n 0, 1) := by decide +kernel
theorem dX1_init_10 : decode cX1_init 10 = .ok (.iconst 0, 1) := by decide +kernel
theorem dX1_init_11 : decode cX1_init 11 = .ok (.putfield 15, 3) := by decide +kernel
theorem dX1_init_14 : decode cX1_init 14 = .ok (.aload_n 0, 1) := by decide +kernel
theorem dX1_init_15 : decode cX1_init 15 = .ok (.iconst (-1), 1) := by decide +kernel
theorem dX1_init_16 : decode cX1_init 16 = .ok (.putfield 19, 3) := by decide +kernel
theorem dX1_init_19 : decode cX1_init 19 = .ok (.aload_n 0, 1) := by decide +kernel
theorem dX1_init_20 : decode cX1_init 20 = .ok (.iconst 0, 1) := by decide +kernel
theorem dX1_init_21 : decode cX1_init 21 = .ok (.putfield 22, 3) := by decide +kernel
theorem dX1_init_24 : decode cX1_init 24 = .ok (.aload_n 0, 1) := by decide +kernel
theorem dX1_init_25 : decode cX1_init 25 = .ok (.iconst 0, 1) := by decide +kernel
theorem dX1_init_26 : decode cX1_init 26 = .ok (.putfield 25, 3) := by decide +kernel
theorem dX1_init_29 : decode cX1_init 29 = .ok (.aload_n 0, 1) := by decide +kernel
theorem dX1_init_30 : decode cX1_init 30 = .ok (.iconst (-1), 1) := by decide +kernel
theorem dX1_init_31 : decode cX1_init 31 = .ok (.putfield 28, 3) := by decide +kernel
theorem dX1_init_34 : decode cX1_init 34 = .ok (.aload_n 0, 1) := by decide +kernel
theorem dX1_init_35 : decode cX1_init 35 = .ok (.iconst (-1), 1) := by decide +kernel
theorem dX1_init_36 : decode cX1_init 36 = .ok (.putfield 31, 3) := by decide +kernel
theorem dX1_init_39 : decode cX1_init 39 = .ok (.return_, 1) := by decide +kernel
theorem dX1_startSet_0 : decode cX1_startSet 0 = .ok (.aload_n 0, 1) := by decide +kernel
theorem dX1_startSet_1 : decode cX1_startSet 1 = .ok (.dup, 1) := by decide +kernel
theorem dX1_startSet_2 : decode cX1_startSet 2 = .ok (.getfield 9, 3) := by decide +kernel
theorem dX1_startSet_5 : decode cX1_startSet 5 = .ok (.iconst 1, 1) := by decide +kernel
theorem dX1_startSet_6 : decode cX1_startSet 6 = .ok (.iadd, 1) := by decide +kernel
theorem dX1_startSet_7 : decode cX1_startSet 7 = .ok (.putfield 9, 3) := by decide +kernel
theorem dX1_startSet_10 : decode cX1_startSet 10 = .ok (.aload_n 0, 1) := by decide +kernel
theorem dX1_startSet_11 : decode cX1_startSet 11 = .ok (.iconst 1, 1) := by decide +kernel
theorem dX1_startSet_12 : decode cX1_startSet 12 = .ok (.putfield 15, 3) := by decide +kernel
theorem dX1_startSet_15 : decode cX1_startSet 15 = .ok (.aload_n 0, 1) := by decide +kernel
theorem dX1_startSet_16 : decode cX1_startSet 16 = .ok (.iload_n 1, 1) := by decide +kernel
theorem dX1_startSet_17 : decode cX1_startSet 17 = .ok (.putfield 19, 3) := by decide +kernel
theorem dX1_startSet_20 : decode cX1_startSet 20 = .ok (.aload_n 0, 1) := by decide +kernel
theorem dX1_startSet_21 : decode cX1_startSet 21 = .ok (.iconst 0, 1) := by decide +kernel
theorem dX1_startSet_22 : decode cX1_startSet 22 = .ok (.putfield 22, 3) := by decide +kernel
theorem dX1_startSet_25 : decode cX1_startSet 25 = .ok (.aload_n 0, 1) := by decide +kernel
theorem dX1_startSet_26 : decode cX1_startSet 26 = .ok (.iconst 0, 1) := by decide +kernel
theorem dX1_startSet_27 : decode cX1_startSet 27 = .ok (.putfield 25, 3) := by decide +kernel
theorem dX1_startSet_30 : decode cX1_startSet 30 = .ok (.aload_n 0, 1) := by decide +kernel
theorem dX1_startSet_31 : decode cX1_startSet 31 = .ok (.iconst (-1), 1) := by decide +kernel
theorem dX1_startSet_32 : decode cX1_startSet 32 = .ok (.putfield 28, 3) := by decide +kernel
theorem dX1_startSet_35 : decode cX1_startSet 35 = .ok (.return_, 1) := by decide +kernel
theorem dX1_copyFrom_0 : decode cX1_copyFrom 0 = .ok (.aload_n 0, 1) := by decide +kernel
theorem dX1_copyFrom_1 : decode cX1_copyFrom 1 = .ok (.aload_n 1, 1) := by decide +kernel
theorem dX1_copyFrom_2 : decode cX1_copyFrom 2 = .ok (.getfield 9, 3) := by decide +kernel
theorem dX1_copyFrom_5 : decode cX1_copyFrom 5 = .ok (.putfield 9, 3) := by decide +kernel
theorem dX1_copyFrom_8 : decode cX1_copyFrom 8 = .ok (.aload_n 0, 1) := by decide +kernel
theorem dX1_copyFrom_9 : decode cX1_copyFrom 9 = .ok (.aload_n 1, 1) := by decide +kernel
theorem dX1_copyFrom_10 : decode cX1_copyFrom 10 = .ok (.getfield 15, 3) := by decide +kernel
theorem dX1_copyFrom_13 : decode cX1_copyFrom 13 = .ok (.putfield 15, 3) := by decide +kernel
theorem dX1_copyFrom_16 : decode cX1_copyFrom 16 = .ok (.aload_n 0, 1) := by decide +kernel
theorem dX1_copyFrom_17 : decode cX1_copyFrom 17 = .ok (.aload_n 1, 1) := by decide +kernel
theorem dX1_copyFrom_18 : decode cX1_copyFrom 18 = .ok (.getfield 19, 3) := by decide +kernel
theorem dX1_copyFrom_21 : decode cX1_copyFrom 21 = .ok (.putfield 19, 3) := by decide +kernel
theorem dX1_copyFrom_24 : decode cX1_copyFrom 24 = .ok (.aload_n 0, 1) := by decide +kernel
theorem dX1_copyFrom_25 : decode cX1_copyFrom 25 = .ok (.aload_n 1, 1) := by decide +kernel
theorem dX1_copyFrom_26 : decode cX1_copyFrom 26 = .ok (.getfield 22, 3) := by decide +kernel
theorem dX1_copyFrom_29 : decode cX1_copyFrom 29 = .ok (.putfield 22, 3) := by decide +kernel
theorem dX1_copyFrom_32 : decode cX1_copyFrom 32 = .ok (.aload_n 0, 1) := by decide +kernel
theorem dX1_copyFrom_33 : decode cX1_copyFrom 33 = .ok (.aload_n 1, 1) := by decide +kernel
theorem dX1_copyFrom_34 : decode cX1_copyFrom 34 = .ok (.getfield 25, 3) := by decide +kernel
theorem dX1_copyFrom_37 : decode cX1_copyFrom 37 = .ok (.putfield 25, 3) := by decide +kernel
theorem dX1_copyFrom_40 : decode cX1_copyFrom 40 = .ok (.aload_n 0, 1) := by decide +kernel
theorem dX1_copyFrom_41 : decode cX1_copyFrom 41 = .ok (.aload_n 1, 1) := by decide +kernel
theorem dX1_copyFrom_42 : decode cX1_copyFrom 42 = .ok (.getfield 28, 3) := by decide +kernel
theorem dX1_copyFrom_45 : decode cX1_copyFrom 45 = .ok (.putfield 28, 3) := by decide +kernel
theorem dX1_copyFrom_48 : decode cX1_copyFrom 48 = .ok (.aload_n 0, 1) := by decide +kernel
theorem dX1_copyFrom_49 : decode cX1_copyFrom 49 = .ok (.aload_n 1, 1) := by decide +kernel
theorem dX1_copyFrom_50 : decode cX1_copyFrom 50 = .ok (.getfield 31, 3) := by decide +kernel
theorem dX1_copyFrom_53 : decode cX1_copyFrom 53 = .ok (.putfield 31, 3) := by decide +kernel
theorem dX1_copyFrom_56 : decode cX1_copyFrom 56 = .ok (.return_, 1) := by decide +kernel
theorem dX2_init_0 : decode cX2_init 0 = .ok (.aload_n 0, 1) := by decide +kernel
theorem dX2_init_1 : decode cX2_init 1 = .ok (.invokespecial 3, 3) := by decide +kernel
theorem dX2_init_4 : decode cX2_init 4 = .ok (.aload_n 0, 1) := by decide +kernel
theorem dX2_init_5 : decode cX2_init 5 = .ok (.bipush 6, 2) := by decide +kernel
theorem dX2_init_7 : decode cX2_init 7 = .ok (.newarray .int, 2) := by decide +kernel
theorem dX2_init_9 : decode cX2_init 9 = .ok (.putfield 9, 3) := by decide +kernel
theorem dX2_init_12 : decode cX2_init 12 = .ok (.aload_n 0, 1) := by decide +kernel
theorem dX2_init_13 : decode cX2_init 13 = .ok (.bipush 12, 2) := by decide +kernel
theorem dX2_init_15 : decode cX2_init 15 = .ok (.newarray .int, 2) := by decide +kernel
theorem dX2_init_17 : decode cX2_init 17 = .ok (.putfield 15, 3) := by decide +kernel
theorem dX2_init_20 : decode cX2_init 20 = .ok (.aload_n 0, 1) := by decide +kernel
theorem dX2_init_21 : decode cX2_init 21 = .ok (.bipush 12, 2) := by decide +kernel
theorem dX2_init_23 : decode cX2_init 23 = .ok (.newarray .int, 2) := by decide +kernel
theorem dX2_init_25 : decode cX2_init 25 = .ok (.putfield 18, 3) := by decide +kernel
theorem dX2_init_28 : decode cX2_init 28 = .ok (.aload_n 0, 1) := by decide +kernel
theorem dX2_init_29 : decode cX2_init 29 = .ok (.bipush 12, 2) := by decide +kernel
theorem dX2_init_31 : decode cX2_init 31 = .ok (.newarray .int, 2) := by decide +kernel
theorem dX2_init_33 : decode cX2_init 33 = .ok (.putfield 21, 3) := by decide +kernel
theorem dX2_init_36 : decode cX2_init 36 = .ok (.aload_n 0, 1) := by decide +kernel
theorem dX2_init_37 : decode cX2_init 37 = .ok (.iconst (-1), 1) := by decide +kernel
theorem dX2_init_38 : decode cX2_init 38 = .ok (.putfield 24, 3) := by decide +kernel
theorem dX2_init_41 : decode cX2_init 41 = .ok (.aload_n 0, 1) := by decide +kernel
theorem dX2_init_42 : decode cX2_init 42 = .ok (.iconst (-1), 1) := by decide +kernel
theorem dX2_init_43 : decode cX2_init 43 = .ok (.putfield 28, 3) := by decide +kernel
theorem dX2_init_46 : decode cX2_init 46 = .ok (.aload_n 0, 1) := by decide +kernel
theorem dX2_init_47 : decode cX2_init 47 = .ok (.iconst 0, 1) := by decide +kernel
theorem dX2_init_48 : decode cX2_init 48 = .ok (.putfield 31, 3) := by decide +kernel
theorem dX2_init_51 : decode cX2_init 51 = .ok (.aload_n 0, 1) := by decide +kernel
theorem dX2_init_52 : decode cX2_init 52 = .ok (.iconst 0, 1) := by decide +kernel
theorem dX2_init_53 : decode cX2_init 53 = .ok (.putfield 35, 3) := by decide +kernel
theorem dX2_init_56 : decode cX2_init 56 = .ok (.aload_n 0, 1) := by decide +kernel
theorem dX2_init_57 : decode cX2_init 57 = .ok (.iconst 0, 1) := by decide +kernel
theorem dX2_init_58 : decode cX2_init 58 = .ok (.putfield 38, 3) := by decide +kernel
theorem dX2_init_61 : decode cX2_init 61 = .ok (.aload_n 0, 1) := by decide +kernel
theorem dX2_init_62 : decode cX2_init 62 = .ok (.iconst 0, 1) := by decide +kernel
theorem dX2_init_63 : decode cX2_init 63 = .ok (.putfield 41, 3) := by decide +kernel
theorem dX2_init_66 : decode cX2_init 66 = .ok (.aload_n 0, 1) := by decide +kernel
theorem dX2_init_67 : decode cX2_init 67 = .ok (.iconst 0, 1) := by decide +kernel
theorem dX2_init_68 : decode cX2_init 68 = .ok (.putfield 44, 3) := by decide +kernel
theorem dX2_init_71 : decode cX2_init 71 = .ok (.aload_n 0, 1) := by decide +kernel
theorem dX2_init_72 : decode cX2_init 72 = .ok (.iconst 0, 1) := by decide +kernel
theorem dX2_init_73 : decode cX2_init 73 = .ok (.putfield 47, 3) := by decide +kernel
theorem dX2_init_76 : decode cX2_init 76 = .ok (.return_, 1) := by decide +kernel
theorem dX2_startSet_0 : decode cX2_startSet 0 = .ok (.iconst 0, 1) := by decide +kernel
theorem dX2_startSet_1 : decode cX2_startSet 1 = .ok (.istore_n 2, 1) := by decide +kernel
theorem dX2_startSet_2 : decode cX2_startSet 2 = .ok (.iload_n 2, 1) := by decide +kernel
theorem dX2_startSet_3 : decode cX2_startSet 3 = .ok (.bipush 12, 2) := by decide +kernel
theorem dX2_startSet_5 : decode cX2_startSet 5 = .ok (.if_icmp .ge 23, 3) := by decide +kernel
theorem dX2_startSet_8 : decode cX2_startSet 8 = .ok (.aload_n 0, 1) := by decide +kernel
theorem dX2_startSet_9 : decode cX2_startSet 9 = .ok (.getfield 15, 3) := by decide +kernel
theorem dX2_startSet_12 : decode cX2_startSet 12 = .ok (.iload_n 2, 1) := by decide +kernel
theorem dX2_startSet_13 : decode cX2_startSet 13 = .ok (.iconst 0, 1) := by decide +kernel
theorem dX2_startSet_14 : decode cX2_startSet 14 = .ok (.iastore, 1) := by decide +kernel
theorem dX2_startSet_15 : decode cX2_startSet 15 = .ok (.aload_n 0, 1) := by decide +kernel
theorem dX2_startSet_16 : decode cX2_startSet 16 = .ok (.getfield 18, 3) := by decide +kernel
theorem dX2_startSet_19 : decode cX2_startSet 19 = .ok (.iload_n 2, 1) := by decide +kernel
theorem dX2_startSet_20 : decode cX2_startSet 20 = .ok (.iconst (-1), 1) := by decide +kernel
theorem dX2_startSet_21 : decode cX2_startSet 21 = .ok (.iastore, 1) := by decide +kernel
theorem dX2_startSet_22 : decode cX2_startSet 22 = .ok (.iinc 2 1, 3) := by decide +kernel
theorem dX2_startSet_25 : decode cX2_startSet 25 = .ok (.goto (-23), 3) := by decide +kernel
theorem dX2_startSet_28 : decode cX2_startSet 28 = .ok (.iconst 0, 1) := by decide +kernel
theorem dX2_startSet_29 : decode cX2_startSet 29 = .ok (.istore_n 2, 1) := by decide +kernel
theorem dX2_startSet_30 : decode cX2_startSet 30 = .ok (.iload_n 2, 1) := by decide +kernel
theorem dX2_startSet_31 : decode cX2_startSet 31 = .ok (.bipush 6, 2) := by decide +kernel
theorem dX2_startSet_33 : decode cX2_startSet 33 = .ok (.if_icmp .ge 37, 3) := by decide +kernel
theorem dX2_startSet_36 : decode cX2_startSet 36 = .ok (.aload_n 1, 1) := by decide +kernel
theorem dX2_startSet_37 : decode cX2_startSet 37 = .ok (.getfield 50, 3) := by decide +kernel
theorem dX2_startSet_40 : decode cX2_startSet 40 = .ok (.iload_n 2, 1) := by decide +kernel
theorem dX2_startSet_41 : decode cX2_startSet 41 = .ok (.iaload, 1) := by decide +kernel
theorem dX2_startSet_42 : decode cX2_startSet 42 = .ok (.istore_n 3, 1) := by decide +kernel
theorem dX2_startSet_43 : decode cX2_startSet 43 = .ok (.aload_n 0, 1) := by decide +kernel
theorem dX2_startSet_44 : decode cX2_startSet 44 = .ok (.getfield 9, 3) := by decide +kernel
theorem dX2_startSet_47 : decode cX2_startSet 47 = .ok (.iload_n 2, 1) := by decide +kernel
theorem dX2_startSet_48 : decode cX2_startSet 48 = .ok (.iload_n 3, 1) := by decide +kernel
theorem dX2_startSet_49 : decode cX2_startSet 49 = .ok (.iastore, 1) := by decide +kernel
theorem dX2_startSet_50 : decode cX2_startSet 50 = .ok (.iload_n 3, 1) := by decide +kernel
theorem dX2_startSet_51 : decode cX2_startSet 51 = .ok (.invokestatic 55, 3) := by decide +kernel
theorem dX2_startSet_54 : decode cX2_startSet 54 = .ok (.ifCond .eq 10, 3) := by decide +kernel
theorem dX2_startSet_57 : decode cX2_startSet 57 = .ok (.aload_n 0, 1) := by decide +kernel
theorem dX2_startSet_58 : decode cX2_startSet 58 = .ok (.getfield 15, 3) := by decide +kernel
theorem dX2_startSet_61 : decode cX2_startSet 61 = .ok (.iload_n 3, 1) := by decide +kernel
theorem dX2_startSet_62 : decode cX2_startSet 62 = .ok (.iconst 1, 1) := by decide +kernel
theorem dX2_startSet_63 : decode cX2_startSet 63 = .ok (.iastore, 1) := by decide +kernel
theorem dX2_startSet_64 : decode cX2_startSet 64 = .ok (.iinc 2 1, 3) := by decide +kernel
theorem dX2_startSet_67 : decode cX2_startSet 67 = .ok (.goto (-37), 3) := by decide +kernel
theorem dX2_startSet_70 : decode cX2_startSet 70 = .ok (.aload_n 0, 1) := by decide +kernel
theorem dX2_startSet_71 : decode cX2_startSet 71 = .ok (.aload_n 1, 1) := by decide +kernel
theorem dX2_startSet_72 : decode cX2_startSet 72 = .ok (.getfield 59, 3) := by decide +kernel
theorem dX2_startSet_75 : decode cX2_startSet 75 = .ok (.putfield 24, 3) := by decide +kernel
theorem dX2_startSet_78 : decode cX2_startSet 78 = .ok (.aload_n 0, 1) := by decide +kernel
theorem dX2_startSet_79 : decode cX2_startSet 79 = .ok (.iconst (-1), 1) := by decide +kernel
theorem dX2_startSet_80 : decode cX2_startSet 80 = .ok (.putfield 28, 3) := by decide +kernel
theorem dX2_startSet_83 : decode cX2_startSet 83 = .ok (.aload_n 0, 1) := by decide +kernel
theorem dX2_startSet_84 : decode cX2_startSet 84 = .ok (.iconst 0, 1) := by decide +kernel
theorem dX2_startSet_85 : decode cX2_startSet 85 = .ok (.putfield 31, 3) := by decide +kernel
theorem dX2_startSet_88 : decode cX2_startSet 88 = .ok (.aload_n 0, 1) := by decide +kernel
theorem dX2_startSet_89 : decode cX2_startSet 89 = .ok (.iconst 0, 1) := by decide +kernel
theorem dX2_startSet_90 : decode cX2_startSet 90 = .ok (.putfield 35, 3) := by decide +kernel
theorem dX2_startSet_93 : decode cX2_startSet 93 = .ok (.aload_n 0, 1) := by decide +kernel
theorem dX2_startSet_94 : decode cX2_startSet 94 = .ok (.iconst 0, 1) := by decide +kernel
theorem dX2_startSet_95 : decode cX2_startSet 95 = .ok (.putfield 41, 3) := by decide +kernel
theorem dX2_startSet_98 : decode cX2_startSet 98 = .ok (.aload_n 0, 1) := by decide +kernel
theorem dX2_startSet_99 : decode cX2_startSet 99 = .ok (.iconst 0, 1) := by decide +kernel
theorem dX2_startSet_100 : decode cX2_startSet 100 = .ok (.putfield 44, 3) := by decide +kernel
theorem dX2_startSet_103 : decode cX2_startSet 103 = .ok (.aload_n 0, 1) := by decide +kernel
theorem dX2_startSet_104 : decode cX2_startSet 104 = .ok (.iconst 0, 1) := by decide +kernel
theorem dX2_startSet_105 : decode cX2_startSet 105 = .ok (.putfield 47, 3) := by decide +kernel
theorem dX2_startSet_108 : decode cX2_startSet 108 = .ok (.return_, 1) := by decide +kernel
theorem dX2_copyFrom_0 : decode cX2_copyFrom 0 = .ok (.aload_n 1, 1) := by decide +kernel
theorem dX2_copyFrom_1 : decode cX2_copyFrom 1 = .ok (.getfield 9, 3) := by decide +kernel
theorem dX2_copyFrom_4 : decode cX2_copyFrom 4 = .ok (.iconst 0, 1) := by decide +kernel
theorem dX2_copyFrom_5 : decode cX2_copyFrom 5 = .ok (.aload_n 0, 1) := by decide +kernel
theorem dX2_copyFrom_6 : decode cX2_copyFrom 6 = .ok (.getfield 9, 3) := by decide +kernel
theorem dX2_copyFrom_9 : decode cX2_copyFrom 9 = .ok (.iconst 0, 1) := by decide +kernel
theorem dX2_copyFrom_10 : decode cX2_copyFrom 10 = .ok (.bipush 6, 2) := by decide +kernel
theorem dX2_copyFrom_12 : decode cX2_copyFrom 12 = .ok (.invokestatic 60, 3) := by decide +kernel
theorem dX2_copyFrom_15 : decode cX2_copyFrom 15 = .ok (.aload_n 1, 1) := by decide +kernel
theorem dX2_copyFrom_16 : decode cX2_copyFrom 16 = .ok (.getfield 15, 3) := by decide +kernel
theorem dX2_copyFrom_19 : decode cX2_copyFrom 19 = .ok (.iconst 0, 1) := by decide +kernel
theorem dX2_copyFrom_20 : decode cX2_copyFrom 20 = .ok (.aload_n 0, 1) := by decide +kernel
theorem dX2_copyFrom_21 : decode cX2_copyFrom 21 = .ok (.getfield 15, 3) := by decide +kernel
theorem dX2_copyFrom_24 : decode cX2_copyFrom 24 = .ok (.iconst 0, 1) := by decide +kernel
theorem dX2_copyFrom_25 : decode cX2_copyFrom 25 = .ok (.bipush 12, 2) := by decide +kernel
theorem dX2_copyFrom_27 : decode cX2_copyFrom 27 = .ok (.invokestatic 60, 3) := by decide +kernel
theorem dX2_copyFrom_30 : decode cX2_copyFrom 30 = .ok (.aload_n 1, 1) := by decide +kernel
theorem dX2_copyFrom_31 : decode cX2_copyFrom 31 = .ok (.getfield 18, 3) := by decide +kernel
theorem dX2_copyFrom_34 : decode cX2_copyFrom 34 = .ok (.iconst 0, 1) := by decide +kernel
theorem dX2_copyFrom_35 : decode cX2_copyFrom 35 = .ok (.aload_n 0, 1) := by decide +kernel
theorem dX2_copyFrom_36 : decode cX2_copyFrom 36 = .ok (.getfield 18, 3) := by decide +kernel
theorem dX2_copyFrom_39 : decode cX2_copyFrom 39 = .ok (.iconst 0, 1) := by decide +kernel
theorem dX2_copyFrom_40 : decode cX2_copyFrom 40 = .ok (.bipush 12, 2) := by decide +kernel
theorem dX2_copyFrom_42 : decode cX2_copyFrom 42 = .ok (.invokestatic 60, 3) := by decide +kernel
theorem dX2_copyFrom_45 : decode cX2_copyFrom 45 = .ok (.aload_n 1, 1) := by decide +kernel
theorem dX2_copyFrom_46 : decode cX2_copyFrom 46 = .ok (.getfield 21, 3) := by decide +kernel
theorem dX2_copyFrom_49 : decode cX2_copyFrom 49 = .ok (.iconst 0, 1) := by decide +kernel
theorem dX2_copyFrom_50 : decode cX2_copyFrom 50 = .ok (.aload_n 0, 1) := by decide +kernel
theorem dX2_copyFrom_51 : decode cX2_copyFrom 51 = .ok (.getfield 21, 3) := by decide +kernel
theorem dX2_copyFrom_54 : decode cX2_copyFrom 54 = .ok (.iconst 0, 1) := by decide +kernel
theorem dX2_copyFrom_55 : decode cX2_copyFrom 55 = .ok (.bipush 12, 2) := by decide +kernel
theorem dX2_copyFrom_57 : decode cX2_copyFrom 57 = .ok (.invokestatic 60, 3) := by decide +kernel
theorem dX2_copyFrom_60 : decode cX2_copyFrom 60 = .ok (.aload_n 0, 1) := by decide +kernel
theorem dX2_copyFrom_61 : decode cX2_copyFrom 61 = .ok (.aload_n 1, 1) := by decide +kernel
theorem dX2_copyFrom_62 : decode cX2_copyFrom 62 = .ok (.getfield 24, 3) := by decide +kernel
theorem dX2_copyFrom_65 : decode cX2_copyFrom 65 = .ok (.putfield 24, 3) := by decide +kernel
theorem dX2_copyFrom_68 : decode cX2_copyFrom 68 = .ok (.aload_n 0, 1) := by decide +kernel
theorem dX2_copyFrom_69 : decode cX2_copyFrom 69 = .ok (.aload_n 1, 1) := by decide +kernel
theorem dX2_copyFrom_70 : decode cX2_copyFrom 70 = .ok (.getfield 28, 3) := by decide +kernel
theorem dX2_copyFrom_73 : decode cX2_copyFrom 73 = .ok (.putfield 28, 3) := by decide +kernel
theorem dX2_copyFrom_76 : decode cX2_copyFrom 76 = .ok (.aload_n 0, 1) := by decide +kernel
theorem dX2_copyFrom_77 : decode cX2_copyFrom 77 = .ok (.aload_n 1, 1) := by decide +kernel
theorem dX2_copyFrom_78 : decode cX2_copyFrom 78 = .ok (.getfield 31, 3) := by decide +kernel
theorem dX2_copyFrom_81 : decode cX2_copyFrom 81 = .ok (.putfield 31, 3) := by decide +kernel
theorem dX2_copyFrom_84 : decode cX2_copyFrom 84 = .ok (.aload_n 0, 1) := by decide +kernel
theorem dX2_copyFrom_85 : decode cX2_copyFrom 85 = .ok (.aload_n 1, 1) := by decide +kernel
theorem dX2_copyFrom_86 : decode cX2_copyFrom 86 = .ok (.getfield 35, 3) := by decide +kernel
theorem dX2_copyFrom_89 : decode cX2_copyFrom 89 = .ok (.putfield 35, 3) := by decide +kernel
theorem dX2_copyFrom_92 : decode cX2_copyFrom 92 = .ok (.aload_n 0, 1) := by decide +kernel
theorem dX2_copyFrom_93 : decode cX2_copyFrom 93 = .ok (.aload_n 1, 1) := by decide +kernel
theorem dX2_copyFrom_94 : decode cX2_copyFrom 94 = .ok (.getfield 38, 3) := by decide +kernel
theorem dX2_copyFrom_97 : decode cX2_copyFrom 97 = .ok (.putfield 38, 3) := by decide +kernel
theorem dX2_copyFrom_100 : decode cX2_copyFrom 100 = .ok (.aload_n 0, 1) := by decide +kernel
theorem dX2_copyFrom_101 : decode cX2_copyFrom 101 = .ok (.aload_n 1, 1) := by decide +kernel
theorem dX2_copyFrom_102 : decode cX2_copyFrom 102 = .ok (.getfield 41, 3) := by decide +kernel
theorem dX2_copyFrom_105 : decode cX2_copyFrom 105 = .ok (.putfield 41, 3) := by decide +kernel
theorem dX2_copyFrom_108 : decode cX2_copyFrom 108 = .ok (.aload_n 0, 1) := by decide +kernel
theorem dX2_copyFrom_109 : decode cX2_copyFrom 109 = .ok (.aload_n 1, 1) := by decide +kernel
theorem dX2_copyFrom_110 : decode cX2_copyFrom 110 = .ok (.getfield 44, 3) := by decide +kernel
theorem dX2_copyFrom_113 : decode cX2_copyFrom 113 = .ok (.putfield 44, 3) := by decide +kernel
theorem dX2_copyFrom_116 : decode cX2_copyFrom 116 = .ok (.aload_n 0, 1) := by decide +kernel
theorem dX2_copyFrom_117 : decode cX2_copyFrom 117 = .ok (.aload_n 1, 1) := by decide +kernel
theorem dX2_copyFrom_118 : decode cX2_copyFrom 118 = .ok (.getfield 47, 3) := by decide +kernel
theorem dX2_copyFrom_121 : decode cX2_copyFrom 121 = .ok (.putfield 47, 3) := by decide +kernel
theorem dX2_copyFrom_124 : decode cX2_copyFrom 124 = .ok (.return_, 1) := by decide +kernel
theorem dX2_placeOf_0 : decode cX2_placeOf 0 = .ok (.iconst 0, 1) := by decide +kernel
theorem dX2_placeOf_1 : decode cX2_placeOf 1 = .ok (.istore_n 2, 1) := by decide +kernel
theorem dX2_placeOf_2 : decode cX2_placeOf 2 = .ok (.iload_n 2, 1) := by decide +kernel
theorem dX2_placeOf_3 : decode cX2_placeOf 3 = .ok (.bipush 6, 2) := by decide +kernel
theorem dX2_placeOf_5 : decode cX2_placeOf 5 = .ok (.if_icmp .ge 21, 3) := by decide +kernel
theorem dX2_placeOf_8 : decode cX2_placeOf 8 = .ok (.aload_n 0, 1) := by decide +kernel
theorem dX2_placeOf_9 : decode cX2_placeOf 9 = .ok (.getfield 9, 3) := by decide +kernel
theorem dX2_placeOf_12 : decode cX2_placeOf 12 = .ok (.iload_n 2, 1) := by decide +kernel
theorem dX2_placeOf_13 : decode cX2_placeOf 13 = .ok (.iaload, 1) := by decide +kernel
theorem dX2_placeOf_14 : decode cX2_placeOf 14 = .ok (.iload_n 1, 1) := by decide +kernel
theorem dX2_placeOf_15 : decode cX2_placeOf 15 = .ok (.if_icmp .ne 5, 3) := by decide +kernel
theorem dX2_placeOf_18 : decode cX2_placeOf 18 = .ok (.iload_n 2, 1) := by decide +kernel
theorem dX2_placeOf_19 : decode cX2_placeOf 19 = .ok (.ireturn, 1) := by decide +kernel
theorem dX2_placeOf_20 : decode cX2_placeOf 20 = .ok (.iinc 2 1, 3) := by decide +kernel
theorem dX2_placeOf_23 : decode cX2_placeOf 23 = .ok (.goto (-21), 3) := by decide +kernel
theorem dX2_placeOf_26 : decode cX2_placeOf 26 = .ok (.iconst (-1), 1) := by decide +kernel
theorem dX2_placeOf_27 : decode cX2_placeOf 27 = .ok (.ireturn, 1) := by decide +kernel
theorem dX2_playerAt_0 : decode cX2_playerAt 0 = .ok (.iload_n 1, 1) := by decide +kernel
theorem dX2_playerAt_1 : decode cX2_playerAt 1 = .ok (.ifCond .lt 9, 3) := by decide +kernel
theorem dX2_playerAt_4 : decode cX2_playerAt 4 = .ok (.iload_n 1, 1) := by decide +kernel
theorem dX2_playerAt_5 : decode cX2_playerAt 5 = .ok (.bipush 6, 2) := by decide +kernel
theorem dX2_playerAt_7 : decode cX2_playerAt 7 = .ok (.if_icmp .lt 5, 3) := by decide +kernel
theorem dX2_playerAt_10 : decode cX2_playerAt 10 = .ok (.iconst (-1), 1) := by decide +kernel
theorem dX2_playerAt_11 : decode cX2_playerAt 11 = .ok (.ireturn, 1) := by decide +kernel
theorem dX2_playerAt_12 : decode cX2_playerAt 12 = .ok (.iload_n 1, 1) := by decide +kernel
theorem dX2_playerAt_13 : decode cX2_playerAt 13 = .ok (.aload_n 0, 1) := by decide +kernel
theorem dX2_playerAt_14 : decode cX2_playerAt 14 = .ok (.getfield 28, 3) := by decide +kernel
theorem dX2_playerAt_17 : decode cX2_playerAt 17 = .ok (.if_icmp .ne 10, 3) := by decide +kernel
theorem dX2_playerAt_20 : decode cX2_playerAt 20 = .ok (.aload_n 0, 1) := by decide +kernel
theorem dX2_playerAt_21 : decode cX2_playerAt 21 = .ok (.getfield 24, 3) := by decide +kernel
theorem dX2_playerAt_24 : decode cX2_playerAt 24 = .ok (.goto 9, 3) := by decide +kernel
theorem dX2_playerAt_27 : decode cX2_playerAt 27 = .ok (.aload_n 0, 1) := by decide +kernel
theorem dX2_playerAt_28 : decode cX2_playerAt 28 = .ok (.getfield 9, 3) := by decide +kernel
theorem dX2_playerAt_31 : decode cX2_playerAt 31 = .ok (.iload_n 1, 1) := by decide +kernel
theorem dX2_playerAt_32 : decode cX2_playerAt 32 = .ok (.iaload, 1) := by decide +kernel
theorem dX2_playerAt_33 : decode cX2_playerAt 33 = .ok (.ireturn, 1) := by decide +kernel
theorem dX2_freeStandsFor_0 : decode cX2_freeStandsFor 0 = .ok (.aload_n 0, 1) := by decide +kernel
theorem dX2_freeStandsFor_1 : decode cX2_freeStandsFor 1 = .ok (.getfield 28, 3) := by decide +kernel
theorem dX2_freeStandsFor_4 : decode cX2_freeStandsFor 4 = .ok (.ifCond .lt 24, 3) := by decide +kernel
theorem dX2_freeStandsFor_7 : decode cX2_freeStandsFor 7 = .ok (.aload_n 0, 1) := by decide +kernel
theorem dX2_freeStandsFor_8 : decode cX2_freeStandsFor 8 = .ok (.getfield 28, 3) := by decide +kernel
theorem dX2_freeStandsFor_11 : decode cX2_freeStandsFor 11 = .ok (.bipush 6, 2) := by decide +kernel
theorem dX2_freeStandsFor_13 : decode cX2_freeStandsFor 13 = .ok (.if_icmp .ge 15, 3) := by decide +kernel
theorem dX2_freeStandsFor_16 : decode cX2_freeStandsFor 16 = .ok (.aload_n 0, 1) := by decide +kernel
theorem dX2_freeStandsFor_17 : decode cX2_freeStandsFor 17 = .ok (.getfield 9, 3) := by decide +kernel
theorem dX2_freeStandsFor_20 : decode cX2_freeStandsFor 20 = .ok (.aload_n 0, 1) := by decide +kernel
theorem dX2_freeStandsFor_21 : decode cX2_freeStandsFor 21 = .ok (.getfield 28, 3) := by decide +kernel
theorem dX2_freeStandsFor_24 : decode cX2_freeStandsFor 24 = .ok (.iaload, 1) := by decide +kernel
theorem dX2_freeStandsFor_25 : decode cX2_freeStandsFor 25 = .ok (.goto 4, 3) := by decide +kernel
theorem dX2_freeStandsFor_28 : decode cX2_freeStandsFor 28 = .ok (.iconst (-1), 1) := by decide +kernel
theorem dX2_freeStandsFor_29 : decode cX2_freeStandsFor 29 = .ok (.ireturn, 1) := by decide +kernel
theorem dX2_turnOn_0 : decode cX2_turnOn 0 = .ok (.aload_n 0, 1) := by decide +kernel
theorem dX2_turnOn_1 : decode cX2_turnOn 1 = .ok (.getfield 9, 3) := by decide +kernel
theorem dX2_turnOn_4 : decode cX2_turnOn 4 = .ok (.iconst 0, 1) := by decide +kernel
theorem dX2_turnOn_5 : decode cX2_turnOn 5 = .ok (.iaload, 1) := by decide +kernel
theorem dX2_turnOn_6 : decode cX2_turnOn 6 = .ok (.istore_n 1, 1) := by decide +kernel
theorem dX2_turnOn_7 : decode cX2_turnOn 7 = .ok (.iconst 1, 1) := by decide +kernel
theorem dX2_turnOn_8 : decode cX2_turnOn 8 = .ok (.istore_n 2, 1) := by decide +kernel
theorem dX2_turnOn_9 : decode cX2_turnOn 9 = .ok (.iload_n 2, 1) := by decide +kernel
theorem dX2_turnOn_10 : decode cX2_turnOn 10 = .ok (.bipush 6, 2) := by decide +kernel
theorem dX2_turnOn_12 : decode cX2_turnOn 12 = .ok (.if_icmp .ge 23, 3) := by decide +kernel
theorem dX2_turnOn_15 : decode cX2_turnOn 15 = .ok (.aload_n 0, 1) := by decide +kernel
theorem dX2_turnOn_16 : decode cX2_turnOn 16 = .ok (.getfield 9, 3) := by decide +kernel
theorem dX2_turnOn_19 : decode cX2_turnOn 19 = .ok (.iload_n 2, 1) := by decide +kernel
theorem dX2_turnOn_20 : decode cX2_turnOn 20 = .ok (.iconst 1, 1) := by decide +kernel
theorem dX2_turnOn_21 : decode cX2_turnOn 21 = .ok (.isub, 1) := by decide +kernel
theorem dX2_turnOn_22 : decode cX2_turnOn 22 = .ok (.aload_n 0, 1) := by decide +kernel
theorem dX2_turnOn_23 : decode cX2_turnOn 23 = .ok (.getfield 9, 3) := by decide +kernel
theorem dX2_turnOn_26 : decode cX2_turnOn 26 = .ok (.iload_n 2, 1) := by decide +kernel
theorem dX2_turnOn_27 : decode cX2_turnOn 27 = .ok (.iaload, 1) := by decide +kernel
theorem dX2_turnOn_28 : decode cX2_turnOn 28 = .ok (.iastore, 1) := by decide +kernel
theorem dX2_turnOn_29 : decode cX2_turnOn 29 = .ok (.iinc 2 1, 3) := by decide +kernel
theorem dX2_turnOn_32 : decode cX2_turnOn 32 = .ok (.goto (-23), 3) := by decide +kernel
theorem dX2_turnOn_35 : decode cX2_turnOn 35 = .ok (.aload_n 0, 1) := by decide +kernel
theorem dX2_turnOn_36 : decode cX2_turnOn 36 = .ok (.getfield 9, 3) := by decide +kernel
theorem dX2_turnOn_39 : decode cX2_turnOn 39 = .ok (.iconst 5, 1) := by decide +kernel
theorem dX2_turnOn_40 : decode cX2_turnOn 40 = .ok (.iload_n 1, 1) := by decide +kernel
theorem dX2_turnOn_41 : decode cX2_turnOn 41 = .ok (.iastore, 1) := by decide +kernel
theorem dX2_turnOn_42 : decode cX2_turnOn 42 = .ok (.aload_n 0, 1) := by decide +kernel
theorem dX2_turnOn_43 : decode cX2_turnOn 43 = .ok (.dup, 1) := by decide +kernel
theorem dX2_turnOn_44 : decode cX2_turnOn 44 = .ok (.getfield 47, 3) := by decide +kernel
theorem dX2_turnOn_47 : decode cX2_turnOn 47 = .ok (.iconst 1, 1) := by decide +kernel
theorem dX2_turnOn_48 : decode cX2_turnOn 48 = .ok (.iadd, 1) := by decide +kernel
theorem dX2_turnOn_49 : decode cX2_turnOn 49 = .ok (.putfield 47, 3) := by decide +kernel
theorem dX2_turnOn_52 : decode cX2_turnOn 52 = .ok (.aload_n 0, 1) := by decide +kernel
theorem dX2_turnOn_53 : decode cX2_turnOn 53 = .ok (.getfield 28, 3) := by decide +kernel
theorem dX2_turnOn_56 : decode cX2_turnOn 56 = .ok (.iconst (-1), 1) := by decide +kernel
theorem dX2_turnOn_57 : decode cX2_turnOn 57 = .ok (.if_icmp .eq 27, 3) := by decide +kernel
theorem dX2_turnOn_60 : decode cX2_turnOn 60 = .ok (.aload_n 0, 1) := by decide +kernel
theorem dX2_turnOn_61 : decode cX2_turnOn 61 = .ok (.aload_n 0, 1) := by decide +kernel
theorem dX2_turnOn_62 : decode cX2_turnOn 62 = .ok (.getfield 28, 3) := by decide +kernel
theorem dX2_turnOn_65 : decode cX2_turnOn 65 = .ok (.iconst 1, 1) := by decide +kernel
theorem dX2_turnOn_66 : decode cX2_turnOn 66 = .ok (.isub, 1) := by decide +kernel
theorem dX2_turnOn_67 : decode cX2_turnOn 67 = .ok (.iconst 3, 1) := by decide +kernel
theorem dX2_turnOn_68 : decode cX2_turnOn 68 = .ok (.if_icmp .ne 7, 3) := by decide +kernel
theorem dX2_turnOn_71 : decode cX2_turnOn 71 = .ok (.iconst (-1), 1) := by decide +kernel
theorem dX2_turnOn_72 : decode cX2_turnOn 72 = .ok (.goto 9, 3) := by decide +kernel
theorem dX2_turnOn_75 : decode cX2_turnOn 75 = .ok (.aload_n 0, 1) := by decide +kernel
theorem dX2_turnOn_76 : decode cX2_turnOn 76 = .ok (.getfield 28, 3) := by decide +kernel
theorem dX2_turnOn_79 : decode cX2_turnOn 79 = .ok (.iconst 1, 1) := by decide +kernel
theorem dX2_turnOn_80 : decode cX2_turnOn 80 = .ok (.isub, 1) := by decide +kernel
theorem dX2_turnOn_81 : decode cX2_turnOn 81 = .ok (.putfield 28, 3) := by decide +kernel
theorem dX2_turnOn_84 : decode cX2_turnOn 84 = .ok (.return_, 1) := by decide +kernel
theorem dX2_countServe_0 : decode cX2_countServe 0 = .ok (.aload_n 0, 1) := by decide +kernel
theorem dX2_countServe_1 : decode cX2_countServe 1 = .ok (.getfield 9, 3) := by decide +kernel
theorem dX2_countServe_4 : decode cX2_countServe 4 = .ok (.iconst 0, 1) := by decide +kernel
theorem dX2_countServe_5 : decode cX2_countServe 5 = .ok (.iaload, 1) := by decide +kernel
theorem dX2_countServe_6 : decode cX2_countServe 6 = .ok (.istore_n 1, 1) := by decide +kernel
theorem dX2_countServe_7 : decode cX2_countServe 7 = .ok (.iload_n 1, 1) := by decide +kernel
theorem dX2_countServe_8 : decode cX2_countServe 8 = .ok (.invokestatic 55, 3) := by decide +kernel
theorem dX2_countServe_11 : decode cX2_countServe 11 = .ok (.ifCond .eq 13, 3) := by decide +kernel
theorem dX2_countServe_14 : decode cX2_countServe 14 = .ok (.aload_n 0, 1) := by decide +kernel
theorem dX2_countServe_15 : decode cX2_countServe 15 = .ok (.getfield 21, 3) := by decide +kernel
theorem dX2_countServe_18 : decode cX2_countServe 18 = .ok (.iload_n 1, 1) := by decide +kernel
theorem dX2_countServe_19 : decode cX2_countServe 19 = .ok (.dup2, 1) := by decide +kernel
theorem dX2_countServe_20 : decode cX2_countServe 20 = .ok (.iaload, 1) := by decide +kernel
theorem dX2_countServe_21 : decode cX2_countServe 21 = .ok (.iconst 1, 1) := by decide +kernel
theorem dX2_countServe_22 : decode cX2_countServe 22 = .ok (.iadd, 1) := by decide +kernel
theorem dX2_countServe_23 : decode cX2_countServe 23 = .ok (.iastore, 1) := by decide +kernel
theorem dX2_countServe_24 : decode cX2_countServe 24 = .ok (.return_, 1) := by decide +kernel
theorem dX2_mayLeave_0 : decode cX2_mayLeave 0 = .ok (.aload_n 0, 1) := by decide +kernel
theorem dX2_mayLeave_1 : decode cX2_mayLeave 1 = .ok (.iload_n 1, 1) := by decide +kernel
theorem dX2_mayLeave_2 : decode cX2_mayLeave 2 = .ok (.invokevirtual 66, 3) := by decide +kernel
theorem dX2_mayLeave_5 : decode cX2_mayLeave 5 = .ok (.istore_n 2, 1) := by decide +kernel
theorem dX2_mayLeave_6 : decode cX2_mayLeave 6 = .ok (.iload_n 2, 1) := by decide +kernel
theorem dX2_mayLeave_7 : decode cX2_mayLeave 7 = .ok (.iconst (-1), 1) := by decide +kernel
theorem dX2_mayLeave_8 : decode cX2_mayLeave 8 = .ok (.if_icmp .eq 15, 3) := by decide +kernel
theorem dX2_mayLeave_11 : decode cX2_mayLeave 11 = .ok (.iload_n 2, 1) := by decide +kernel
theorem dX2_mayLeave_12 : decode cX2_mayLeave 12 = .ok (.aload_n 0, 1) := by decide +kernel
theorem dX2_mayLeave_13 : decode cX2_mayLeave 13 = .ok (.getfield 28, 3) := by decide +kernel
theorem dX2_mayLeave_16 : decode cX2_mayLeave 16 = .ok (.if_icmp .eq 7, 3) := by decide +kernel
theorem dX2_mayLeave_19 : decode cX2_mayLeave 19 = .ok (.iconst 1, 1) := by decide +kernel
theorem dX2_mayLeave_20 : decode cX2_mayLeave 20 = .ok (.goto 4, 3) := by decide +kernel
theorem dX2_mayLeave_23 : decode cX2_mayLeave 23 = .ok (.iconst 0, 1) := by decide +kernel
theorem dX2_mayLeave_24 : decode cX2_mayLeave 24 = .ok (.ireturn, 1) := by decide +kernel
theorem dX2_mayEnter_0 : decode cX2_mayEnter 0 = .ok (.aload_n 0, 1) := by decide +kernel
theorem dX2_mayEnter_1 : decode cX2_mayEnter 1 = .ok (.iload_n 1, 1) := by decide +kernel
theorem dX2_mayEnter_2 : decode cX2_mayEnter 2 = .ok (.invokevirtual 66, 3) := by decide +kernel
theorem dX2_mayEnter_5 : decode cX2_mayEnter 5 = .ok (.iconst (-1), 1) := by decide +kernel
theorem dX2_mayEnter_6 : decode cX2_mayEnter 6 = .ok (.if_icmp .ne 15, 3) := by decide +kernel
theorem dX2_mayEnter_9 : decode cX2_mayEnter 9 = .ok (.iload_n 1, 1) := by decide +kernel
theorem dX2_mayEnter_10 : decode cX2_mayEnter 10 = .ok (.aload_n 0, 1) := by decide +kernel
theorem dX2_mayEnter_11 : decode cX2_mayEnter 11 = .ok (.getfield 24, 3) := by decide +kernel
theorem dX2_mayEnter_14 : decode cX2_mayEnter 14 = .ok (.if_icmp .eq 7, 3) := by decide +kernel
theorem dX2_mayEnter_17 : decode cX2_mayEnter 17 = .ok (.iconst 1, 1) := by decide +kernel
theorem dX2_mayEnter_18 : decode cX2_mayEnter 18 = .ok (.goto 4, 3) := by decide +kernel
theorem dX2_mayEnter_21 : decode cX2_mayEnter 21 = .ok (.iconst 0, 1) := by decide +kernel
theorem dX2_mayEnter_22 : decode cX2_mayEnter 22 = .ok (.ireturn, 1) := by decide +kernel
theorem dX2_arePair_0 : decode cX2_arePair 0 = .ok (.iload_n 1, 1) := by decide +kernel
theorem dX2_arePair_1 : decode cX2_arePair 1 = .ok (.invokestatic 55, 3) := by decide +kernel
theorem dX2_arePair_4 : decode cX2_arePair 4 = .ok (.ifCond .eq 10, 3) := by decide +kernel
theorem dX2_arePair_7 : decode cX2_arePair 7 = .ok (.iload_n 2, 1) := by decide +kernel
theorem dX2_arePair_8 : decode cX2_arePair 8 = .ok (.invokestatic 55, 3) := by decide +kernel
theorem dX2_arePair_11 : decode cX2_arePair 11 = .ok (.ifCond .ne 5, 3) := by decide +kernel
theorem dX2_arePair_14 : decode cX2_arePair 14 = .ok (.iconst 0, 1) := by decide +kernel
theorem dX2_arePair_15 : decode cX2_arePair 15 = .ok (.ireturn, 1) := by decide +kernel
theorem dX2_arePair_16 : decode cX2_arePair 16 = .ok (.aload_n 0, 1) := by decide +kernel
theorem dX2_arePair_17 : decode cX2_arePair 17 = .ok (.getfield 15, 3) := by decide +kernel
theorem dX2_arePair_20 : decode cX2_arePair 20 = .ok (.iload_n 1, 1) := by decide +kernel
theorem dX2_arePair_21 : decode cX2_arePair 21 = .ok (.iaload, 1) := by decide +kernel
theorem dX2_arePair_22 : decode cX2_arePair 22 = .ok (.iconst 1, 1) := by decide +kernel
theorem dX2_arePair_23 : decode cX2_arePair 23 = .ok (.if_icmp .ne 18, 3) := by decide +kernel
theorem dX2_arePair_26 : decode cX2_arePair 26 = .ok (.aload_n 0, 1) := by decide +kernel
theorem dX2_arePair_27 : decode cX2_arePair 27 = .ok (.getfield 15, 3) := by decide +kernel
theorem dX2_arePair_30 : decode cX2_arePair 30 = .ok (.iload_n 2, 1) := by decide +kernel
theorem dX2_arePair_31 : decode cX2_arePair 31 = .ok (.iaload, 1) := by decide +kernel
theorem dX2_arePair_32 : decode cX2_arePair 32 = .ok (.ifCond .ne 7, 3) := by decide +kernel
theorem dX2_arePair_35 : decode cX2_arePair 35 = .ok (.iconst 1, 1) := by decide +kernel
theorem dX2_arePair_36 : decode cX2_arePair 36 = .ok (.goto 4, 3) := by decide +kernel
theorem dX2_arePair_39 : decode cX2_arePair 39 = .ok (.iconst 0, 1) := by decide +kernel
theorem dX2_arePair_40 : decode cX2_arePair 40 = .ok (.ireturn, 1) := by decide +kernel
theorem dX2_arePair_41 : decode cX2_arePair 41 = .ok (.aload_n 0, 1) := by decide +kernel
theorem dX2_arePair_42 : decode cX2_arePair 42 = .ok (.getfield 15, 3) := by decide +kernel
theorem dX2_arePair_45 : decode cX2_arePair 45 = .ok (.iload_n 1, 1) := by decide +kernel
theorem dX2_arePair_46 : decode cX2_arePair 46 = .ok (.iaload, 1) := by decide +kernel
theorem dX2_arePair_47 : decode cX2_arePair 47 = .ok (.iconst 3, 1) := by decide +kernel
theorem dX2_arePair_48 : decode cX2_arePair 48 = .ok (.if_icmp .ne 17, 3) := by decide +kernel
theorem dX2_arePair_51 : decode cX2_arePair 51 = .ok (.aload_n 0, 1) := by decide +kernel
theorem dX2_arePair_52 : decode cX2_arePair 52 = .ok (.getfield 18, 3) := by decide +kernel
theorem dX2_arePair_55 : decode cX2_arePair 55 = .ok (.iload_n 1, 1) := by decide +kernel
theorem dX2_arePair_56 : decode cX2_arePair 56 = .ok (.iaload, 1) := by decide +kernel
theorem dX2_arePair_57 : decode cX2_arePair 57 = .ok (.iload_n 2, 1) := by decide +kernel
theorem dX2_arePair_58 : decode cX2_arePair 58 = .ok (.if_icmp .ne 7, 3) := by decide +kernel
theorem dX2_arePair_61 : decode cX2_arePair 61 = .ok (.iconst 1, 1) := by decide +kernel
theorem dX2_arePair_62 : decode cX2_arePair 62 = .ok (.goto 4, 3) := by decide +kernel
theorem dX2_arePair_65 : decode cX2_arePair 65 = .ok (.iconst 0, 1) := by decide +kernel
theorem dX2_arePair_66 : decode cX2_arePair 66 = .ok (.ireturn, 1) := by decide +kernel
theorem dX2_exchange_0 : decode cX2_exchange 0 = .ok (.aload_n 0, 1) := by decide +kernel
theorem dX2_exchange_1 : decode cX2_exchange 1 = .ok (.iload_n 1, 1) := by decide +kernel
theorem dX2_exchange_2 : decode cX2_exchange 2 = .ok (.invokevirtual 66, 3) := by decide +kernel
theorem dX2_exchange_5 : decode cX2_exchange 5 = .ok (.istore_n 3, 1) := by decide +kernel
theorem dX2_exchange_6 : decode cX2_exchange 6 = .ok (.iload_n 3, 1) := by decide +kernel
theorem dX2_exchange_7 : decode cX2_exchange 7 = .ok (.iconst (-1), 1) := by decide +kernel
theorem dX2_exchange_8 : decode cX2_exchange 8 = .ok (.if_icmp .eq 12, 3) := by decide +kernel
theorem dX2_exchange_11 : decode cX2_exchange 11 = .ok (.aload_n 0, 1) := by decide +kernel
theorem dX2_exchange_12 : decode cX2_exchange 12 = .ok (.iload_n 1, 1) := by decide +kernel
theorem dX2_exchange_13 : decode cX2_exchange 13 = .ok (.iload_n 2, 1) := by decide +kernel
theorem dX2_exchange_14 : decode cX2_exchange 14 = .ok (.invokevirtual 70, 3) := by decide +kernel
theorem dX2_exchange_17 : decode cX2_exchange 17 = .ok (.ifCond .ne 5, 3) := by decide +kernel
theorem dX2_exchange_20 : decode cX2_exchange 20 = .ok (.iconst (-1), 1) := by decide +kernel
theorem dX2_exchange_21 : decode cX2_exchange 21 = .ok (.ireturn, 1) := by decide +kernel
theorem dX2_exchange_22 : decode cX2_exchange 22 = .ok (.aload_n 0, 1) := by decide +kernel
theorem dX2_exchange_23 : decode cX2_exchange 23 = .ok (.getfield 15, 3) := by decide +kernel
theorem dX2_exchange_26 : decode cX2_exchange 26 = .ok (.iload_n 1, 1) := by decide +kernel
theorem dX2_exchange_27 : decode cX2_exchange 27 = .ok (.iaload, 1) := by decide +kernel
theorem dX2_exchange_28 : decode cX2_exchange 28 = .ok (.iconst 1, 1) := by decide +kernel
theorem dX2_exchange_29 : decode cX2_exchange 29 = .ok (.if_icmp .ne 27, 3) := by decide +kernel
theorem dX2_exchange_32 : decode cX2_exchange 32 = .ok (.aload_n 0, 1) := by decide +kernel
theorem dX2_exchange_33 : decode cX2_exchange 33 = .ok (.getfield 15, 3) := by decide +kernel
theorem dX2_exchange_36 : decode cX2_exchange 36 = .ok (.iload_n 1, 1) := by decide +kernel
theorem dX2_exchange_37 : decode cX2_exchange 37 = .ok (.iconst 2, 1) := by decide +kernel
theorem dX2_exchange_38 : decode cX2_exchange 38 = .ok (.iastore, 1) := by decide +kernel
theorem dX2_exchange_39 : decode cX2_exchange 39 = .ok (.aload_n 0, 1) := by decide +kernel
theorem dX2_exchange_40 : decode cX2_exchange 40 = .ok (.getfield 15, 3) := by decide +kernel
theorem dX2_exchange_43 : decode cX2_exchange 43 = .ok (.iload_n 2, 1) := by decide +kernel
theorem dX2_exchange_44 : decode cX2_exchange 44 = .ok (.iconst 3, 1) := by decide +kernel
theorem dX2_exchange_45 : decode cX2_exchange 45 = .ok (.iastore, 1) := by decide +kernel
theorem dX2_exchange_46 : decode cX2_exchange 46 = .ok (.aload_n 0, 1) := by decide +kernel
theorem dX2_exchange_47 : decode cX2_exchange 47 = .ok (.getfield 18, 3) := by decide +kernel
theorem dX2_exchange_50 : decode cX2_exchange 50 = .ok (.iload_n 2, 1) := by decide +kernel
theorem dX2_exchange_51 : decode cX2_exchange 51 = .ok (.iload_n 1, 1) := by decide +kernel
theorem dX2_exchange_52 : decode cX2_exchange 52 = .ok (.iastore, 1) := by decide +kernel
theorem dX2_exchange_53 : decode cX2_exchange 53 = .ok (.goto 17, 3) := by decide +kernel
theorem dX2_exchange_56 : decode cX2_exchange 56 = .ok (.aload_n 0, 1) := by decide +kernel
theorem dX2_exchange_57 : decode cX2_exchange 57 = .ok (.getfield 15, 3) := by decide +kernel
theorem dX2_exchange_60 : decode cX2_exchange 60 = .ok (.iload_n 1, 1) := by decide +kernel
theorem dX2_exchange_61 : decode cX2_exchange 61 = .ok (.iconst 4, 1) := by decide +kernel
theorem dX2_exchange_62 : decode cX2_exchange 62 = .ok (.iastore, 1) := by decide +kernel
theorem dX2_exchange_63 : decode cX2_exchange 63 = .ok (.aload_n 0, 1) := by decide +kernel
theorem dX2_exchange_64 : decode cX2_exchange 64 = .ok (.getfield 15, 3) := by decide +kernel
theorem dX2_exchange_67 : decode cX2_exchange 67 = .ok (.iload_n 2, 1) := by decide +kernel
theorem dX2_exchange_68 : decode cX2_exchange 68 = .ok (.iconst 4, 1) := by decide +kernel
theorem dX2_exchange_69 : decode cX2_exchange 69 = .ok (.iastore, 1) := by decide +kernel
theorem dX2_exchange_70 : decode cX2_exchange 70 = .ok (.aload_n 0, 1) := by decide +kernel
theorem dX2_exchange_71 : decode cX2_exchange 71 = .ok (.getfield 9, 3) := by decide +kernel
theorem dX2_exchange_74 : decode cX2_exchange 74 = .ok (.iload_n 3, 1) := by decide +kernel
theorem dX2_exchange_75 : decode cX2_exchange 75 = .ok (.iload_n 2, 1) := by decide +kernel
theorem dX2_exchange_76 : decode cX2_exchange 76 = .ok (.iastore, 1) := by decide +kernel
theorem dX2_exchange_77 : decode cX2_exchange 77 = .ok (.aload_n 0, 1) := by decide +kernel
theorem dX2_exchange_78 : decode cX2_exchange 78 = .ok (.dup, 1) := by decide +kernel
theorem dX2_exchange_79 : decode cX2_exchange 79 = .ok (.getfield 41, 3) := by decide +kernel
theorem dX2_exchange_82 : decode cX2_exchange 82 = .ok (.iconst 1, 1) := by decide +kernel
theorem dX2_exchange_83 : decode cX2_exchange 83 = .ok (.iadd, 1) := by decide +kernel
theorem dX2_exchange_84 : decode cX2_exchange 84 = .ok (.putfield 41, 3) := by decide +kernel
theorem dX2_exchange_87 : decode cX2_exchange 87 = .ok (.iload_n 3, 1) := by decide +kernel
theorem dX2_exchange_88 : decode cX2_exchange 88 = .ok (.ireturn, 1) := by decide +kernel
theorem dX2_freeOn_0 : decode cX2_freeOn 0 = .ok (.aload_n 0, 1) := by decide +kernel
theorem dX2_freeOn_1 : decode cX2_freeOn 1 = .ok (.iload_n 1, 1) := by decide +kernel
theorem dX2_freeOn_2 : decode cX2_freeOn 2 = .ok (.invokevirtual 66, 3) := by decide +kernel
theorem dX2_freeOn_5 : decode cX2_freeOn 5 = .ok (.istore_n 2, 1) := by decide +kernel
theorem dX2_freeOn_6 : decode cX2_freeOn 6 = .ok (.aload_n 0, 1) := by decide +kernel
theorem dX2_freeOn_7 : decode cX2_freeOn 7 = .ok (.getfield 28, 3) := by decide +kernel
theorem dX2_freeOn_10 : decode cX2_freeOn 10 = .ok (.iconst (-1), 1) := by decide +kernel
theorem dX2_freeOn_11 : decode cX2_freeOn 11 = .ok (.if_icmp .ne 13, 3) := by decide +kernel
theorem dX2_freeOn_14 : decode cX2_freeOn 14 = .ok (.iload_n 2, 1) := by decide +kernel
theorem dX2_freeOn_15 : decode cX2_freeOn 15 = .ok (.iconst 4, 1) := by decide +kernel
theorem dX2_freeOn_16 : decode cX2_freeOn 16 = .ok (.if_icmp .eq 10, 3) := by decide +kernel
theorem dX2_freeOn_19 : decode cX2_freeOn 19 = .ok (.iload_n 2, 1) := by decide +kernel
theorem dX2_freeOn_20 : decode cX2_freeOn 20 = .ok (.iconst 5, 1) := by decide +kernel
theorem dX2_freeOn_21 : decode cX2_freeOn 21 = .ok (.if_icmp .eq 5, 3) := by decide +kernel
theorem dX2_freeOn_24 : decode cX2_freeOn 24 = .ok (.iconst (-1), 1) := by decide +kernel
theorem dX2_freeOn_25 : decode cX2_freeOn 25 = .ok (.ireturn, 1) := by decide +kernel
theorem dX2_freeOn_26 : decode cX2_freeOn 26 = .ok (.aload_n 0, 1) := by decide +kernel
theorem dX2_freeOn_27 : decode cX2_freeOn 27 = .ok (.iload_n 2, 1) := by decide +kernel
theorem dX2_freeOn_28 : decode cX2_freeOn 28 = .ok (.putfield 28, 3) := by decide +kernel
theorem dX2_freeOn_31 : decode cX2_freeOn 31 = .ok (.aload_n 0, 1) := by decide +kernel
theorem dX2_freeOn_32 : decode cX2_freeOn 32 = .ok (.iconst 1, 1) := by decide +kernel
theorem dX2_freeOn_33 : decode cX2_freeOn 33 = .ok (.putfield 31, 3) := by decide +kernel
theorem dX2_freeOn_36 : decode cX2_freeOn 36 = .ok (.iload_n 2, 1) := by decide +kernel
theorem dX2_freeOn_37 : decode cX2_freeOn 37 = .ok (.ireturn, 1) := by decide +kernel
theorem dX2_freeOff_0 : decode cX2_freeOff 0 = .ok (.aload_n 0, 1) := by decide +kernel
theorem dX2_freeOff_1 : decode cX2_freeOff 1 = .ok (.getfield 28, 3) := by decide +kernel
theorem dX2_freeOff_4 : decode cX2_freeOff 4 = .ok (.istore_n 1, 1) := by decide +kernel
theorem dX2_freeOff_5 : decode cX2_freeOff 5 = .ok (.iload_n 1, 1) := by decide +kernel
theorem dX2_freeOff_6 : decode cX2_freeOff 6 = .ok (.iconst (-1), 1) := by decide +kernel
theorem dX2_freeOff_7 : decode cX2_freeOff 7 = .ok (.if_icmp .eq 13, 3) := by decide +kernel
theorem dX2_freeOff_10 : decode cX2_freeOff 10 = .ok (.aload_n 0, 1) := by decide +kernel
theorem dX2_freeOff_11 : decode cX2_freeOff 11 = .ok (.iconst (-1), 1) := by decide +kernel
theorem dX2_freeOff_12 : decode cX2_freeOff 12 = .ok (.putfield 28, 3) := by decide +kernel
theorem dX2_freeOff_15 : decode cX2_freeOff 15 = .ok (.aload_n 0, 1) := by decide +kernel
theorem dX2_freeOff_16 : decode cX2_freeOff 16 = .ok (.iconst 1, 1) := by decide +kernel
theorem dX2_freeOff_17 : decode cX2_freeOff 17 = .ok (.putfield 31, 3) := by decide +kernel
theorem dX2_freeOff_20 : decode cX2_freeOff 20 = .ok (.iload_n 1, 1) := by decide +kernel
theorem dX2_freeOff_21 : decode cX2_freeOff 21 = .ok (.ireturn, 1) := by decide +kernel
theorem dX3_init_0 : decode cX3_init 0 = .ok (.aload_n 0, 1) := by decide +kernel
theorem dX3_init_1 : decode cX3_init 1 = .ok (.invokespecial 3, 3) := by decide +kernel
theorem dX3_init_4 : decode cX3_init 4 = .ok (.aload_n 0, 1) := by decide +kernel
theorem dX3_init_5 : decode cX3_init 5 = .ok (.bipush 6, 2) := by decide +kernel
theorem dX3_init_7 : decode cX3_init 7 = .ok (.newarray .int, 2) := by decide +kernel
theorem dX3_init_9 : decode cX3_init 9 = .ok (.dup, 1) := by decide +kernel
theorem dX3_init_10 : decode cX3_init 10 = .ok (.iconst 0, 1) := by decide +kernel
theorem dX3_init_11 : decode cX3_init 11 = .ok (.bipush 25, 2) := by decide +kernel
theorem dX3_init_13 : decode cX3_init 13 = .ok (.iastore, 1) := by decide +kernel
theorem dX3_init_14 : decode cX3_init 14 = .ok (.dup, 1) := by decide +kernel
theorem dX3_init_15 : decode cX3_init 15 = .ok (.iconst 1, 1) := by decide +kernel
theorem dX3_init_16 : decode cX3_init 16 = .ok (.bipush 30, 2) := by decide +kernel
theorem dX3_init_18 : decode cX3_init 18 = .ok (.iastore, 1) := by decide +kernel
theorem dX3_init_19 : decode cX3_init 19 = .ok (.dup, 1) := by decide +kernel
theorem dX3_init_20 : decode cX3_init 20 = .ok (.iconst 2, 1) := by decide +kernel
theorem dX3_init_21 : decode cX3_init 21 = .ok (.bipush 15, 2) := by decide +kernel
theorem dX3_init_23 : decode cX3_init 23 = .ok (.iastore, 1) := by decide +kernel
theorem dX3_init_24 : decode cX3_init 24 = .ok (.dup, 1) := by decide +kernel
theorem dX3_init_25 : decode cX3_init 25 = .ok (.iconst 3, 1) := by decide +kernel
theorem dX3_init_26 : decode cX3_init 26 = .ok (.iconst 2, 1) := by decide +kernel
theorem dX3_init_27 : decode cX3_init 27 = .ok (.iastore, 1) := by decide +kernel
theorem dX3_init_28 : decode cX3_init 28 = .ok (.dup, 1) := by decide +kernel
theorem dX3_init_29 : decode cX3_init 29 = .ok (.iconst 4, 1) := by decide +kernel
theorem dX3_init_30 : decode cX3_init 30 = .ok (.bipush 6, 2) := by decide +kernel
theorem dX3_init_32 : decode cX3_init 32 = .ok (.iastore, 1) := by decide +kernel
theorem dX3_init_33 : decode cX3_init 33 = .ok (.dup, 1) := by decide +kernel
theorem dX3_init_34 : decode cX3_init 34 = .ok (.iconst 5, 1) := by decide +kernel
theorem dX3_init_35 : decode cX3_init 35 = .ok (.iconst 2, 1) := by decide +kernel
theorem dX3_init_36 : decode cX3_init 36 = .ok (.iastore, 1) := by decide +kernel
theorem dX3_init_37 : decode cX3_init 37 = .ok (.putfield 9, 3) := by decide +kernel
theorem dX3_init_40 : decode cX3_init 40 = .ok (.return_, 1) := by decide +kernel
theorem dX3_takes_0 : decode cX3_takes 0 = .ok (.iload_n 1, 1) := by decide +kernel
theorem dX3_takes_1 : decode cX3_takes 1 = .ok (.ifCond .lt 30, 3) := by decide +kernel
theorem dX3_takes_4 : decode cX3_takes 4 = .ok (.iload_n 1, 1) := by decide +kernel
theorem dX3_takes_5 : decode cX3_takes 5 = .ok (.aload_n 0, 1) := by decide +kernel
theorem dX3_takes_6 : decode cX3_takes 6 = .ok (.getfield 9, 3) := by decide +kernel
theorem dX3_takes_9 : decode cX3_takes 9 = .ok (.arraylength, 1) := by decide +kernel
theorem dX3_takes_10 : decode cX3_takes 10 = .ok (.if_icmp .ge 21, 3) := by decide +kernel
theorem dX3_takes_13 : decode cX3_takes 13 = .ok (.iload_n 2, 1) := by decide +kernel
theorem dX3_takes_14 : decode cX3_takes 14 = .ok (.getstatic 15, 3) := by decide +kernel
theorem dX3_takes_17 : decode cX3_takes 17 = .ok (.iload_n 1, 1) := by decide +kernel
theorem dX3_takes_18 : decode cX3_takes 18 = .ok (.iaload, 1) := by decide +kernel
theorem dX3_takes_19 : decode cX3_takes 19 = .ok (.if_icmp .lt 12, 3) := by decide +kernel
theorem dX3_takes_22 : decode cX3_takes 22 = .ok (.iload_n 2, 1) := by decide +kernel
theorem dX3_takes_23 : decode cX3_takes 23 = .ok (.getstatic 18, 3) := by decide +kernel
theorem dX3_takes_26 : decode cX3_takes 26 = .ok (.iload_n 1, 1) := by decide +kernel
theorem dX3_takes_27 : decode cX3_takes 27 = .ok (.iaload, 1) := by decide +kernel
theorem dX3_takes_28 : decode cX3_takes 28 = .ok (.if_icmp .le 5, 3) := by decide +kernel
theorem dX3_takes_31 : decode cX3_takes 31 = .ok (.iconst 0, 1) := by decide +kernel
theorem dX3_takes_32 : decode cX3_takes 32 = .ok (.ireturn, 1) := by decide +kernel
theorem dX3_takes_33 : decode cX3_takes 33 = .ok (.iload_n 1, 1) := by decide +kernel
theorem dX3_takes_34 : decode cX3_takes 34 = .ok (.ifCond .ne 19, 3) := by decide +kernel
theorem dX3_takes_37 : decode cX3_takes 37 = .ok (.iload_n 2, 1) := by decide +kernel
theorem dX3_takes_38 : decode cX3_takes 38 = .ok (.aload_n 0, 1) := by decide +kernel
theorem dX3_takes_39 : decode cX3_takes 39 = .ok (.getfield 9, 3) := by decide +kernel
theorem dX3_takes_42 : decode cX3_takes 42 = .ok (.iconst 1, 1) := by decide +kernel
theorem dX3_takes_43 : decode cX3_takes 43 = .ok (.iaload, 1) := by decide +kernel
theorem dX3_takes_44 : decode cX3_takes 44 = .ok (.if_icmp .gt 7, 3) := by decide +kernel
theorem dX3_takes_47 : decode cX3_takes 47 = .ok (.iconst 1, 1) := by decide +kernel
theorem dX3_takes_48 : decode cX3_takes 48 = .ok (.goto 4, 3) := by decide +kernel
theorem dX3_takes_51 : decode cX3_takes 51 = .ok (.iconst 0, 1) := by decide +kernel
theorem dX3_takes_52 : decode cX3_takes 52 = .ok (.ireturn, 1) := by decide +kernel
theorem dX3_takes_53 : decode cX3_takes 53 = .ok (.iload_n 1, 1) := by decide +kernel
theorem dX3_takes_54 : decode cX3_takes 54 = .ok (.iconst 1, 1) := by decide +kernel
theorem dX3_takes_55 : decode cX3_takes 55 = .ok (.if_icmp .ne 13, 3) := by decide +kernel
theorem dX3_takes_58 : decode cX3_takes 58 = .ok (.iload_n 2, 1) := by decide +kernel
theorem dX3_takes_59 : decode cX3_takes 59 = .ok (.aload_n 0, 1) := by decide +kernel
theorem dX3_takes_60 : decode cX3_takes 60 = .ok (.getfield 9, 3) := by decide +kernel
theorem dX3_takes_63 : decode cX3_takes 63 = .ok (.iconst 0, 1) := by decide +kernel
theorem dX3_takes_64 : decode cX3_takes 64 = .ok (.iaload, 1) := by decide +kernel
theorem dX3_takes_65 : decode cX3_takes 65 = .ok (.if_icmp .lt 7, 3) := by decide +kernel
theorem dX3_takes_68 : decode cX3_takes 68 = .ok (.iconst 1, 1) := by decide +kernel
theorem dX3_takes_69 : decode cX3_takes 69 = .ok (.goto 4, 3) := by decide +kernel
theorem dX3_takes_72 : decode cX3_takes 72 = .ok (.iconst 0, 1) := by decide +kernel
theorem dX3_takes_73 : decode cX3_takes 73 = .ok (.ireturn, 1) := by decide +kernel
theorem dX3_valueOf_0 : decode cX3_valueOf 0 = .ok (.iload_n 1, 1) := by decide +kernel
theorem dX3_valueOf_1 : decode cX3_valueOf 1 = .ok (.ifCond .lt 21, 3) := by decide +kernel
theorem dX3_valueOf_4 : decode cX3_valueOf 4 = .ok (.iload_n 1, 1) := by decide +kernel
theorem dX3_valueOf_5 : decode cX3_valueOf 5 = .ok (.aload_n 0, 1) := by decide +kernel
theorem dX3_valueOf_6 : decode cX3_valueOf 6 = .ok (.getfield 9, 3) := by decide +kernel
theorem dX3_valueOf_9 : decode cX3_valueOf 9 = .ok (.arraylength, 1) := by decide +kernel
theorem dX3_valueOf_10 : decode cX3_valueOf 10 = .ok (.if_icmp .ge 12, 3) := by decide +kernel
theorem dX3_valueOf_13 : decode cX3_valueOf 13 = .ok (.aload_n 0, 1) := by decide +kernel
theorem dX3_valueOf_14 : decode cX3_valueOf 14 = .ok (.getfield 9, 3) := by decide +kernel
theorem dX3_valueOf_17 : decode cX3_valueOf 17 = .ok (.iload_n 1, 1) := by decide +kernel
theorem dX3_valueOf_18 : decode cX3_valueOf 18 = .ok (.iaload, 1) := by decide +kernel
theorem dX3_valueOf_19 : decode cX3_valueOf 19 = .ok (.goto 4, 3) := by decide +kernel
theorem dX3_valueOf_22 : decode cX3_valueOf 22 = .ok (.iconst 0, 1) := by decide +kernel
theorem dX3_valueOf_23 : decode cX3_valueOf 23 = .ok (.ireturn, 1) := by decide +kernel
theorem dX3_putValue_0 : decode cX3_putValue 0 = .ok (.iload_n 1, 1) := by decide +kernel
theorem dX3_putValue_1 : decode cX3_putValue 1 = .ok (.ifCond .lt 19, 3) := by decide +kernel
theorem dX3_putValue_4 : decode cX3_putValue 4 = .ok (.iload_n 1, 1) := by decide +kernel
theorem dX3_putValue_5 : decode cX3_putValue 5 = .ok (.aload_n 0, 1) := by decide +kernel
theorem dX3_putValue_6 : decode cX3_putValue 6 = .ok (.getfield 9, 3) := by decide +kernel
theorem dX3_putValue_9 : decode cX3_putValue 9 = .ok (.arraylength, 1) := by decide +kernel
theorem dX3_putValue_10 : decode cX3_putValue 10 = .ok (.if_icmp .ge 10, 3) := by decide +kernel
theorem dX3_putValue_13 : decode cX3_putValue 13 = .ok (.aload_n 0, 1) := by decide +kernel
theorem dX3_putValue_14 : decode cX3_putValue 14 = .ok (.getfield 9, 3) := by decide +kernel
theorem dX3_putValue_17 : decode cX3_putValue 17 = .ok (.iload_n 1, 1) := by decide +kernel
theorem dX3_putValue_18 : decode cX3_putValue 18 = .ok (.iload_n 2, 1) := by decide +kernel
theorem dX3_putValue_19 : decode cX3_putValue 19 = .ok (.iastore, 1) := by decide +kernel
theorem dX3_putValue_20 : decode cX3_putValue 20 = .ok (.return_, 1) := by decide +kernel
theorem dX3_target_0 : decode cX3_target 0 = .ok (.aload_n 0, 1) := by decide +kernel
theorem dX3_target_1 : decode cX3_target 1 = .ok (.getfield 9, 3) := by decide +kernel
theorem dX3_target_4 : decode cX3_target 4 = .ok (.iconst 3, 1) := by decide +kernel
theorem dX3_target_5 : decode cX3_target 5 = .ok (.iaload, 1) := by decide +kernel
theorem dX3_target_6 : decode cX3_target 6 = .ok (.iconst 1, 1) := by decide +kernel
theorem dX3_target_7 : decode cX3_target 7 = .ok (.isub, 1) := by decide +kernel
theorem dX3_target_8 : decode cX3_target 8 = .ok (.istore_n 3, 1) := by decide +kernel
theorem dX3_target_9 : decode cX3_target 9 = .ok (.iload_n 3, 1) := by decide +kernel
theorem dX3_target_10 : decode cX3_target 10 = .ok (.ifCond .le 17, 3) := by decide +kernel
theorem dX3_target_13 : decode cX3_target 13 = .ok (.iload_n 1, 1) := by decide +kernel
theorem dX3_target_14 : decode cX3_target 14 = .ok (.iload_n 3, 1) := by decide +kernel
theorem dX3_target_15 : decode cX3_target 15 = .ok (.if_icmp .ne 12, 3) := by decide +kernel
theorem dX3_target_18 : decode cX3_target 18 = .ok (.iload_n 2, 1) := by decide +kernel
theorem dX3_target_19 : decode cX3_target 19 = .ok (.iload_n 3, 1) := by decide +kernel
theorem dX3_target_20 : decode cX3_target 20 = .ok (.if_icmp .ne 7, 3) := by decide +kernel
theorem dX3_target_23 : decode cX3_target 23 = .ok (.iconst 1, 1) := by decide +kernel
theorem dX3_target_24 : decode cX3_target 24 = .ok (.goto 4, 3) := by decide +kernel
theorem dX3_target_27 : decode cX3_target 27 = .ok (.iconst 0, 1) := by decide +kernel
theorem dX3_target_28 : decode cX3_target 28 = .ok (.istore 4, 2) := by decide +kernel
theorem dX3_target_30 : decode cX3_target 30 = .ok (.iload 4, 2) := by decide +kernel
theorem dX3_target_32 : decode cX3_target 32 = .ok (.ifCond .eq 12, 3) := by decide +kernel
theorem dX3_target_35 : decode cX3_target 35 = .ok (.aload_n 0, 1) := by decide +kernel
theorem dX3_target_36 : decode cX3_target 36 = .ok (.getfield 9, 3) := by decide +kernel
theorem dX3_target_39 : decode cX3_target 39 = .ok (.iconst 2, 1) := by decide +kernel
theorem dX3_target_40 : decode cX3_target 40 = .ok (.iaload, 1) := by decide +kernel
theorem dX3_target_41 : decode cX3_target 41 = .ok (.goto 9, 3) := by decide +kernel
theorem dX3_target_44 : decode cX3_target 44 = .ok (.aload_n 0, 1) := by decide +kernel
theorem dX3_target_45 : decode cX3_target 45 = .ok (.getfield 9, 3) := by decide +kernel
theorem dX3_target_48 : decode cX3_target 48 = .ok (.iconst 0, 1) := by decide +kernel
theorem dX3_target_49 : decode cX3_target 49 = .ok (.iaload, 1) := by decide +kernel
theorem dX3_target_50 : decode cX3_target 50 = .ok (.ireturn, 1) := by decide +kernel
theorem dX3_wins_0 : decode cX3_wins 0 = .ok (.iload_n 0, 1) := by decide +kernel
theorem dX3_wins_1 : decode cX3_wins 1 = .ok (.iload_n 3, 1) := by decide +kernel
theorem dX3_wins_2 : decode cX3_wins 2 = .ok (.if_icmp .ge 15, 3) := by decide +kernel
theorem dX3_wins_5 : decode cX3_wins 5 = .ok (.iload_n 0, 1) := by decide +kernel
theorem dX3_wins_6 : decode cX3_wins 6 = .ok (.iload_n 2, 1) := by decide +kernel
theorem dX3_wins_7 : decode cX3_wins 7 = .ok (.if_icmp .lt 14, 3) := by decide +kernel
theorem dX3_wins_10 : decode cX3_wins 10 = .ok (.iload_n 0, 1) := by decide +kernel
theorem dX3_wins_11 : decode cX3_wins 11 = .ok (.iload_n 1, 1) := by decide +kernel
theorem dX3_wins_12 : decode cX3_wins 12 = .ok (.isub, 1) := by decide +kernel
theorem dX3_wins_13 : decode cX3_wins 13 = .ok (.iconst 2, 1) := by decide +kernel
theorem dX3_wins_14 : decode cX3_wins 14 = .ok (.if_icmp .lt 7, 3) := by decide +kernel
theorem dX3_wins_17 : decode cX3_wins 17 = .ok (.iconst 1, 1) := by decide +kernel
theorem dX3_wins_18 : decode cX3_wins 18 = .ok (.goto 4, 3) := by decide +kernel
theorem dX3_wins_21 : decode cX3_wins 21 = .ok (.iconst 0, 1) := by decide +kernel
theorem dX3_wins_22 : decode cX3_wins 22 = .ok (.ireturn, 1) := by decide +kernel
theorem dX4_init_0 : decode cX4_init 0 = .ok (.aload_n 0, 1) := by decide +kernel
theorem dX4_init_1 : decode cX4_init 1 = .ok (.invokespecial 3, 3) := by decide +kernel
theorem dX4_init_4 : decode cX4_init 4 = .ok (.aload_n 0, 1) := by decide +kernel
theorem dX4_init_5 : decode cX4_init 5 = .ok (.bipush 48, 2) := by decide +kernel
theorem dX4_init_7 : decode cX4_init 7 = .ok (.newarray .int, 2) := by decide +kernel
theorem dX4_init_9 : decode cX4_init 9 = .ok (.putfield 9, 3) := by decide +kernel
theorem dX4_init_12 : decode cX4_init 12 = .ok (.iconst 0, 1) := by decide +kernel
theorem dX4_init_13 : decode cX4_init 13 = .ok (.istore_n 1, 1) := by decide +kernel
theorem dX4_init_14 : decode cX4_init 14 = .ok (.iload_n 1, 1) := by decide +kernel
theorem dX4_init_15 : decode cX4_init 15 = .ok (.aload_n 0, 1) := by decide +kernel
theorem dX4_init_16 : decode cX4_init 16 = .ok (.getfield 9, 3) := by decide +kernel
theorem dX4_init_19 : decode cX4_init 19 = .ok (.arraylength, 1) := by decide +kernel
theorem dX4_init_20 : decode cX4_init 20 = .ok (.if_icmp .ge 17, 3) := by decide +kernel
theorem dX4_init_23 : decode cX4_init 23 = .ok (.aload_n 0, 1) := by decide +kernel
theorem dX4_init_24 : decode cX4_init 24 = .ok (.getfield 9, 3) := by decide +kernel
theorem dX4_init_27 : decode cX4_init 27 = .ok (.iload_n 1, 1) := by decide +kernel
theorem dX4_init_28 : decode cX4_init 28 = .ok (.bipush 50, 2) := by decide +kernel
theorem dX4_init_30 : decode cX4_init 30 = .ok (.iastore, 1) := by decide +kernel
theorem dX4_init_31 : decode cX4_init 31 = .ok (.iinc 1 1, 3) := by decide +kernel
theorem dX4_init_34 : decode cX4_init 34 = .ok (.goto (-20), 3) := by decide +kernel
theorem dX4_init_37 : decode cX4_init 37 = .ok (.aload_n 0, 1) := by decide +kernel
theorem dX4_init_38 : decode cX4_init 38 = .ok (.bipush 6, 2) := by decide +kernel
theorem dX4_init_40 : decode cX4_init 40 = .ok (.newarray .int, 2) := by decide +kernel
theorem dX4_init_42 : decode cX4_init 42 = .ok (.putfield 15, 3) := by decide +kernel
theorem dX4_init_45 : decode cX4_init 45 = .ok (.aload_n 0, 1) := by decide +kernel
theorem dX4_init_46 : decode cX4_init 46 = .ok (.iconst (-1), 1) := by decide +kernel
theorem dX4_init_47 : decode cX4_init 47 = .ok (.putfield 18, 3) := by decide +kernel
theorem dX4_init_50 : decode cX4_init 50 = .ok (.aload_n 0, 1) := by decide +kernel
theorem dX4_init_51 : decode cX4_init 51 = .ok (.iconst 0, 1) := by decide +kernel
theorem dX4_init_52 : decode cX4_init 52 = .ok (.putfield 22, 3) := by decide +kernel
theorem dX4_init_55 : decode cX4_init 55 = .ok (.return_, 1) := by decide +kernel
theorem dX4_skillOf_0 : decode cX4_skillOf 0 = .ok (.iload_n 1, 1) := by decide +kernel
theorem dX4_skillOf_1 : decode cX4_skillOf 1 = .ok (.iconst 4, 1) := by decide +kernel
theorem dX4_skillOf_2 : decode cX4_skillOf 2 = .ok (.imul, 1) := by decide +kernel
theorem dX4_skillOf_3 : decode cX4_skillOf 3 = .ok (.iload_n 2, 1) := by decide +kernel
theorem dX4_skillOf_4 : decode cX4_skillOf 4 = .ok (.iadd, 1) := by decide +kernel
theorem dX4_skillOf_5 : decode cX4_skillOf 5 = .ok (.istore_n 3, 1) := by decide +kernel
theorem dX4_skillOf_6 : decode cX4_skillOf 6 = .ok (.iload_n 3, 1) := by decide +kernel
theorem dX4_skillOf_7 : decode cX4_skillOf 7 = .ok (.ifCond .lt 21, 3) := by decide +kernel
theorem dX4_skillOf_10 : decode cX4_skillOf 10 = .ok (.iload_n 3, 1) := by decide +kernel
theorem dX4_skillOf_11 : decode cX4_skillOf 11 = .ok (.aload_n 0, 1) := by decide +kernel
theorem dX4_skillOf_12 : decode cX4_skillOf 12 = .ok (.getfield 9, 3) := by decide +kernel
theorem dX4_skillOf_15 : decode cX4_skillOf 15 = .ok (.arraylength, 1) := by decide +kernel
theorem dX4_skillOf_16 : decode cX4_skillOf 16 = .ok (.if_icmp .ge 12, 3) := by decide +kernel
theorem dX4_skillOf_19 : decode cX4_skillOf 19 = .ok (.aload_n 0, 1) := by decide +kernel
theorem dX4_skillOf_20 : decode cX4_skillOf 20 = .ok (.getfield 9, 3) := by decide +kernel
theorem dX4_skillOf_23 : decode cX4_skillOf 23 = .ok (.iload_n 3, 1) := by decide +kernel
theorem dX4_skillOf_24 : decode cX4_skillOf 24 = .ok (.iaload, 1) := by decide +kernel
theorem dX4_skillOf_25 : decode cX4_skillOf 25 = .ok (.goto 4, 3) := by decide +kernel
theorem dX4_skillOf_28 : decode cX4_skillOf 28 = .ok (.iconst 0, 1) := by decide +kernel
theorem dX4_skillOf_29 : decode cX4_skillOf 29 = .ok (.ireturn, 1) := by decide +kernel
theorem dX4_putSkill_0 : decode cX4_putSkill 0 = .ok (.iload_n 1, 1) := by decide +kernel
theorem dX4_putSkill_1 : decode cX4_putSkill 1 = .ok (.iconst 4, 1) := by decide +kernel
theorem dX4_putSkill_2 : decode cX4_putSkill 2 = .ok (.imul, 1) := by decide +kernel
theorem dX4_putSkill_3 : decode cX4_putSkill 3 = .ok (.iload_n 2, 1) := by decide +kernel
theorem dX4_putSkill_4 : decode cX4_putSkill 4 = .ok (.iadd, 1) := by decide +kernel
theorem dX4_putSkill_5 : decode cX4_putSkill 5 = .ok (.istore 4, 2) := by decide +kernel
theorem dX4_putSkill_7 : decode cX4_putSkill 7 = .ok (.iload 4, 2) := by decide +kernel
theorem dX4_putSkill_9 : decode cX4_putSkill 9 = .ok (.ifCond .lt 21, 3) := by decide +kernel
theorem dX4_putSkill_12 : decode cX4_putSkill 12 = .ok (.iload 4, 2) := by decide +kernel
theorem dX4_putSkill_14 : decode cX4_putSkill 14 = .ok (.aload_n 0, 1) := by decide +kernel
theorem dX4_putSkill_15 : decode cX4_putSkill 15 = .ok (.getfield 9, 3) := by decide +kernel
theorem dX4_putSkill_18 : decode cX4_putSkill 18 = .ok (.arraylength, 1) := by decide +kernel
theorem dX4_putSkill_19 : decode cX4_putSkill 19 = .ok (.if_icmp .ge 11, 3) := by decide +kernel
theorem dX4_putSkill_22 : decode cX4_putSkill 22 = .ok (.aload_n 0, 1) := by decide +kernel
theorem dX4_putSkill_23 : decode cX4_putSkill 23 = .ok (.getfield 9, 3) := by decide +kernel
theorem dX4_putSkill_26 : decode cX4_putSkill 26 = .ok (.iload 4, 2) := by decide +kernel
theorem dX4_putSkill_28 : decode cX4_putSkill 28 = .ok (.iload_n 3, 1) := by decide +kernel
theorem dX4_putSkill_29 : decode cX4_putSkill 29 = .ok (.iastore, 1) := by decide +kernel
theorem dX4_putSkill_30 : decode cX4_putSkill 30 = .ok (.return_, 1) := by decide +kernel
theorem dX4_tell_0 : decode cX4_tell 0 = .ok (.aload_n 0, 1) := by decide +kernel
theorem dX4_tell_1 : decode cX4_tell 1 = .ok (.getfield 15, 3) := by decide +kernel
theorem dX4_tell_4 : decode cX4_tell 4 = .ok (.iconst 0, 1) := by decide +kernel
theorem dX4_tell_5 : decode cX4_tell 5 = .ok (.iload_n 1, 1) := by decide +kernel
theorem dX4_tell_6 : decode cX4_tell 6 = .ok (.iastore, 1) := by decide +kernel
theorem dX4_tell_7 : decode cX4_tell 7 = .ok (.aload_n 0, 1) := by decide +kernel
theorem dX4_tell_8 : decode cX4_tell 8 = .ok (.getfield 15, 3) := by decide +kernel
theorem dX4_tell_11 : decode cX4_tell 11 = .ok (.iconst 1, 1) := by decide +kernel
theorem dX4_tell_12 : decode cX4_tell 12 = .ok (.iload_n 2, 1) := by decide +kernel
theorem dX4_tell_13 : decode cX4_tell 13 = .ok (.iastore, 1) := by decide +kernel
theorem dX4_tell_14 : decode cX4_tell 14 = .ok (.aload_n 0, 1) := by decide +kernel
theorem dX4_tell_15 : decode cX4_tell 15 = .ok (.getfield 15, 3) := by decide +kernel
theorem dX4_tell_18 : decode cX4_tell 18 = .ok (.iconst 2, 1) := by decide +kernel
theorem dX4_tell_19 : decode cX4_tell 19 = .ok (.iload_n 3, 1) := by decide +kernel
theorem dX4_tell_20 : decode cX4_tell 20 = .ok (.iastore, 1) := by decide +kernel
theorem dX4_tell_21 : decode cX4_tell 21 = .ok (.aload_n 0, 1) := by decide +kernel
theorem dX4_tell_22 : decode cX4_tell 22 = .ok (.getfield 15, 3) := by decide +kernel
theorem dX4_tell_25 : decode cX4_tell 25 = .ok (.iconst 3, 1) := by decide +kernel
theorem dX4_tell_26 : decode cX4_tell 26 = .ok (.iload 4, 2) := by decide +kernel
theorem dX4_tell_28 : decode cX4_tell 28 = .ok (.iastore, 1) := by decide +kernel
theorem dX4_tell_29 : decode cX4_tell 29 = .ok (.aload_n 0, 1) := by decide +kernel
theorem dX4_tell_30 : decode cX4_tell 30 = .ok (.getfield 15, 3) := by decide +kernel
theorem dX4_tell_33 : decode cX4_tell 33 = .ok (.iconst 4, 1) := by decide +kernel
theorem dX4_tell_34 : decode cX4_tell 34 = .ok (.iload 5, 2) := by decide +kernel
theorem dX4_tell_36 : decode cX4_tell 36 = .ok (.iastore, 1) := by decide +kernel
theorem dX4_tell_37 : decode cX4_tell 37 = .ok (.aload_n 0, 1) := by decide +kernel
theorem dX4_tell_38 : decode cX4_tell 38 = .ok (.getfield 15, 3) := by decide +kernel
theorem dX4_tell_41 : decode cX4_tell 41 = .ok (.iconst 5, 1) := by decide +kernel
theorem dX4_tell_42 : decode cX4_tell 42 = .ok (.iload 6, 2) := by decide +kernel
theorem dX4_tell_44 : decode cX4_tell 44 = .ok (.iastore, 1) := by decide +kernel
theorem dX4_tell_45 : decode cX4_tell 45 = .ok (.aload_n 0, 1) := by decide +kernel
theorem dX4_tell_46 : decode cX4_tell 46 = .ok (.iconst 1, 1) := by decide +kernel
theorem dX4_tell_47 : decode cX4_tell 47 = .ok (.putfield 22, 3) := by decide +kernel
theorem dX4_tell_50 : decode cX4_tell 50 = .ok (.return_, 1) := by decide +kernel
theorem dX4_isReady_0 : decode cX4_isReady 0 = .ok (.iconst 0, 1) := by decide +kernel
theorem dX4_isReady_1 : decode cX4_isReady 1 = .ok (.istore_n 1, 1) := by decide +kernel
theorem dX4_isReady_2 : decode cX4_isReady 2 = .ok (.iload_n 1, 1) := by decide +kernel
theorem dX4_isReady_3 : decode cX4_isReady 3 = .ok (.bipush 6, 2) := by decide +kernel
theorem dX4_isReady_5 : decode cX4_isReady 5 = .ok (.if_icmp .ge 24, 3) := by decide +kernel
theorem dX4_isReady_8 : decode cX4_isReady 8 = .ok (.aload_n 0, 1) := by decide +kernel
theorem dX4_isReady_9 : decode cX4_isReady 9 = .ok (.getfield 15, 3) := by decide +kernel
theorem dX4_isReady_12 : decode cX4_isReady 12 = .ok (.iload_n 1, 1) := by decide +kernel
theorem dX4_isReady_13 : decode cX4_isReady 13 = .ok (.iaload, 1) := by decide +kernel
theorem dX4_isReady_14 : decode cX4_isReady 14 = .ok (.aload_n 0, 1) := by decide +kernel
theorem dX4_isReady_15 : decode cX4_isReady 15 = .ok (.getfield 18, 3) := by decide +kernel
theorem dX4_isReady_18 : decode cX4_isReady 18 = .ok (.if_icmp .ne 5, 3) := by decide +kernel
theorem dX4_isReady_21 : decode cX4_isReady 21 = .ok (.iconst 0, 1) := by decide +kernel
theorem dX4_isReady_22 : decode cX4_isReady 22 = .ok (.ireturn, 1) := by decide +kernel
theorem dX4_isReady_23 : decode cX4_isReady 23 = .ok (.iinc 1 1, 3) := by decide +kernel
theorem dX4_isReady_26 : decode cX4_isReady 26 = .ok (.goto (-24), 3) := by decide +kernel
theorem dX4_isReady_29 : decode cX4_isReady 29 = .ok (.aload_n 0, 1) := by decide +kernel
theorem dX4_isReady_30 : decode cX4_isReady 30 = .ok (.getfield 22, 3) := by decide +kernel
theorem dX4_isReady_33 : decode cX4_isReady 33 = .ok (.ireturn, 1) := by decide +kernel
theorem dX4_third_0 : decode cX4_third 0 = .ok (.iconst 0, 1) := by decide +kernel
theorem dX4_third_1 : decode cX4_third 1 = .ok (.istore 5, 2) := by decide +kernel
theorem dX4_third_3 : decode cX4_third 3 = .ok (.iconst 0, 1) := by decide +kernel
theorem dX4_third_4 : decode cX4_third 4 = .ok (.istore 6, 2) := by decide +kernel
theorem dX4_third_6 : decode cX4_third 6 = .ok (.iload 6, 2) := by decide +kernel
theorem dX4_third_8 : decode cX4_third 8 = .ok (.aload_n 3, 1) := by decide +kernel
theorem dX4_third_9 : decode cX4_third 9 = .ok (.arraylength, 1) := by decide +kernel
theorem dX4_third_10 : decode cX4_third 10 = .ok (.if_icmp .ge 33, 3) := by decide +kernel
theorem dX4_third_13 : decode cX4_third 13 = .ok (.iload 5, 2) := by decide +kernel
theorem dX4_third_15 : decode cX4_third 15 = .ok (.aload_n 0, 1) := by decide +kernel
theorem dX4_third_16 : decode cX4_third 16 = .ok (.aload_n 1, 1) := by decide +kernel
theorem dX4_third_17 : decode cX4_third 17 = .ok (.aload_n 3, 1) := by decide +kernel
theorem dX4_third_18 : decode cX4_third 18 = .ok (.iload 6, 2) := by decide +kernel
theorem dX4_third_20 : decode cX4_third 20 = .ok (.iaload, 1) := by decide +kernel
theorem dX4_third_21 : decode cX4_third 21 = .ok (.iload_n 2, 1) := by decide +kernel
theorem dX4_third_22 : decode cX4_third 22 = .ok (.iadd, 1) := by decide +kernel
theorem dX4_third_23 : decode cX4_third 23 = .ok (.bipush 6, 2) := by decide +kernel
theorem dX4_third_25 : decode cX4_third 25 = .ok (.invokestatic 26, 3) := by decide +kernel
theorem dX4_third_28 : decode cX4_third 28 = .ok (.iaload, 1) := by decide +kernel
theorem dX4_third_29 : decode cX4_third 29 = .ok (.iload 4, 2) := by decide +kernel
theorem dX4_third_31 : decode cX4_third 31 = .ok (.invokevirtual 32, 3) := by decide +kernel
theorem dX4_third_34 : decode cX4_third 34 = .ok (.iadd, 1) := by decide +kernel
theorem dX4_third_35 : decode cX4_third 35 = .ok (.istore 5, 2) := by decide +kernel
theorem dX4_third_37 : decode cX4_third 37 = .ok (.iinc 6 1, 3) := by decide +kernel
theorem dX4_third_40 : decode cX4_third 40 = .ok (.goto (-34), 3) := by decide +kernel
theorem dX4_third_43 : decode cX4_third 43 = .ok (.iload 5, 2) := by decide +kernel
theorem dX4_third_45 : decode cX4_third 45 = .ok (.iconst 3, 1) := by decide +kernel
theorem dX4_third_46 : decode cX4_third 46 = .ok (.idiv, 1) := by decide +kernel
theorem dX4_third_47 : decode cX4_third 47 = .ok (.ireturn, 1) := by decide +kernel
theorem dX5_init_0 : decode cX5_init 0 = .ok (.aload_n 0, 1) := by decide +kernel
theorem dX5_init_1 : decode cX5_init 1 = .ok (.invokespecial 3, 3) := by decide +kernel
theorem dX5_init_4 : decode cX5_init 4 = .ok (.aload_n 0, 1) := by decide +kernel
theorem dX5_init_5 : decode cX5_init 5 = .ok (.bipush 6, 2) := by decide +kernel
theorem dX5_init_7 : decode cX5_init 7 = .ok (.newarray .int, 2) := by decide +kernel
theorem dX5_init_9 : decode cX5_init 9 = .ok (.putfield 9, 3) := by decide +kernel
theorem dX5_init_12 : decode cX5_init 12 = .ok (.aload_n 0, 1) := by decide +kernel
theorem dX5_init_13 : decode cX5_init 13 = .ok (.bipush 6, 2) := by decide +kernel
theorem dX5_init_15 : decode cX5_init 15 = .ok (.newarray .int, 2) := by decide +kernel
theorem dX5_init_17 : decode cX5_init 17 = .ok (.putfield 15, 3) := by decide +kernel
theorem dX5_init_20 : decode cX5_init 20 = .ok (.return_, 1) := by decide +kernel
theorem dX5_stand_0 : decode cX5_stand 0 = .ok (.getstatic 18, 3) := by decide +kernel
theorem dX5_stand_3 : decode cX5_stand 3 = .ok (.iconst 0, 1) := by decide +kernel
theorem dX5_stand_4 : decode cX5_stand 4 = .ok (.aload_n 0, 1) := by decide +kernel
theorem dX5_stand_5 : decode cX5_stand 5 = .ok (.getfield 9, 3) := by decide +kernel
theorem dX5_stand_8 : decode cX5_stand 8 = .ok (.iconst 0, 1) := by decide +kernel
theorem dX5_stand_9 : decode cX5_stand 9 = .ok (.bipush 6, 2) := by decide +kernel
theorem dX5_stand_11 : decode cX5_stand 11 = .ok (.invokestatic 21, 3) := by decide +kernel
theorem dX5_stand_14 : decode cX5_stand 14 = .ok (.getstatic 27, 3) := by decide +kernel
theorem dX5_stand_17 : decode cX5_stand 17 = .ok (.iconst 0, 1) := by decide +kernel
theorem dX5_stand_18 : decode cX5_stand 18 = .ok (.aload_n 0, 1) := by decide +kernel
theorem dX5_stand_19 : decode cX5_stand 19 = .ok (.getfield 15, 3) := by decide +kernel
theorem dX5_stand_22 : decode cX5_stand 22 = .ok (.iconst 0, 1) := by decide +kernel
theorem dX5_stand_23 : decode cX5_stand 23 = .ok (.bipush 6, 2) := by decide +kernel
theorem dX5_stand_25 : decode cX5_stand 25 = .ok (.invokestatic 21, 3) := by decide +kernel
theorem dX5_stand_28 : decode cX5_stand 28 = .ok (.return_, 1) := by decide +kernel
theorem dX5_put_0 : decode cX5_put 0 = .ok (.iload_n 1, 1) := by decide +kernel
theorem dX5_put_1 : decode cX5_put 1 = .ok (.ifCond .lt 23, 3) := by decide +kernel
theorem dX5_put_4 : decode cX5_put 4 = .ok (.iload_n 1, 1) := by decide +kernel
theorem dX5_put_5 : decode cX5_put 5 = .ok (.bipush 6, 2) := by decide +kernel
theorem dX5_put_7 : decode cX5_put 7 = .ok (.if_icmp .ge 17, 3) := by decide +kernel
theorem dX5_put_10 : decode cX5_put 10 = .ok (.aload_n 0, 1) := by decide +kernel
theorem dX5_put_11 : decode cX5_put 11 = .ok (.getfield 9, 3) := by decide +kernel
theorem dX5_put_14 : decode cX5_put 14 = .ok (.iload_n 1, 1) := by decide +kernel
theorem dX5_put_15 : decode cX5_put 15 = .ok (.iload_n 2, 1) := by decide +kernel
theorem dX5_put_16 : decode cX5_put 16 = .ok (.iastore, 1) := by decide +kernel
theorem dX5_put_17 : decode cX5_put 17 = .ok (.aload_n 0, 1) := by decide +kernel
theorem dX5_put_18 : decode cX5_put 18 = .ok (.getfield 15, 3) := by decide +kernel
theorem dX5_put_21 : decode cX5_put 21 = .ok (.iload_n 1, 1) := by decide +kernel
theorem dX5_put_22 : decode cX5_put 22 = .ok (.iload_n 3, 1) := by decide +kernel
theorem dX5_put_23 : decode cX5_put 23 = .ok (.iastore, 1) := by decide +kernel
theorem dX5_put_24 : decode cX5_put 24 = .ok (.return_, 1) := by decide +kernel
theorem dX5_firstBroken_0 : decode cX5_firstBroken 0 = .ok (.iconst 0, 1) := by decide +kernel
theorem dX5_firstBroken_1 : decode cX5_firstBroken 1 = .ok (.istore_n 2, 1) := by decide +kernel
theorem dX5_firstBroken_2 : decode cX5_firstBroken 2 = .ok (.iload_n 2, 1) := by decide +kernel
theorem dX5_firstBroken_3 : decode cX5_firstBroken 3 = .ok (.getstatic 30, 3) := by decide +kernel
theorem dX5_firstBroken_6 : decode cX5_firstBroken 6 = .ok (.arraylength, 1) := by decide +kernel
theorem dX5_firstBroken_7 : decode cX5_firstBroken 7 = .ok (.if_icmp .ge 70, 3) := by decide +kernel
theorem dX5_firstBroken_10 : decode cX5_firstBroken 10 = .ok (.iload_n 1, 1) := by decide +kernel
theorem dX5_firstBroken_11 : decode cX5_firstBroken 11 = .ok (.ifCond .eq 11, 3) := by decide +kernel
theorem dX5_firstBroken_14 : decode cX5_firstBroken 14 = .ok (.getstatic 33, 3) := by decide +kernel
theorem dX5_firstBroken_17 : decode cX5_firstBroken 17 = .ok (.iload_n 2, 1) := by decide +kernel
theorem dX5_firstBroken_18 : decode cX5_firstBroken 18 = .ok (.iaload, 1) := by decide +kernel
theorem dX5_firstBroken_19 : decode cX5_firstBroken 19 = .ok (.ifCond .eq 7, 3) := by decide +kernel
theorem dX5_firstBroken_22 : decode cX5_firstBroken 22 = .ok (.iconst 1, 1) := by decide +kernel
theorem dX5_firstBroken_23 : decode cX5_firstBroken 23 = .ok (.goto 4, 3) := by decide +kernel
theorem dX5_firstBroken_26 : decode cX5_firstBroken 26 = .ok (.iconst 0, 1) := by decide +kernel
theorem dX5_firstBroken_27 : decode cX5_firstBroken 27 = .ok (.istore_n 3, 1) := by decide +kernel
theorem dX5_firstBroken_28 : decode cX5_firstBroken 28 = .ok (.iload_n 2, 1) := by decide +kernel
theorem dX5_firstBroken_29 : decode cX5_firstBroken 29 = .ok (.iconst 3, 1) := by decide +kernel
theorem dX5_firstBroken_30 : decode cX5_firstBroken 30 = .ok (.if_icmp .ge 10, 3) := by decide +kernel
theorem dX5_firstBroken_33 : decode cX5_firstBroken 33 = .ok (.aload_n 0, 1) := by decide +kernel
theorem dX5_firstBroken_34 : decode cX5_firstBroken 34 = .ok (.getfield 15, 3) := by decide +kernel
theorem dX5_firstBroken_37 : decode cX5_firstBroken 37 = .ok (.goto 7, 3) := by decide +kernel
theorem dX5_firstBroken_40 : decode cX5_firstBroken 40 = .ok (.aload_n 0, 1) := by decide +kernel
theorem dX5_firstBroken_41 : decode cX5_firstBroken 41 = .ok (.getfield 9, 3) := by decide +kernel
theorem dX5_firstBroken_44 : decode cX5_firstBroken 44 = .ok (.astore 4, 2) := by decide +kernel
theorem dX5_firstBroken_46 : decode cX5_firstBroken 46 = .ok (.iload_n 3, 1) := by decide +kernel
theorem dX5_firstBroken_47 : decode cX5_firstBroken 47 = .ok (.ifCond .eq 24, 3) := by decide +kernel
theorem dX5_firstBroken_50 : decode cX5_firstBroken 50 = .ok (.aload 4, 2) := by decide +kernel
theorem dX5_firstBroken_52 : decode cX5_firstBroken 52 = .ok (.getstatic 30, 3) := by decide +kernel
theorem dX5_firstBroken_55 : decode cX5_firstBroken 55 = .ok (.iload_n 2, 1) := by decide +kernel
theorem dX5_firstBroken_56 : decode cX5_firstBroken 56 = .ok (.iaload, 1) := by decide +kernel
theorem dX5_firstBroken_57 : decode cX5_firstBroken 57 = .ok (.iaload, 1) := by decide +kernel
theorem dX5_firstBroken_58 : decode cX5_firstBroken 58 = .ok (.aload 4, 2) := by decide +kernel
theorem dX5_firstBroken_60 : decode cX5_firstBroken 60 = .ok (.getstatic 33, 3) := by decide +kernel
theorem dX5_firstBroken_63 : decode cX5_firstBroken 63 = .ok (.iload_n 2, 1) := by decide +kernel
theorem dX5_firstBroken_64 : decode cX5_firstBroken 64 = .ok (.iaload, 1) := by decide +kernel
theorem dX5_firstBroken_65 : decode cX5_firstBroken 65 = .ok (.iaload, 1) := by decide +kernel
theorem dX5_firstBroken_66 : decode cX5_firstBroken 66 = .ok (.if_icmp .lt 5, 3) := by decide +kernel
theorem dX5_firstBroken_69 : decode cX5_firstBroken 69 = .ok (.iload_n 2, 1) := by decide +kernel
theorem dX5_firstBroken_70 : decode cX5_firstBroken 70 = .ok (.ireturn, 1) := by decide +kernel
theorem dX5_firstBroken_71 : decode cX5_firstBroken 71 = .ok (.iinc 2 1, 3) := by decide +kernel
theorem dX5_firstBroken_74 : decode cX5_firstBroken 74 = .ok (.goto (-72), 3) := by decide +kernel
theorem dX5_firstBroken_77 : decode cX5_firstBroken 77 = .ok (.bipush (-2), 2) := by decide +kernel
theorem dX5_firstBroken_79 : decode cX5_firstBroken 79 = .ok (.ireturn, 1) := by decide +kernel
theorem dX6_init_0 : decode cX6_init 0 = .ok (.aload_n 0, 1) := by decide +kernel
theorem dX6_init_1 : decode cX6_init 1 = .ok (.invokespecial 3, 3) := by decide +kernel
theorem dX6_init_4 : decode cX6_init 4 = .ok (.aload_n 0, 1) := by decide +kernel
theorem dX6_init_5 : decode cX6_init 5 = .ok (.bipush 100, 2) := by decide +kernel
theorem dX6_init_7 : decode cX6_init 7 = .ok (.newarray .char, 2) := by decide +kernel
theorem dX6_init_9 : decode cX6_init 9 = .ok (.putfield 11, 3) := by decide +kernel
theorem dX6_init_12 : decode cX6_init 12 = .ok (.aload_n 0, 1) := by decide +kernel
theorem dX6_init_13 : decode cX6_init 13 = .ok (.iconst 0, 1) := by decide +kernel
theorem dX6_init_14 : decode cX6_init 14 = .ok (.putfield 15, 3) := by decide +kernel
theorem dX6_init_17 : decode cX6_init 17 = .ok (.return_, 1) := by decide +kernel
theorem dX6_append_0 : decode cX6_append 0 = .ok (.aload_n 0, 1) := by decide +kernel
theorem dX6_append_1 : decode cX6_append 1 = .ok (.getfield 15, 3) := by decide +kernel
theorem dX6_append_4 : decode cX6_append 4 = .ok (.ifCond .lt 32, 3) := by decide +kernel
theorem dX6_append_7 : decode cX6_append 7 = .ok (.aload_n 0, 1) := by decide +kernel
theorem dX6_append_8 : decode cX6_append 8 = .ok (.getfield 15, 3) := by decide +kernel
theorem dX6_append_11 : decode cX6_append 11 = .ok (.bipush 100, 2) := by decide +kernel
theorem dX6_append_13 : decode cX6_append 13 = .ok (.if_icmp .ge 23, 3) := by decide +kernel
theorem dX6_append_16 : decode cX6_append 16 = .ok (.aload_n 0, 1) := by decide +kernel
theorem dX6_append_17 : decode cX6_append 17 = .ok (.getfield 11, 3) := by decide +kernel
theorem dX6_append_20 : decode cX6_append 20 = .ok (.aload_n 0, 1) := by decide +kernel
theorem dX6_append_21 : decode cX6_append 21 = .ok (.getfield 15, 3) := by decide +kernel
theorem dX6_append_24 : decode cX6_append 24 = .ok (.iload_n 1, 1) := by decide +kernel
theorem dX6_append_25 : decode cX6_append 25 = .ok (.castore, 1) := by decide +kernel
theorem dX6_append_26 : decode cX6_append 26 = .ok (.aload_n 0, 1) := by decide +kernel
theorem dX6_append_27 : decode cX6_append 27 = .ok (.dup, 1) := by decide +kernel
theorem dX6_append_28 : decode cX6_append 28 = .ok (.getfield 15, 3) := by decide +kernel
theorem dX6_append_31 : decode cX6_append 31 = .ok (.iconst 1, 1) := by decide +kernel
theorem dX6_append_32 : decode cX6_append 32 = .ok (.iadd, 1) := by decide +kernel
theorem dX6_append_33 : decode cX6_append 33 = .ok (.putfield 15, 3) := by decide +kernel
theorem dX6_append_36 : decode cX6_append 36 = .ok (.return_, 1) := by decide +kernel
theorem dX6_signAt_0 : decode cX6_signAt 0 = .ok (.iload_n 1, 1) := by decide +kernel
theorem dX6_signAt_1 : decode cX6_signAt 1 = .ok (.ifCond .lt 18, 3) := by decide +kernel
theorem dX6_signAt_4 : decode cX6_signAt 4 = .ok (.iload_n 1, 1) := by decide +kernel
theorem dX6_signAt_5 : decode cX6_signAt 5 = .ok (.bipush 100, 2) := by decide +kernel
theorem dX6_signAt_7 : decode cX6_signAt 7 = .ok (.if_icmp .ge 12, 3) := by decide +kernel
theorem dX6_signAt_10 : decode cX6_signAt 10 = .ok (.aload_n 0, 1) := by decide +kernel
theorem dX6_signAt_11 : decode cX6_signAt 11 = .ok (.getfield 11, 3) := by decide +kernel
theorem dX6_signAt_14 : decode cX6_signAt 14 = .ok (.iload_n 1, 1) := by decide +kernel
theorem dX6_signAt_15 : decode cX6_signAt 15 = .ok (.caload, 1) := by decide +kernel
theorem dX6_signAt_16 : decode cX6_signAt 16 = .ok (.goto 4, 3) := by decide +kernel
theorem dX6_signAt_19 : decode cX6_signAt 19 = .ok (.iconst 0, 1) := by decide +kernel
theorem dX6_signAt_20 : decode cX6_signAt 20 = .ok (.ireturn, 1) := by decide +kernel
theorem dX6_playerOf_0 : decode cX6_playerOf 0 = .ok (.iload_n 0, 1) := by decide +kernel
theorem dX6_playerOf_1 : decode cX6_playerOf 1 = .ok (.bipush 48, 2) := by decide +kernel
theorem dX6_playerOf_3 : decode cX6_playerOf 3 = .ok (.if_icmp .lt 14, 3) := by decide +kernel
theorem dX6_playerOf_6 : decode cX6_playerOf 6 = .ok (.iload_n 0, 1) := by decide +kernel
theorem dX6_playerOf_7 : decode cX6_playerOf 7 = .ok (.bipush 57, 2) := by decide +kernel
theorem dX6_playerOf_9 : decode cX6_playerOf 9 = .ok (.if_icmp .gt 8, 3) := by decide +kernel
theorem dX6_playerOf_12 : decode cX6_playerOf 12 = .ok (.iload_n 0, 1) := by decide +kernel
theorem dX6_playerOf_13 : decode cX6_playerOf 13 = .ok (.bipush 48, 2) := by decide +kernel
theorem dX6_playerOf_15 : decode cX6_playerOf 15 = .ok (.isub, 1) := by decide +kernel
theorem dX6_playerOf_16 : decode cX6_playerOf 16 = .ok (.ireturn, 1) := by decide +kernel
theorem dX6_playerOf_17 : decode cX6_playerOf 17 = .ok (.iload_n 0, 1) := by decide +kernel
theorem dX6_playerOf_18 : decode cX6_playerOf 18 = .ok (.bipush 120, 2) := by decide +kernel
theorem dX6_playerOf_20 : decode cX6_playerOf 20 = .ok (.if_icmp .ne 6, 3) := by decide +kernel
theorem dX6_playerOf_23 : decode cX6_playerOf 23 = .ok (.bipush 10, 2) := by decide +kernel
theorem dX6_playerOf_25 : decode cX6_playerOf 25 = .ok (.ireturn, 1) := by decide +kernel
theorem dX6_playerOf_26 : decode cX6_playerOf 26 = .ok (.iload_n 0, 1) := by decide +kernel
theorem dX6_playerOf_27 : decode cX6_playerOf 27 = .ok (.bipush 121, 2) := by decide +kernel
theorem dX6_playerOf_29 : decode cX6_playerOf 29 = .ok (.if_icmp .ne 8, 3) := by decide +kernel
theorem dX6_playerOf_32 : decode cX6_playerOf 32 = .ok (.bipush 11, 2) := by decide +kernel
theorem dX6_playerOf_34 : decode cX6_playerOf 34 = .ok (.goto 4, 3) := by decide +kernel
theorem dX6_playerOf_37 : decode cX6_playerOf 37 = .ok (.iconst (-1), 1) := by decide +kernel
theorem dX6_playerOf_38 : decode cX6_playerOf 38 = .ok (.ireturn, 1) := by decide +kernel
theorem dX6_firstFault_0 : decode cX6_firstFault 0 = .ok (.iload_n 1, 1) := by decide +kernel
theorem dX6_firstFault_1 : decode cX6_firstFault 1 = .ok (.bipush 80, 2) := by decide +kernel
theorem dX6_firstFault_3 : decode cX6_firstFault 3 = .ok (.invokestatic 19, 3) := by decide +kernel
theorem dX6_firstFault_6 : decode cX6_firstFault 6 = .ok (.istore_n 2, 1) := by decide +kernel
theorem dX6_firstFault_7 : decode cX6_firstFault 7 = .ok (.iconst 0, 1) := by decide +kernel
theorem dX6_firstFault_8 : decode cX6_firstFault 8 = .ok (.istore_n 3, 1) := by decide +kernel
theorem dX6_firstFault_9 : decode cX6_firstFault 9 = .ok (.iload_n 3, 1) := by decide +kernel
theorem dX6_firstFault_10 : decode cX6_firstFault 10 = .ok (.iload_n 2, 1) := by decide +kernel
theorem dX6_firstFault_11 : decode cX6_firstFault 11 = .ok (.if_icmp .ge 40, 3) := by decide +kernel
theorem dX6_firstFault_14 : decode cX6_firstFault 14 = .ok (.aload_n 0, 1) := by decide +kernel
theorem dX6_firstFault_15 : decode cX6_firstFault 15 = .ok (.iload_n 3, 1) := by decide +kernel
theorem dX6_firstFault_16 : decode cX6_firstFault 16 = .ok (.invokevirtual 25, 3) := by decide +kernel
theorem dX6_firstFault_19 : decode cX6_firstFault 19 = .ok (.istore 4, 2) := by decide +kernel
theorem dX6_firstFault_21 : decode cX6_firstFault 21 = .ok (.iload 4, 2) := by decide +kernel
theorem dX6_firstFault_23 : decode cX6_firstFault 23 = .ok (.iconst (-1), 1) := by decide +kernel
theorem dX6_firstFault_24 : decode cX6_firstFault 24 = .ok (.if_icmp .eq 12, 3) := by decide +kernel
theorem dX6_firstFault_27 : decode cX6_firstFault 27 = .ok (.iload 4, 2) := by decide +kernel
theorem dX6_firstFault_29 : decode cX6_firstFault 29 = .ok (.iload_n 2, 1) := by decide +kernel
theorem dX6_firstFault_30 : decode cX6_firstFault 30 = .ok (.if_icmp .ge 6, 3) := by decide +kernel
theorem dX6_firstFault_33 : decode cX6_firstFault 33 = .ok (.iload 4, 2) := by decide +kernel
theorem dX6_firstFault_35 : decode cX6_firstFault 35 = .ok (.ireturn, 1) := by decide +kernel
theorem dX6_firstFault_36 : decode cX6_firstFault 36 = .ok (.iload_n 3, 1) := by decide +kernel
theorem dX6_firstFault_37 : decode cX6_firstFault 37 = .ok (.iconst 1, 1) := by decide +kernel
theorem dX6_firstFault_38 : decode cX6_firstFault 38 = .ok (.aload_n 0, 1) := by decide +kernel
theorem dX6_firstFault_39 : decode cX6_firstFault 39 = .ok (.iload_n 3, 1) := by decide +kernel
theorem dX6_firstFault_40 : decode cX6_firstFault 40 = .ok (.invokevirtual 29, 3) := by decide +kernel
theorem dX6_firstFault_43 : decode cX6_firstFault 43 = .ok (.invokestatic 32, 3) := by decide +kernel
theorem dX6_firstFault_46 : decode cX6_firstFault 46 = .ok (.iadd, 1) := by decide +kernel
theorem dX6_firstFault_47 : decode cX6_firstFault 47 = .ok (.istore_n 3, 1) := by decide +kernel
theorem dX6_firstFault_48 : decode cX6_firstFault 48 = .ok (.goto (-39), 3) := by decide +kernel
theorem dX6_firstFault_51 : decode cX6_firstFault 51 = .ok (.iload_n 3, 1) := by decide +kernel
theorem dX6_firstFault_52 : decode cX6_firstFault 52 = .ok (.iload_n 2, 1) := by decide +kernel
theorem dX6_firstFault_53 : decode cX6_firstFault 53 = .ok (.if_icmp .gt 9, 3) := by decide +kernel
theorem dX6_firstFault_56 : decode cX6_firstFault 56 = .ok (.iload_n 1, 1) := by decide +kernel
theorem dX6_firstFault_57 : decode cX6_firstFault 57 = .ok (.bipush 80, 2) := by decide +kernel
theorem dX6_firstFault_59 : decode cX6_firstFault 59 = .ok (.if_icmp .le 7, 3) := by decide +kernel
theorem dX6_firstFault_62 : decode cX6_firstFault 62 = .ok (.iload_n 2, 1) := by decide +kernel
theorem dX6_firstFault_63 : decode cX6_firstFault 63 = .ok (.goto 4, 3) := by decide +kernel
theorem dX6_firstFault_66 : decode cX6_firstFault 66 = .ok (.iconst (-1), 1) := by decide +kernel
theorem dX6_firstFault_67 : decode cX6_firstFault 67 = .ok (.ireturn, 1) := by decide +kernel
theorem dX6_faultInItem_0 : decode cX6_faultInItem 0 = .ok (.aload_n 0, 1) := by decide +kernel
theorem dX6_faultInItem_1 : decode cX6_faultInItem 1 = .ok (.iload_n 1, 1) := by decide +kernel
theorem dX6_faultInItem_2 : decode cX6_faultInItem 2 = .ok (.invokevirtual 35, 3) := by decide +kernel
theorem dX6_faultInItem_5 : decode cX6_faultInItem 5 = .ok (.istore_n 2, 1) := by decide +kernel
theorem dX6_faultInItem_6 : decode cX6_faultInItem 6 = .ok (.iload_n 2, 1) := by decide +kernel
theorem dX6_faultInItem_7 : decode cX6_faultInItem 7 = .ok (.bipush 65, 2) := by decide +kernel
theorem dX6_faultInItem_9 : decode cX6_faultInItem 9 = .ok (.if_icmp .eq 9, 3) := by decide +kernel
theorem dX6_faultInItem_12 : decode cX6_faultInItem 12 = .ok (.iload_n 2, 1) := by decide +kernel
theorem dX6_faultInItem_13 : decode cX6_faultInItem 13 = .ok (.bipush 66, 2) := by decide +kernel
theorem dX6_faultInItem_15 : decode cX6_faultInItem 15 = .ok (.if_icmp .ne 5, 3) := by decide +kernel
theorem dX6_faultInItem_18 : decode cX6_faultInItem 18 = .ok (.iconst (-1), 1) := by decide +kernel
theorem dX6_faultInItem_19 : decode cX6_faultInItem 19 = .ok (.ireturn, 1) := by decide +kernel
theorem dX6_faultInItem_20 : decode cX6_faultInItem 20 = .ok (.iload_n 2, 1) := by decide +kernel
theorem dX6_faultInItem_21 : decode cX6_faultInItem 21 = .ok (.bipush 97, 2) := by decide +kernel
theorem dX6_faultInItem_23 : decode cX6_faultInItem 23 = .ok (.if_icmp .eq 11, 3) := by decide +kernel
theorem dX6_faultInItem_26 : decode cX6_faultInItem 26 = .ok (.iload_n 2, 1) := by decide +kernel
theorem dX6_faultInItem_27 : decode cX6_faultInItem 27 = .ok (.bipush 98, 2) := by decide +kernel
theorem dX6_faultInItem_29 : decode cX6_faultInItem 29 = .ok (.if_icmp .eq 5, 3) := by decide +kernel
theorem dX6_faultInItem_32 : decode cX6_faultInItem 32 = .ok (.iload_n 1, 1) := by decide +kernel
theorem dX6_faultInItem_33 : decode cX6_faultInItem 33 = .ok (.ireturn, 1) := by decide +kernel
theorem dX6_faultInItem_34 : decode cX6_faultInItem 34 = .ok (.aload_n 0, 1) := by decide +kernel
theorem dX6_faultInItem_35 : decode cX6_faultInItem 35 = .ok (.iload_n 1, 1) := by decide +kernel
theorem dX6_faultInItem_36 : decode cX6_faultInItem 36 = .ok (.iconst 1, 1) := by decide +kernel
theorem dX6_faultInItem_37 : decode cX6_faultInItem 37 = .ok (.iadd, 1) := by decide +kernel
theorem dX6_faultInItem_38 : decode cX6_faultInItem 38 = .ok (.invokevirtual 35, 3) := by decide +kernel
theorem dX6_faultInItem_41 : decode cX6_faultInItem 41 = .ok (.istore_n 3, 1) := by decide +kernel
theorem dX6_faultInItem_42 : decode cX6_faultInItem 42 = .ok (.iload_n 3, 1) := by decide +kernel
theorem dX6_faultInItem_43 : decode cX6_faultInItem 43 = .ok (.bipush 33, 2) := by decide +kernel
theorem dX6_faultInItem_45 : decode cX6_faultInItem 45 = .ok (.if_icmp .eq 9, 3) := by decide +kernel
theorem dX6_faultInItem_48 : decode cX6_faultInItem 48 = .ok (.iload_n 3, 1) := by decide +kernel
theorem dX6_faultInItem_49 : decode cX6_faultInItem 49 = .ok (.bipush 45, 2) := by decide +kernel
theorem dX6_faultInItem_51 : decode cX6_faultInItem 51 = .ok (.if_icmp .ne 5, 3) := by decide +kernel
theorem dX6_faultInItem_54 : decode cX6_faultInItem 54 = .ok (.iconst (-1), 1) := by decide +kernel
theorem dX6_faultInItem_55 : decode cX6_faultInItem 55 = .ok (.ireturn, 1) := by decide +kernel
theorem dX6_faultInItem_56 : decode cX6_faultInItem 56 = .ok (.iload_n 3, 1) := by decide +kernel
theorem dX6_faultInItem_57 : decode cX6_faultInItem 57 = .ok (.bipush 42, 2) := by decide +kernel
theorem dX6_faultInItem_59 : decode cX6_faultInItem 59 = .ok (.if_icmp .eq 15, 3) := by decide +kernel
theorem dX6_faultInItem_62 : decode cX6_faultInItem 62 = .ok (.iload_n 3, 1) := by decide +kernel
theorem dX6_faultInItem_63 : decode cX6_faultInItem 63 = .ok (.invokestatic 39, 3) := by decide +kernel
theorem dX6_faultInItem_66 : decode cX6_faultInItem 66 = .ok (.iconst (-1), 1) := by decide +kernel
theorem dX6_faultInItem_67 : decode cX6_faultInItem 67 = .ok (.if_icmp .ne 7, 3) := by decide +kernel
theorem dX6_faultInItem_70 : decode cX6_faultInItem 70 = .ok (.iload_n 1, 1) := by decide +kernel
theorem dX6_faultInItem_71 : decode cX6_faultInItem 71 = .ok (.iconst 1, 1) := by decide +kernel
theorem dX6_faultInItem_72 : decode cX6_faultInItem 72 = .ok (.iadd, 1) := by decide +kernel
theorem dX6_faultInItem_73 : decode cX6_faultInItem 73 = .ok (.ireturn, 1) := by decide +kernel
theorem dX6_faultInItem_74 : decode cX6_faultInItem 74 = .ok (.aload_n 0, 1) := by decide +kernel
theorem dX6_faultInItem_75 : decode cX6_faultInItem 75 = .ok (.iload_n 1, 1) := by decide +kernel
theorem dX6_faultInItem_76 : decode cX6_faultInItem 76 = .ok (.iconst 2, 1) := by decide +kernel
theorem dX6_faultInItem_77 : decode cX6_faultInItem 77 = .ok (.iadd, 1) := by decide +kernel
theorem dX6_faultInItem_78 : decode cX6_faultInItem 78 = .ok (.invokevirtual 35, 3) := by decide +kernel
theorem dX6_faultInItem_81 : decode cX6_faultInItem 81 = .ok (.invokestatic 39, 3) := by decide +kernel
theorem dX6_faultInItem_84 : decode cX6_faultInItem 84 = .ok (.iconst (-1), 1) := by decide +kernel
theorem dX6_faultInItem_85 : decode cX6_faultInItem 85 = .ok (.if_icmp .ne 9, 3) := by decide +kernel
theorem dX6_faultInItem_88 : decode cX6_faultInItem 88 = .ok (.iload_n 1, 1) := by decide +kernel
theorem dX6_faultInItem_89 : decode cX6_faultInItem 89 = .ok (.iconst 2, 1) := by decide +kernel
theorem dX6_faultInItem_90 : decode cX6_faultInItem 90 = .ok (.iadd, 1) := by decide +kernel
theorem dX6_faultInItem_91 : decode cX6_faultInItem 91 = .ok (.goto 4, 3) := by decide +kernel
theorem dX6_faultInItem_94 : decode cX6_faultInItem 94 = .ok (.iconst (-1), 1) := by decide +kernel
theorem dX6_faultInItem_95 : decode cX6_faultInItem 95 = .ok (.ireturn, 1) := by decide +kernel
theorem dX6_itemLength_0 : decode cX6_itemLength 0 = .ok (.aload_n 0, 1) := by decide +kernel
theorem dX6_itemLength_1 : decode cX6_itemLength 1 = .ok (.iload_n 1, 1) := by decide +kernel
theorem dX6_itemLength_2 : decode cX6_itemLength 2 = .ok (.invokevirtual 35, 3) := by decide +kernel
theorem dX6_itemLength_5 : decode cX6_itemLength 5 = .ok (.istore_n 2, 1) := by decide +kernel
theorem dX6_itemLength_6 : decode cX6_itemLength 6 = .ok (.iload_n 2, 1) := by decide +kernel
theorem dX6_itemLength_7 : decode cX6_itemLength 7 = .ok (.bipush 97, 2) := by decide +kernel
theorem dX6_itemLength_9 : decode cX6_itemLength 9 = .ok (.if_icmp .eq 11, 3) := by decide +kernel
theorem dX6_itemLength_12 : decode cX6_itemLength 12 = .ok (.iload_n 2, 1) := by decide +kernel
theorem dX6_itemLength_13 : decode cX6_itemLength 13 = .ok (.bipush 98, 2) := by decide +kernel
theorem dX6_itemLength_15 : decode cX6_itemLength 15 = .ok (.if_icmp .eq 5, 3) := by decide +kernel
theorem dX6_itemLength_18 : decode cX6_itemLength 18 = .ok (.iconst 1, 1) := by decide +kernel
theorem dX6_itemLength_19 : decode cX6_itemLength 19 = .ok (.ireturn, 1) := by decide +kernel
theorem dX6_itemLength_20 : decode cX6_itemLength 20 = .ok (.aload_n 0, 1) := by decide +kernel
theorem dX6_itemLength_21 : decode cX6_itemLength 21 = .ok (.iload_n 1, 1) := by decide +kernel
theorem dX6_itemLength_22 : decode cX6_itemLength 22 = .ok (.iconst 1, 1) := by decide +kernel
theorem dX6_itemLength_23 : decode cX6_itemLength 23 = .ok (.iadd, 1) := by decide +kernel
theorem dX6_itemLength_24 : decode cX6_itemLength 24 = .ok (.invokevirtual 35, 3) := by decide +kernel
theorem dX6_itemLength_27 : decode cX6_itemLength 27 = .ok (.istore_n 3, 1) := by decide +kernel
theorem dX6_itemLength_28 : decode cX6_itemLength 28 = .ok (.iload_n 3, 1) := by decide +kernel
theorem dX6_itemLength_29 : decode cX6_itemLength 29 = .ok (.bipush 33, 2) := by decide +kernel
theorem dX6_itemLength_31 : decode cX6_itemLength 31 = .ok (.if_icmp .eq 9, 3) := by decide +kernel
theorem dX6_itemLength_34 : decode cX6_itemLength 34 = .ok (.iload_n 3, 1) := by decide +kernel
theorem dX6_itemLength_35 : decode cX6_itemLength 35 = .ok (.bipush 45, 2) := by decide +kernel
theorem dX6_itemLength_37 : decode cX6_itemLength 37 = .ok (.if_icmp .ne 7, 3) := by decide +kernel
theorem dX6_itemLength_40 : decode cX6_itemLength 40 = .ok (.iconst 2, 1) := by decide +kernel
theorem dX6_itemLength_41 : decode cX6_itemLength 41 = .ok (.goto 4, 3) := by decide +kernel
theorem dX6_itemLength_44 : decode cX6_itemLength 44 = .ok (.iconst 3, 1) := by decide +kernel
theorem dX6_itemLength_45 : decode cX6_itemLength 45 = .ok (.ireturn, 1) := by decide +kernel
theorem dJ6_bitCount_0f7a4_0 : decode cJ6_bitCount_0f7a4 0 = .ok (.iload_n 0, 1) := by decide +kernel
theorem dJ6_bitCount_0f7a4_1 : decode cJ6_bitCount_0f7a4 1 = .ok (.iload_n 0, 1) := by decide +kernel
theorem dJ6_bitCount_0f7a4_2 : decode cJ6_bitCount_0f7a4 2 = .ok (.iconst 1, 1) := by decide +kernel
theorem dJ6_bitCount_0f7a4_3 : decode cJ6_bitCount_0f7a4 3 = .ok (.iushr, 1) := by decide +kernel
theorem dJ6_bitCount_0f7a4_4 : decode cJ6_bitCount_0f7a4 4 = .ok (.ldc_w 265, 3) := by decide +kernel
theorem dJ6_bitCount_0f7a4_7 : decode cJ6_bitCount_0f7a4 7 = .ok (.iand, 1) := by decide +kernel
theorem dJ6_bitCount_0f7a4_8 : decode cJ6_bitCount_0f7a4 8 = .ok (.isub, 1) := by decide +kernel
theorem dJ6_bitCount_0f7a4_9 : decode cJ6_bitCount_0f7a4 9 = .ok (.istore_n 0, 1) := by decide +kernel
theorem dJ6_bitCount_0f7a4_10 : decode cJ6_bitCount_0f7a4 10 = .ok (.iload_n 0, 1) := by decide +kernel
theorem dJ6_bitCount_0f7a4_11 : decode cJ6_bitCount_0f7a4 11 = .ok (.ldc_w 266, 3) := by decide +kernel
theorem dJ6_bitCount_0f7a4_14 : decode cJ6_bitCount_0f7a4 14 = .ok (.iand, 1) := by decide +kernel
theorem dJ6_bitCount_0f7a4_15 : decode cJ6_bitCount_0f7a4 15 = .ok (.iload_n 0, 1) := by decide +kernel
theorem dJ6_bitCount_0f7a4_16 : decode cJ6_bitCount_0f7a4 16 = .ok (.iconst 2, 1) := by decide +kernel
theorem dJ6_bitCount_0f7a4_17 : decode cJ6_bitCount_0f7a4 17 = .ok (.iushr, 1) := by decide +kernel
theorem dJ6_bitCount_0f7a4_18 : decode cJ6_bitCount_0f7a4 18 = .ok (.ldc_w 266, 3) := by decide +kernel
theorem dJ6_bitCount_0f7a4_21 : decode cJ6_bitCount_0f7a4 21 = .ok (.iand, 1) := by decide +kernel
theorem dJ6_bitCount_0f7a4_22 : decode cJ6_bitCount_0f7a4 22 = .ok (.iadd, 1) := by decide +kernel
theorem dJ6_bitCount_0f7a4_23 : decode cJ6_bitCount_0f7a4 23 = .ok (.istore_n 0, 1) := by decide +kernel
theorem dJ6_bitCount_0f7a4_24 : decode cJ6_bitCount_0f7a4 24 = .ok (.iload_n 0, 1) := by decide +kernel
theorem dJ6_bitCount_0f7a4_25 : decode cJ6_bitCount_0f7a4 25 = .ok (.iload_n 0, 1) := by decide +kernel
theorem dJ6_bitCount_0f7a4_26 : decode cJ6_bitCount_0f7a4 26 = .ok (.iconst 4, 1) := by decide +kernel
theorem dJ6_bitCount_0f7a4_27 : decode cJ6_bitCount_0f7a4 27 = .ok (.iushr, 1) := by decide +kernel
theorem dJ6_bitCount_0f7a4_28 : decode cJ6_bitCount_0f7a4 28 = .ok (.iadd, 1) := by decide +kernel
theorem dJ6_bitCount_0f7a4_29 : decode cJ6_bitCount_0f7a4 29 = .ok (.ldc_w 267, 3) := by decide +kernel
theorem dJ6_bitCount_0f7a4_32 : decode cJ6_bitCount_0f7a4 32 = .ok (.iand, 1) := by decide +kernel
theorem dJ6_bitCount_0f7a4_33 : decode cJ6_bitCount_0f7a4 33 = .ok (.istore_n 0, 1) := by decide +kernel
theorem dJ6_bitCount_0f7a4_34 : decode cJ6_bitCount_0f7a4 34 = .ok (.iload_n 0, 1) := by decide +kernel
theorem dJ6_bitCount_0f7a4_35 : decode cJ6_bitCount_0f7a4 35 = .ok (.iload_n 0, 1) := by decide +kernel
theorem dJ6_bitCount_0f7a4_36 : decode cJ6_bitCount_0f7a4 36 = .ok (.bipush 8, 2) := by decide +kernel
theorem dJ6_bitCount_0f7a4_38 : decode cJ6_bitCount_0f7a4 38 = .ok (.iushr, 1) := by decide +kernel
theorem dJ6_bitCount_0f7a4_39 : decode cJ6_bitCount_0f7a4 39 = .ok (.iadd, 1) := by decide +kernel
theorem dJ6_bitCount_0f7a4_40 : decode cJ6_bitCount_0f7a4 40 = .ok (.istore_n 0, 1) := by decide +kernel
theorem dJ6_bitCount_0f7a4_41 : decode cJ6_bitCount_0f7a4 41 = .ok (.iload_n 0, 1) := by decide +kernel
theorem dJ6_bitCount_0f7a4_42 : decode cJ6_bitCount_0f7a4 42 = .ok (.iload_n 0, 1) := by decide +kernel
theorem dJ6_bitCount_0f7a4_43 : decode cJ6_bitCount_0f7a4 43 = .ok (.bipush 16, 2) := by decide +kernel
theorem dJ6_bitCount_0f7a4_45 : decode cJ6_bitCount_0f7a4 45 = .ok (.iushr, 1) := by decide +kernel
theorem dJ6_bitCount_0f7a4_46 : decode cJ6_bitCount_0f7a4 46 = .ok (.iadd, 1) := by decide +kernel
theorem dJ6_bitCount_0f7a4_47 : decode cJ6_bitCount_0f7a4 47 = .ok (.istore_n 0, 1) := by decide +kernel
theorem dJ6_bitCount_0f7a4_48 : decode cJ6_bitCount_0f7a4 48 = .ok (.iload_n 0, 1) := by decide +kernel
theorem dJ6_bitCount_0f7a4_49 : decode cJ6_bitCount_0f7a4 49 = .ok (.bipush 63, 2) := by decide +kernel
theorem dJ6_bitCount_0f7a4_51 : decode cJ6_bitCount_0f7a4 51 = .ok (.iand, 1) := by decide +kernel
theorem dJ6_bitCount_0f7a4_52 : decode cJ6_bitCount_0f7a4 52 = .ok (.ireturn, 1) := by decide +kernel
theorem dJ9_floorMod_7cf53_0 : decode cJ9_floorMod_7cf53 0 = .ok (.iload_n 0, 1) := by decide +kernel
theorem dJ9_floorMod_7cf53_1 : decode cJ9_floorMod_7cf53 1 = .ok (.iload_n 1, 1) := by decide +kernel
theorem dJ9_floorMod_7cf53_2 : decode cJ9_floorMod_7cf53 2 = .ok (.irem, 1) := by decide +kernel
theorem dJ9_floorMod_7cf53_3 : decode cJ9_floorMod_7cf53 3 = .ok (.istore_n 2, 1) := by decide +kernel
theorem dJ9_floorMod_7cf53_4 : decode cJ9_floorMod_7cf53 4 = .ok (.iload_n 0, 1) := by decide +kernel
theorem dJ9_floorMod_7cf53_5 : decode cJ9_floorMod_7cf53 5 = .ok (.iload_n 1, 1) := by decide +kernel
theorem dJ9_floorMod_7cf53_6 : decode cJ9_floorMod_7cf53 6 = .ok (.ixor, 1) := by decide +kernel
theorem dJ9_floorMod_7cf53_7 : decode cJ9_floorMod_7cf53 7 = .ok (.ifCond .ge 11, 3) := by decide +kernel
theorem dJ9_floorMod_7cf53_10 : decode cJ9_floorMod_7cf53 10 = .ok (.iload_n 2, 1) := by decide +kernel
theorem dJ9_floorMod_7cf53_11 : decode cJ9_floorMod_7cf53 11 = .ok (.ifCond .eq 7, 3) := by decide +kernel
theorem dJ9_floorMod_7cf53_14 : decode cJ9_floorMod_7cf53 14 = .ok (.iload_n 2, 1) := by decide +kernel
theorem dJ9_floorMod_7cf53_15 : decode cJ9_floorMod_7cf53 15 = .ok (.iload_n 1, 1) := by decide +kernel
theorem dJ9_floorMod_7cf53_16 : decode cJ9_floorMod_7cf53 16 = .ok (.iadd, 1) := by decide +kernel
theorem dJ9_floorMod_7cf53_17 : decode cJ9_floorMod_7cf53 17 = .ok (.ireturn, 1) := by decide +kernel
theorem dJ9_floorMod_7cf53_18 : decode cJ9_floorMod_7cf53 18 = .ok (.iload_n 2, 1) := by decide +kernel
theorem dJ9_floorMod_7cf53_19 : decode cJ9_floorMod_7cf53 19 = .ok (.ireturn, 1) := by decide +kernel
theorem dJ9_max_7cf53_0 : decode cJ9_max_7cf53 0 = .ok (.iload_n 0, 1) := by decide +kernel
theorem dJ9_max_7cf53_1 : decode cJ9_max_7cf53 1 = .ok (.iload_n 1, 1) := by decide +kernel
theorem dJ9_max_7cf53_2 : decode cJ9_max_7cf53 2 = .ok (.if_icmp .lt 7, 3) := by decide +kernel
theorem dJ9_max_7cf53_5 : decode cJ9_max_7cf53 5 = .ok (.iload_n 0, 1) := by decide +kernel
theorem dJ9_max_7cf53_6 : decode cJ9_max_7cf53 6 = .ok (.goto 4, 3) := by decide +kernel
theorem dJ9_max_7cf53_9 : decode cJ9_max_7cf53 9 = .ok (.iload_n 1, 1) := by decide +kernel
theorem dJ9_max_7cf53_10 : decode cJ9_max_7cf53 10 = .ok (.ireturn, 1) := by decide +kernel
theorem dJ9_min_7cf53_0 : decode cJ9_min_7cf53 0 = .ok (.iload_n 0, 1) := by decide +kernel
theorem dJ9_min_7cf53_1 : decode cJ9_min_7cf53 1 = .ok (.iload_n 1, 1) := by decide +kernel
theorem dJ9_min_7cf53_2 : decode cJ9_min_7cf53 2 = .ok (.if_icmp .gt 7, 3) := by decide +kernel
theorem dJ9_min_7cf53_5 : decode cJ9_min_7cf53 5 = .ok (.iload_n 0, 1) := by decide +kernel
theorem dJ9_min_7cf53_6 : decode cJ9_min_7cf53 6 = .ok (.goto 4, 3) := by decide +kernel
theorem dJ9_min_7cf53_9 : decode cJ9_min_7cf53 9 = .ok (.iload_n 1, 1) := by decide +kernel
theorem dJ9_min_7cf53_10 : decode cJ9_min_7cf53 10 = .ok (.ireturn, 1) := by decide +kernel
end
section
theorem dX7_init_0 : decode cX7_init 0 = .ok (.aload_n 0, 1) := by decide +kernel
theorem dX7_init_1 : decode cX7_init 1 = .ok (.invokespecial 1, 3) := by decide +kernel
theorem dX7_init_4 : decode cX7_init 4 = .ok (.aload_n 0, 1) := by decide +kernel
theorem dX7_init_5 : decode cX7_init 5 = .ok (.new 7, 3) := by decide +kernel
theorem dX7_init_8 : decode cX7_init 8 = .ok (.dup, 1) := by decide +kernel
theorem dX7_init_9 : decode cX7_init 9 = .ok (.invokespecial 9, 3) := by decide +kernel
theorem dX7_init_12 : decode cX7_init 12 = .ok (.putfield 10, 3) := by decide +kernel
theorem dX7_init_15 : decode cX7_init 15 = .ok (.aload_n 0, 1) := by decide +kernel
theorem dX7_init_16 : decode cX7_init 16 = .ok (.new 16, 3) := by decide +kernel
theorem dX7_init_19 : decode cX7_init 19 = .ok (.dup, 1) := by decide +kernel
theorem dX7_init_20 : decode cX7_init 20 = .ok (.invokespecial 18, 3) := by decide +kernel
theorem dX7_init_23 : decode cX7_init 23 = .ok (.putfield 19, 3) := by decide +kernel
theorem dX7_init_26 : decode cX7_init 26 = .ok (.aload_n 0, 1) := by decide +kernel
theorem dX7_init_27 : decode cX7_init 27 = .ok (.new 16, 3) := by decide +kernel
theorem dX7_init_30 : decode cX7_init 30 = .ok (.dup, 1) := by decide +kernel
theorem dX7_init_31 : decode cX7_init 31 = .ok (.invokespecial 18, 3) := by decide +kernel
theorem dX7_init_34 : decode cX7_init 34 = .ok (.putfield 23, 3) := by decide +kernel
theorem dX7_init_37 : decode cX7_init 37 = .ok (.aload_n 0, 1) := by decide +kernel
theorem dX7_init_38 : decode cX7_init 38 = .ok (.new 26, 3) := by decide +kernel
theorem dX7_init_41 : decode cX7_init 41 = .ok (.dup, 1) := by decide +kernel
theorem dX7_init_42 : decode cX7_init 42 = .ok (.invokespecial 28, 3) := by decide +kernel
theorem dX7_init_45 : decode cX7_init 45 = .ok (.putfield 29, 3) := by decide +kernel
theorem dX7_init_48 : decode cX7_init 48 = .ok (.aload_n 0, 1) := by decide +kernel
theorem dX7_init_49 : decode cX7_init 49 = .ok (.new 26, 3) := by decide +kernel
theorem dX7_init_52 : decode cX7_init 52 = .ok (.dup, 1) := by decide +kernel
theorem dX7_init_53 : decode cX7_init 53 = .ok (.invokespecial 28, 3) := by decide +kernel
theorem dX7_init_56 : decode cX7_init 56 = .ok (.putfield 33, 3) := by decide +kernel
theorem dX7_init_59 : decode cX7_init 59 = .ok (.aload_n 0, 1) := by decide +kernel
theorem dX7_init_60 : decode cX7_init 60 = .ok (.new 36, 3) := by decide +kernel
theorem dX7_init_63 : decode cX7_init 63 = .ok (.dup, 1) := by decide +kernel
theorem dX7_init_64 : decode cX7_init 64 = .ok (.invokespecial 38, 3) := by decide +kernel
theorem dX7_init_67 : decode cX7_init 67 = .ok (.putfield 39, 3) := by decide +kernel
theorem dX7_init_70 : decode cX7_init 70 = .ok (.aload_n 0, 1) := by decide +kernel
theorem dX7_init_71 : decode cX7_init 71 = .ok (.new 26, 3) := by decide +kernel
theorem dX7_init_74 : decode cX7_init 74 = .ok (.dup, 1) := by decide +kernel
theorem dX7_init_75 : decode cX7_init 75 = .ok (.invokespecial 28, 3) := by decide +kernel
theorem dX7_init_78 : decode cX7_init 78 = .ok (.putfield 43, 3) := by decide +kernel
theorem dX7_init_81 : decode cX7_init 81 = .ok (.aload_n 0, 1) := by decide +kernel
theorem dX7_init_82 : decode cX7_init 82 = .ok (.new 26, 3) := by decide +kernel
theorem dX7_init_85 : decode cX7_init 85 = .ok (.dup, 1) := by decide +kernel
theorem dX7_init_86 : decode cX7_init 86 = .ok (.invokespecial 28, 3) := by decide +kernel
theorem dX7_init_89 : decode cX7_init 89 = .ok (.putfield 46, 3) := by decide +kernel
theorem dX7_init_92 : decode cX7_init 92 = .ok (.aload_n 0, 1) := by decide +kernel
theorem dX7_init_93 : decode cX7_init 93 = .ok (.new 36, 3) := by decide +kernel
theorem dX7_init_96 : decode cX7_init 96 = .ok (.dup, 1) := by decide +kernel
theorem dX7_init_97 : decode cX7_init 97 = .ok (.invokespecial 38, 3) := by decide +kernel
theorem dX7_init_100 : decode cX7_init 100 = .ok (.putfield 49, 3) := by decide +kernel
theorem dX7_init_103 : decode cX7_init 103 = .ok (.aload_n 0, 1) := by decide +kernel
theorem dX7_init_104 : decode cX7_init 104 = .ok (.new 52, 3) := by decide +kernel
theorem dX7_init_107 : decode cX7_init 107 = .ok (.dup, 1) := by decide +kernel
theorem dX7_init_108 : decode cX7_init 108 = .ok (.invokespecial 54, 3) := by decide +kernel
theorem dX7_init_111 : decode cX7_init 111 = .ok (.putfield 55, 3) := by decide +kernel
theorem dX7_init_114 : decode cX7_init 114 = .ok (.aload_n 0, 1) := by decide +kernel
theorem dX7_init_115 : decode cX7_init 115 = .ok (.new 52, 3) := by decide +kernel
theorem dX7_init_118 : decode cX7_init 118 = .ok (.dup, 1) := by decide +kernel
theorem dX7_init_119 : decode cX7_init 119 = .ok (.invokespecial 54, 3) := by decide +kernel
theorem dX7_init_122 : decode cX7_init 122 = .ok (.putfield 59, 3) := by decide +kernel
theorem dX7_init_125 : decode cX7_init 125 = .ok (.aload_n 0, 1) := by decide +kernel
theorem dX7_init_126 : decode cX7_init 126 = .ok (.new 62, 3) := by decide +kernel
theorem dX7_init_129 : decode cX7_init 129 = .ok (.dup, 1) := by decide +kernel
theorem dX7_init_130 : decode cX7_init 130 = .ok (.invokespecial 64, 3) := by decide +kernel
theorem dX7_init_133 : decode cX7_init 133 = .ok (.putfield 65, 3) := by decide +kernel
theorem dX7_init_136 : decode cX7_init 136 = .ok (.aload_n 0, 1) := by decide +kernel
theorem dX7_init_137 : decode cX7_init 137 = .ok (.new 69, 3) := by decide +kernel
theorem dX7_init_140 : decode cX7_init 140 = .ok (.dup, 1) := by decide +kernel
theorem dX7_init_141 : decode cX7_init 141 = .ok (.invokespecial 71, 3) := by decide +kernel
theorem dX7_init_144 : decode cX7_init 144 = .ok (.putfield 72, 3) := by decide +kernel
theorem dX7_init_147 : decode cX7_init 147 = .ok (.aload_n 0, 1) := by decide +kernel
theorem dX7_init_148 : decode cX7_init 148 = .ok (.iconst 0, 1) := by decide +kernel
theorem dX7_init_149 : decode cX7_init 149 = .ok (.putfield 76, 3) := by decide +kernel
theorem dX7_init_152 : decode cX7_init 152 = .ok (.aload_n 0, 1) := by decide +kernel
theorem dX7_init_153 : decode cX7_init 153 = .ok (.iconst 0, 1) := by decide +kernel
theorem dX7_init_154 : decode cX7_init 154 = .ok (.putfield 80, 3) := by decide +kernel
theorem dX7_init_157 : decode cX7_init 157 = .ok (.return_, 1) := by decide +kernel
theorem dX7_skill_0 : decode cX7_skill 0 = .ok (.iload_n 1, 1) := by decide +kernel
theorem dX7_skill_1 : decode cX7_skill 1 = .ok (.invokestatic 83, 3) := by decide +kernel
theorem dX7_skill_4 : decode cX7_skill 4 = .ok (.ifCond .eq 31, 3) := by decide +kernel
theorem dX7_skill_7 : decode cX7_skill 7 = .ok (.iload_n 2, 1) := by decide +kernel
theorem dX7_skill_8 : decode cX7_skill 8 = .ok (.invokestatic 87, 3) := by decide +kernel
theorem dX7_skill_11 : decode cX7_skill 11 = .ok (.ifCond .eq 24, 3) := by decide +kernel
theorem dX7_skill_14 : decode cX7_skill 14 = .ok (.iload_n 3, 1) := by decide +kernel
theorem dX7_skill_15 : decode cX7_skill 15 = .ok (.ifCond .lt 20, 3) := by decide +kernel
theorem dX7_skill_18 : decode cX7_skill 18 = .ok (.iload_n 3, 1) := by decide +kernel
theorem dX7_skill_19 : decode cX7_skill 19 = .ok (.iconst 4, 1) := by decide +kernel
theorem dX7_skill_20 : decode cX7_skill 20 = .ok (.if_icmp .ge 15, 3) := by decide +kernel
theorem dX7_skill_23 : decode cX7_skill 23 = .ok (.iload 4, 2) := by decide +kernel
theorem dX7_skill_25 : decode cX7_skill 25 = .ok (.ifCond .lt 10, 3) := by decide +kernel
theorem dX7_skill_28 : decode cX7_skill 28 = .ok (.iload 4, 2) := by decide +kernel
theorem dX7_skill_30 : decode cX7_skill 30 = .ok (.bipush 100, 2) := by decide +kernel
theorem dX7_skill_32 : decode cX7_skill 32 = .ok (.if_icmp .le 5, 3) := by decide +kernel
theorem dX7_skill_35 : decode cX7_skill 35 = .ok (.iconst (-1), 1) := by decide +kernel
theorem dX7_skill_36 : decode cX7_skill 36 = .ok (.ireturn, 1) := by decide +kernel
theorem dX7_skill_37 : decode cX7_skill 37 = .ok (.aload_n 0, 1) := by decide +kernel
theorem dX7_skill_38 : decode cX7_skill 38 = .ok (.iload_n 1, 1) := by decide +kernel
theorem dX7_skill_39 : decode cX7_skill 39 = .ok (.invokevirtual 90, 3) := by decide +kernel
theorem dX7_skill_42 : decode cX7_skill 42 = .ok (.astore 5, 2) := by decide +kernel
theorem dX7_skill_44 : decode cX7_skill 44 = .ok (.aload 5, 2) := by decide +kernel
theorem dX7_skill_46 : decode cX7_skill 46 = .ok (.iload_n 2, 1) := by decide +kernel
theorem dX7_skill_47 : decode cX7_skill 47 = .ok (.iload_n 3, 1) := by decide +kernel
theorem dX7_skill_48 : decode cX7_skill 48 = .ok (.invokevirtual 94, 3) := by decide +kernel
theorem dX7_skill_51 : decode cX7_skill 51 = .ok (.istore 6, 2) := by decide +kernel
theorem dX7_skill_53 : decode cX7_skill 53 = .ok (.aload 5, 2) := by decide +kernel
theorem dX7_skill_55 : decode cX7_skill 55 = .ok (.iload_n 2, 1) := by decide +kernel
theorem dX7_skill_56 : decode cX7_skill 56 = .ok (.iload_n 3, 1) := by decide +kernel
theorem dX7_skill_57 : decode cX7_skill 57 = .ok (.iload 4, 2) := by decide +kernel
theorem dX7_skill_59 : decode cX7_skill 59 = .ok (.invokevirtual 98, 3) := by decide +kernel
theorem dX7_skill_62 : decode cX7_skill 62 = .ok (.iload 6, 2) := by decide +kernel
theorem dX7_skill_64 : decode cX7_skill 64 = .ok (.ireturn, 1) := by decide +kernel
theorem dX7_libre_0 : decode cX7_libre 0 = .ok (.iload_n 1, 1) := by decide +kernel
theorem dX7_libre_1 : decode cX7_libre 1 = .ok (.invokestatic 83, 3) := by decide +kernel
theorem dX7_libre_4 : decode cX7_libre 4 = .ok (.ifCond .eq 25, 3) := by decide +kernel
theorem dX7_libre_7 : decode cX7_libre 7 = .ok (.iload_n 2, 1) := by decide +kernel
theorem dX7_libre_8 : decode cX7_libre 8 = .ok (.iconst (-1), 1) := by decide +kernel
theorem dX7_libre_9 : decode cX7_libre 9 = .ok (.if_icmp .eq 10, 3) := by decide +kernel
theorem dX7_libre_12 : decode cX7_libre 12 = .ok (.iload_n 2, 1) := by decide +kernel
theorem dX7_libre_13 : decode cX7_libre 13 = .ok (.invokestatic 87, 3) := by decide +kernel
theorem dX7_libre_16 : decode cX7_libre 16 = .ok (.ifCond .eq 13, 3) := by decide +kernel
theorem dX7_libre_19 : decode cX7_libre 19 = .ok (.aload_n 0, 1) := by decide +kernel
theorem dX7_libre_20 : decode cX7_libre 20 = .ok (.getfield 39, 3) := by decide +kernel
theorem dX7_libre_23 : decode cX7_libre 23 = .ok (.getfield 102, 3) := by decide +kernel
theorem dX7_libre_26 : decode cX7_libre 26 = .ok (.ifCond .eq 6, 3) := by decide +kernel
theorem dX7_libre_29 : decode cX7_libre 29 = .ok (.bipush (-2), 2) := by decide +kernel
theorem dX7_libre_31 : decode cX7_libre 31 = .ok (.ireturn, 1) := by decide +kernel
theorem dX7_libre_32 : decode cX7_libre 32 = .ok (.aload_n 0, 1) := by decide +kernel
theorem dX7_libre_33 : decode cX7_libre 33 = .ok (.iload_n 1, 1) := by decide +kernel
theorem dX7_libre_34 : decode cX7_libre 34 = .ok (.invokevirtual 90, 3) := by decide +kernel
theorem dX7_libre_37 : decode cX7_libre 37 = .ok (.astore_n 3, 1) := by decide +kernel
theorem dX7_libre_38 : decode cX7_libre 38 = .ok (.aload_n 3, 1) := by decide +kernel
theorem dX7_libre_39 : decode cX7_libre 39 = .ok (.getfield 106, 3) := by decide +kernel
theorem dX7_libre_42 : decode cX7_libre 42 = .ok (.istore 4, 2) := by decide +kernel
theorem dX7_libre_44 : decode cX7_libre 44 = .ok (.aload_n 3, 1) := by decide +kernel
theorem dX7_libre_45 : decode cX7_libre 45 = .ok (.iload_n 2, 1) := by decide +kernel
theorem dX7_libre_46 : decode cX7_libre 46 = .ok (.putfield 106, 3) := by decide +kernel
theorem dX7_libre_49 : decode cX7_libre 49 = .ok (.iload 4, 2) := by decide +kernel
theorem dX7_libre_51 : decode cX7_libre 51 = .ok (.ireturn, 1) := by decide +kernel
theorem dX7_set_0 : decode cX7_set 0 = .ok (.aload_n 0, 1) := by decide +kernel
theorem dX7_set_1 : decode cX7_set 1 = .ok (.getfield 39, 3) := by decide +kernel
theorem dX7_set_4 : decode cX7_set 4 = .ok (.getfield 109, 3) := by decide +kernel
theorem dX7_set_7 : decode cX7_set 7 = .ok (.iconst (-1), 1) := by decide +kernel
theorem dX7_set_8 : decode cX7_set 8 = .ok (.if_icmp .ne 15, 3) := by decide +kernel
theorem dX7_set_11 : decode cX7_set 11 = .ok (.aload_n 0, 1) := by decide +kernel
theorem dX7_set_12 : decode cX7_set 12 = .ok (.getfield 10, 3) := by decide +kernel
theorem dX7_set_15 : decode cX7_set 15 = .ok (.iload_n 1, 1) := by decide +kernel
theorem dX7_set_16 : decode cX7_set 16 = .ok (.iload_n 2, 1) := by decide +kernel
theorem dX7_set_17 : decode cX7_set 17 = .ok (.invokevirtual 112, 3) := by decide +kernel
theorem dX7_set_20 : decode cX7_set 20 = .ok (.ifCond .ne 5, 3) := by decide +kernel
theorem dX7_set_23 : decode cX7_set 23 = .ok (.iconst (-1), 1) := by decide +kernel
theorem dX7_set_24 : decode cX7_set 24 = .ok (.ireturn, 1) := by decide +kernel
theorem dX7_set_25 : decode cX7_set 25 = .ok (.aload_n 0, 1) := by decide +kernel
theorem dX7_set_26 : decode cX7_set 26 = .ok (.getfield 10, 3) := by decide +kernel
theorem dX7_set_29 : decode cX7_set 29 = .ok (.iload_n 1, 1) := by decide +kernel
theorem dX7_set_30 : decode cX7_set 30 = .ok (.invokevirtual 116, 3) := by decide +kernel
theorem dX7_set_33 : decode cX7_set 33 = .ok (.istore_n 3, 1) := by decide +kernel
theorem dX7_set_34 : decode cX7_set 34 = .ok (.aload_n 0, 1) := by decide +kernel
theorem dX7_set_35 : decode cX7_set 35 = .ok (.getfield 10, 3) := by decide +kernel
theorem dX7_set_38 : decode cX7_set 38 = .ok (.iload_n 1, 1) := by decide +kernel
theorem dX7_set_39 : decode cX7_set 39 = .ok (.iload_n 2, 1) := by decide +kernel
theorem dX7_set_40 : decode cX7_set 40 = .ok (.invokevirtual 120, 3) := by decide +kernel
theorem dX7_set_43 : decode cX7_set 43 = .ok (.iload_n 3, 1) := by decide +kernel
theorem dX7_set_44 : decode cX7_set 44 = .ok (.ireturn, 1) := by decide +kernel
theorem dX7_lineUp_0 : decode cX7_lineUp 0 = .ok (.iload_n 1, 1) := by decide +kernel
theorem dX7_lineUp_1 : decode cX7_lineUp 1 = .ok (.invokestatic 83, 3) := by decide +kernel
theorem dX7_lineUp_4 : decode cX7_lineUp 4 = .ok (.ifCond .eq 24, 3) := by decide +kernel
theorem dX7_lineUp_7 : decode cX7_lineUp 7 = .ok (.aload_n 0, 1) := by decide +kernel
theorem dX7_lineUp_8 : decode cX7_lineUp 8 = .ok (.getfield 39, 3) := by decide +kernel
theorem dX7_lineUp_11 : decode cX7_lineUp 11 = .ok (.getfield 102, 3) := by decide +kernel
theorem dX7_lineUp_14 : decode cX7_lineUp 14 = .ok (.ifCond .ne 14, 3) := by decide +kernel
theorem dX7_lineUp_17 : decode cX7_lineUp 17 = .ok (.aload_n 0, 1) := by decide +kernel
theorem dX7_lineUp_18 : decode cX7_lineUp 18 = .ok (.getfield 39, 3) := by decide +kernel
theorem dX7_lineUp_21 : decode cX7_lineUp 21 = .ok (.getfield 124, 3) := by decide +kernel
theorem dX7_lineUp_24 : decode cX7_lineUp 24 = .ok (.iconst (-1), 1) := by decide +kernel
theorem dX7_lineUp_25 : decode cX7_lineUp 25 = .ok (.if_icmp .eq 5, 3) := by decide +kernel
theorem dX7_lineUp_28 : decode cX7_lineUp 28 = .ok (.iconst 0, 1) := by decide +kernel
theorem dX7_lineUp_29 : decode cX7_lineUp 29 = .ok (.ireturn, 1) := by decide +kernel
theorem dX7_lineUp_30 : decode cX7_lineUp 30 = .ok (.iload_n 2, 1) := by decide +kernel
theorem dX7_lineUp_31 : decode cX7_lineUp 31 = .ok (.invokestatic 127, 3) := by decide +kernel
theorem dX7_lineUp_34 : decode cX7_lineUp 34 = .ok (.iload_n 3, 1) := by decide +kernel
theorem dX7_lineUp_35 : decode cX7_lineUp 35 = .ok (.invokestatic 127, 3) := by decide +kernel
theorem dX7_lineUp_38 : decode cX7_lineUp 38 = .ok (.ior, 1) := by decide +kernel
theorem dX7_lineUp_39 : decode cX7_lineUp 39 = .ok (.iload 4, 2) := by decide +kernel
theorem dX7_lineUp_41 : decode cX7_lineUp 41 = .ok (.invokestatic 127, 3) := by decide +kernel
theorem dX7_lineUp_44 : decode cX7_lineUp 44 = .ok (.ior, 1) := by decide +kernel
theorem dX7_lineUp_45 : decode cX7_lineUp 45 = .ok (.iload 5, 2) := by decide +kernel
theorem dX7_lineUp_47 : decode cX7_lineUp 47 = .ok (.invokestatic 127, 3) := by decide +kernel
theorem dX7_lineUp_50 : decode cX7_lineUp 50 = .ok (.ior, 1) := by decide +kernel
theorem dX7_lineUp_51 : decode cX7_lineUp 51 = .ok (.iload 6, 2) := by decide +kernel
theorem dX7_lineUp_53 : decode cX7_lineUp 53 = .ok (.invokestatic 127, 3) := by decide +kernel
theorem dX7_lineUp_56 : decode cX7_lineUp 56 = .ok (.ior, 1) := by decide +kernel
theorem dX7_lineUp_57 : decode cX7_lineUp 57 = .ok (.iload 7, 2) := by decide +kernel
theorem dX7_lineUp_59 : decode cX7_lineUp 59 = .ok (.invokestatic 127, 3) := by decide +kernel
theorem dX7_lineUp_62 : decode cX7_lineUp 62 = .ok (.ior, 1) := by decide +kernel
theorem dX7_lineUp_63 : decode cX7_lineUp 63 = .ok (.istore 8, 2) := by decide +kernel
theorem dX7_lineUp_65 : decode cX7_lineUp 65 = .ok (.aload_n 0, 1) := by decide +kernel
theorem dX7_lineUp_66 : decode cX7_lineUp 66 = .ok (.iload_n 1, 1) := by decide +kernel
theorem dX7_lineUp_67 : decode cX7_lineUp 67 = .ok (.invokevirtual 90, 3) := by decide +kernel
theorem dX7_lineUp_70 : decode cX7_lineUp 70 = .ok (.astore 9, 2) := by decide +kernel
theorem dX7_lineUp_72 : decode cX7_lineUp 72 = .ok (.iload 8, 2) := by decide +kernel
theorem dX7_lineUp_74 : decode cX7_lineUp 74 = .ok (.invokestatic 130, 3) := by decide +kernel
theorem dX7_lineUp_77 : decode cX7_lineUp 77 = .ok (.bipush 6, 2) := by decide +kernel
theorem dX7_lineUp_79 : decode cX7_lineUp 79 = .ok (.if_icmp .ne 17, 3) := by decide +kernel
theorem dX7_lineUp_82 : decode cX7_lineUp 82 = .ok (.iload 8, 2) := by decide +kernel
theorem dX7_lineUp_84 : decode cX7_lineUp 84 = .ok (.aload 9, 2) := by decide +kernel
theorem dX7_lineUp_86 : decode cX7_lineUp 86 = .ok (.getfield 106, 3) := by decide +kernel
theorem dX7_lineUp_89 : decode cX7_lineUp 89 = .ok (.invokestatic 127, 3) := by decide +kernel
theorem dX7_lineUp_92 : decode cX7_lineUp 92 = .ok (.iand, 1) := by decide +kernel
theorem dX7_lineUp_93 : decode cX7_lineUp 93 = .ok (.ifCond .eq 5, 3) := by decide +kernel
theorem dX7_lineUp_96 : decode cX7_lineUp 96 = .ok (.iconst 0, 1) := by decide +kernel
theorem dX7_lineUp_97 : decode cX7_lineUp 97 = .ok (.ireturn, 1) := by decide +kernel
theorem dX7_lineUp_98 : decode cX7_lineUp 98 = .ok (.aload 9, 2) := by decide +kernel
theorem dX7_lineUp_100 : decode cX7_lineUp 100 = .ok (.iload_n 2, 1) := by decide +kernel
theorem dX7_lineUp_101 : decode cX7_lineUp 101 = .ok (.iload_n 3, 1) := by decide +kernel
theorem dX7_lineUp_102 : decode cX7_lineUp 102 = .ok (.iload 4, 2) := by decide +kernel
theorem dX7_lineUp_104 : decode cX7_lineUp 104 = .ok (.iload 5, 2) := by decide +kernel
theorem dX7_lineUp_106 : decode cX7_lineUp 106 = .ok (.iload 6, 2) := by decide +kernel
theorem dX7_lineUp_108 : decode cX7_lineUp 108 = .ok (.iload 7, 2) := by decide +kernel
theorem dX7_lineUp_110 : decode cX7_lineUp 110 = .ok (.invokevirtual 135, 3) := by decide +kernel
theorem dX7_lineUp_113 : decode cX7_lineUp 113 = .ok (.iconst 1, 1) := by decide +kernel
theorem dX7_lineUp_114 : decode cX7_lineUp 114 = .ok (.ireturn, 1) := by decide +kernel
theorem dX7_begin_0 : decode cX7_begin 0 = .ok (.iload_n 1, 1) := by decide +kernel
theorem dX7_begin_1 : decode cX7_begin 1 = .ok (.invokestatic 83, 3) := by decide +kernel
theorem dX7_begin_4 : decode cX7_begin 4 = .ok (.ifCond .eq 24, 3) := by decide +kernel
theorem dX7_begin_7 : decode cX7_begin 7 = .ok (.aload_n 0, 1) := by decide +kernel
theorem dX7_begin_8 : decode cX7_begin 8 = .ok (.getfield 39, 3) := by decide +kernel
theorem dX7_begin_11 : decode cX7_begin 11 = .ok (.getfield 102, 3) := by decide +kernel
theorem dX7_begin_14 : decode cX7_begin 14 = .ok (.ifCond .ne 14, 3) := by decide +kernel
theorem dX7_begin_17 : decode cX7_begin 17 = .ok (.aload_n 0, 1) := by decide +kernel
theorem dX7_begin_18 : decode cX7_begin 18 = .ok (.getfield 39, 3) := by decide +kernel
theorem dX7_begin_21 : decode cX7_begin 21 = .ok (.getfield 124, 3) := by decide +kernel
theorem dX7_begin_24 : decode cX7_begin 24 = .ok (.iconst (-1), 1) := by decide +kernel
theorem dX7_begin_25 : decode cX7_begin 25 = .ok (.if_icmp .eq 5, 3) := by decide +kernel
theorem dX7_begin_28 : decode cX7_begin 28 = .ok (.iconst (-1), 1) := by decide +kernel
theorem dX7_begin_29 : decode cX7_begin 29 = .ok (.ireturn, 1) := by decide +kernel
theorem dX7_begin_30 : decode cX7_begin 30 = .ok (.aload_n 0, 1) := by decide +kernel
theorem dX7_begin_31 : decode cX7_begin 31 = .ok (.getfield 19, 3) := by decide +kernel
theorem dX7_begin_34 : decode cX7_begin 34 = .ok (.invokevirtual 139, 3) := by decide +kernel
theorem dX7_begin_37 : decode cX7_begin 37 = .ok (.ifCond .eq 13, 3) := by decide +kernel
theorem dX7_begin_40 : decode cX7_begin 40 = .ok (.aload_n 0, 1) := by decide +kernel
theorem dX7_begin_41 : decode cX7_begin 41 = .ok (.getfield 23, 3) := by decide +kernel
theorem dX7_begin_44 : decode cX7_begin 44 = .ok (.invokevirtual 139, 3) := by decide +kernel
theorem dX7_begin_47 : decode cX7_begin 47 = .ok (.ifCond .ne 5, 3) := by decide +kernel
theorem dX7_begin_50 : decode cX7_begin 50 = .ok (.iconst (-1), 1) := by decide +kernel
theorem dX7_begin_51 : decode cX7_begin 51 = .ok (.ireturn, 1) := by decide +kernel
theorem dX7_begin_52 : decode cX7_begin 52 = .ok (.aload_n 0, 1) := by decide +kernel
theorem dX7_begin_53 : decode cX7_begin 53 = .ok (.getfield 29, 3) := by decide +kernel
theorem dX7_begin_56 : decode cX7_begin 56 = .ok (.aload_n 0, 1) := by decide +kernel
theorem dX7_begin_57 : decode cX7_begin 57 = .ok (.getfield 19, 3) := by decide +kernel
theorem dX7_begin_60 : decode cX7_begin 60 = .ok (.invokevirtual 143, 3) := by decide +kernel
theorem dX7_begin_63 : decode cX7_begin 63 = .ok (.aload_n 0, 1) := by decide +kernel
theorem dX7_begin_64 : decode cX7_begin 64 = .ok (.getfield 33, 3) := by decide +kernel
theorem dX7_begin_67 : decode cX7_begin 67 = .ok (.aload_n 0, 1) := by decide +kernel
theorem dX7_begin_68 : decode cX7_begin 68 = .ok (.getfield 23, 3) := by decide +kernel
theorem dX7_begin_71 : decode cX7_begin 71 = .ok (.invokevirtual 143, 3) := by decide +kernel
theorem dX7_begin_74 : decode cX7_begin 74 = .ok (.aload_n 0, 1) := by decide +kernel
theorem dX7_begin_75 : decode cX7_begin 75 = .ok (.getfield 19, 3) := by decide +kernel
theorem dX7_begin_78 : decode cX7_begin 78 = .ok (.iconst 0, 1) := by decide +kernel
theorem dX7_begin_79 : decode cX7_begin 79 = .ok (.putfield 147, 3) := by decide +kernel
theorem dX7_begin_82 : decode cX7_begin 82 = .ok (.aload_n 0, 1) := by decide +kernel
theorem dX7_begin_83 : decode cX7_begin 83 = .ok (.getfield 23, 3) := by decide +kernel
theorem dX7_begin_86 : decode cX7_begin 86 = .ok (.iconst 0, 1) := by decide +kernel
theorem dX7_begin_87 : decode cX7_begin 87 = .ok (.putfield 147, 3) := by decide +kernel
theorem dX7_begin_90 : decode cX7_begin 90 = .ok (.aload_n 0, 1) := by decide +kernel
theorem dX7_begin_91 : decode cX7_begin 91 = .ok (.getfield 55, 3) := by decide +kernel
theorem dX7_begin_94 : decode cX7_begin 94 = .ok (.invokevirtual 150, 3) := by decide +kernel
theorem dX7_begin_97 : decode cX7_begin 97 = .ok (.aload_n 0, 1) := by decide +kernel
theorem dX7_begin_98 : decode cX7_begin 98 = .ok (.getfield 59, 3) := by decide +kernel
theorem dX7_begin_101 : decode cX7_begin 101 = .ok (.invokevirtual 150, 3) := by decide +kernel
theorem dX7_begin_104 : decode cX7_begin 104 = .ok (.aload_n 0, 1) := by decide +kernel
theorem dX7_begin_105 : decode cX7_begin 105 = .ok (.getfield 39, 3) := by decide +kernel
theorem dX7_begin_108 : decode cX7_begin 108 = .ok (.iload_n 1, 1) := by decide +kernel
theorem dX7_begin_109 : decode cX7_begin 109 = .ok (.invokevirtual 153, 3) := by decide +kernel
theorem dX7_begin_112 : decode cX7_begin 112 = .ok (.aload_n 0, 1) := by decide +kernel
theorem dX7_begin_113 : decode cX7_begin 113 = .ok (.getfield 39, 3) := by decide +kernel
theorem dX7_begin_116 : decode cX7_begin 116 = .ok (.getfield 109, 3) := by decide +kernel
theorem dX7_begin_119 : decode cX7_begin 119 = .ok (.ireturn, 1) := by decide +kernel
theorem dX7_rally_0 : decode cX7_rally 0 = .ok (.iload_n 1, 1) := by decide +kernel
theorem dX7_rally_1 : decode cX7_rally 1 = .ok (.invokestatic 83, 3) := by decide +kernel
theorem dX7_rally_4 : decode cX7_rally 4 = .ok (.ifCond .eq 13, 3) := by decide +kernel
theorem dX7_rally_7 : decode cX7_rally 7 = .ok (.aload_n 0, 1) := by decide +kernel
theorem dX7_rally_8 : decode cX7_rally 8 = .ok (.getfield 39, 3) := by decide +kernel
theorem dX7_rally_11 : decode cX7_rally 11 = .ok (.getfield 102, 3) := by decide +kernel
theorem dX7_rally_14 : decode cX7_rally 14 = .ok (.ifCond .ne 5, 3) := by decide +kernel
theorem dX7_rally_17 : decode cX7_rally 17 = .ok (.iconst (-1), 1) := by decide +kernel
theorem dX7_rally_18 : decode cX7_rally 18 = .ok (.ireturn, 1) := by decide +kernel
theorem dX7_rally_19 : decode cX7_rally 19 = .ok (.aload_n 0, 1) := by decide +kernel
theorem dX7_rally_20 : decode cX7_rally 20 = .ok (.iload_n 1, 1) := by decide +kernel
theorem dX7_rally_21 : decode cX7_rally 21 = .ok (.invokevirtual 156, 3) := by decide +kernel
theorem dX7_rally_24 : decode cX7_rally 24 = .ok (.ireturn, 1) := by decide +kernel
theorem dX7_may_0 : decode cX7_may 0 = .ok (.iload_n 1, 1) := by decide +kernel
theorem dX7_may_1 : decode cX7_may 1 = .ok (.invokestatic 83, 3) := by decide +kernel
theorem dX7_may_4 : decode cX7_may 4 = .ok (.ifCond .ne 5, 3) := by decide +kernel
theorem dX7_may_7 : decode cX7_may 7 = .ok (.iconst (-1), 1) := by decide +kernel
theorem dX7_may_8 : decode cX7_may 8 = .ok (.ireturn, 1) := by decide +kernel
theorem dX7_may_9 : decode cX7_may 9 = .ok (.aload_n 0, 1) := by decide +kernel
theorem dX7_may_10 : decode cX7_may 10 = .ok (.getfield 39, 3) := by decide +kernel
theorem dX7_may_13 : decode cX7_may 13 = .ok (.getfield 102, 3) := by decide +kernel
theorem dX7_may_16 : decode cX7_may 16 = .ok (.ifCond .ne 5, 3) := by decide +kernel
theorem dX7_may_19 : decode cX7_may 19 = .ok (.iconst 1, 1) := by decide +kernel
theorem dX7_may_20 : decode cX7_may 20 = .ok (.ireturn, 1) := by decide +kernel
theorem dX7_may_21 : decode cX7_may 21 = .ok (.iload_n 2, 1) := by decide +kernel
theorem dX7_may_22 : decode cX7_may 22 = .ok (.invokestatic 87, 3) := by decide +kernel
theorem dX7_may_25 : decode cX7_may 25 = .ok (.ifCond .eq 15, 3) := by decide +kernel
theorem dX7_may_28 : decode cX7_may 28 = .ok (.iload_n 3, 1) := by decide +kernel
theorem dX7_may_29 : decode cX7_may 29 = .ok (.invokestatic 87, 3) := by decide +kernel
theorem dX7_may_32 : decode cX7_may 32 = .ok (.ifCond .eq 8, 3) := by decide +kernel
theorem dX7_may_35 : decode cX7_may 35 = .ok (.iload_n 2, 1) := by decide +kernel
theorem dX7_may_36 : decode cX7_may 36 = .ok (.iload_n 3, 1) := by decide +kernel
theorem dX7_may_37 : decode cX7_may 37 = .ok (.if_icmp .ne 5, 3) := by decide +kernel
theorem dX7_may_40 : decode cX7_may 40 = .ok (.iconst 2, 1) := by decide +kernel
theorem dX7_may_41 : decode cX7_may 41 = .ok (.ireturn, 1) := by decide +kernel
theorem dX7_may_42 : decode cX7_may 42 = .ok (.aload_n 0, 1) := by decide +kernel
theorem dX7_may_43 : decode cX7_may 43 = .ok (.iload_n 1, 1) := by decide +kernel
theorem dX7_may_44 : decode cX7_may 44 = .ok (.invokevirtual 159, 3) := by decide +kernel
theorem dX7_may_47 : decode cX7_may 47 = .ok (.astore 4, 2) := by decide +kernel
theorem dX7_may_49 : decode cX7_may 49 = .ok (.aload 4, 2) := by decide +kernel
theorem dX7_may_51 : decode cX7_may 51 = .ok (.iload_n 2, 1) := by decide +kernel
theorem dX7_may_52 : decode cX7_may 52 = .ok (.invokevirtual 163, 3) := by decide +kernel
theorem dX7_may_55 : decode cX7_may 55 = .ok (.ifCond .ne 5, 3) := by decide +kernel
theorem dX7_may_58 : decode cX7_may 58 = .ok (.iconst 3, 1) := by decide +kernel
theorem dX7_may_59 : decode cX7_may 59 = .ok (.ireturn, 1) := by decide +kernel
theorem dX7_may_60 : decode cX7_may 60 = .ok (.aload 4, 2) := by decide +kernel
theorem dX7_may_62 : decode cX7_may 62 = .ok (.iload_n 3, 1) := by decide +kernel
theorem dX7_may_63 : decode cX7_may 63 = .ok (.invokevirtual 166, 3) := by decide +kernel
theorem dX7_may_66 : decode cX7_may 66 = .ok (.ifCond .ne 5, 3) := by decide +kernel
theorem dX7_may_69 : decode cX7_may 69 = .ok (.iconst 4, 1) := by decide +kernel
theorem dX7_may_70 : decode cX7_may 70 = .ok (.ireturn, 1) := by decide +kernel
theorem dX7_may_71 : decode cX7_may 71 = .ok (.aload 4, 2) := by decide +kernel
theorem dX7_may_73 : decode cX7_may 73 = .ok (.getfield 169, 3) := by decide +kernel
theorem dX7_may_76 : decode cX7_may 76 = .ok (.aload_n 0, 1) := by decide +kernel
theorem dX7_may_77 : decode cX7_may 77 = .ok (.getfield 10, 3) := by decide +kernel
theorem dX7_may_80 : decode cX7_may 80 = .ok (.iconst 4, 1) := by decide +kernel
theorem dX7_may_81 : decode cX7_may 81 = .ok (.invokevirtual 116, 3) := by decide +kernel
theorem dX7_may_84 : decode cX7_may 84 = .ok (.if_icmp .lt 5, 3) := by decide +kernel
theorem dX7_may_87 : decode cX7_may 87 = .ok (.iconst 5, 1) := by decide +kernel
theorem dX7_may_88 : decode cX7_may 88 = .ok (.ireturn, 1) := by decide +kernel
theorem dX7_may_89 : decode cX7_may 89 = .ok (.aload 4, 2) := by decide +kernel
theorem dX7_may_91 : decode cX7_may 91 = .ok (.iload_n 2, 1) := by decide +kernel
theorem dX7_may_92 : decode cX7_may 92 = .ok (.iload_n 3, 1) := by decide +kernel
theorem dX7_may_93 : decode cX7_may 93 = .ok (.invokevirtual 172, 3) := by decide +kernel
theorem dX7_may_96 : decode cX7_may 96 = .ok (.ifCond .eq 7, 3) := by decide +kernel
theorem dX7_may_99 : decode cX7_may 99 = .ok (.iconst 0, 1) := by decide +kernel
theorem dX7_may_100 : decode cX7_may 100 = .ok (.goto 5, 3) := by decide +kernel
theorem dX7_may_103 : decode cX7_may 103 = .ok (.bipush 6, 2) := by decide +kernel
theorem dX7_may_105 : decode cX7_may 105 = .ok (.ireturn, 1) := by decide +kernel
theorem dX7_change_0 : decode cX7_change 0 = .ok (.aload_n 0, 1) := by decide +kernel
theorem dX7_change_1 : decode cX7_change 1 = .ok (.iload_n 1, 1) := by decide +kernel
theorem dX7_change_2 : decode cX7_change 2 = .ok (.iload_n 2, 1) := by decide +kernel
theorem dX7_change_3 : decode cX7_change 3 = .ok (.iload_n 3, 1) := by decide +kernel
theorem dX7_change_4 : decode cX7_change 4 = .ok (.invokevirtual 175, 3) := by decide +kernel
theorem dX7_change_7 : decode cX7_change 7 = .ok (.ifCond .eq 5, 3) := by decide +kernel
theorem dX7_change_10 : decode cX7_change 10 = .ok (.iconst (-1), 1) := by decide +kernel
theorem dX7_change_11 : decode cX7_change 11 = .ok (.ireturn, 1) := by decide +kernel
theorem dX7_change_12 : decode cX7_change 12 = .ok (.aload_n 0, 1) := by decide +kernel
theorem dX7_change_13 : decode cX7_change 13 = .ok (.iload_n 1, 1) := by decide +kernel
theorem dX7_change_14 : decode cX7_change 14 = .ok (.invokevirtual 159, 3) := by decide +kernel
theorem dX7_change_17 : decode cX7_change 17 = .ok (.iload_n 2, 1) := by decide +kernel
theorem dX7_change_18 : decode cX7_change 18 = .ok (.iload_n 3, 1) := by decide +kernel
theorem dX7_change_19 : decode cX7_change 19 = .ok (.invokevirtual 179, 3) := by decide +kernel
theorem dX7_change_22 : decode cX7_change 22 = .ok (.ireturn, 1) := by decide +kernel
theorem dX7_free_0 : decode cX7_free 0 = .ok (.iload_n 1, 1) := by decide +kernel
theorem dX7_free_1 : decode cX7_free 1 = .ok (.invokestatic 83, 3) := by decide +kernel
theorem dX7_free_4 : decode cX7_free 4 = .ok (.ifCond .eq 13, 3) := by decide +kernel
theorem dX7_free_7 : decode cX7_free 7 = .ok (.aload_n 0, 1) := by decide +kernel
theorem dX7_free_8 : decode cX7_free 8 = .ok (.getfield 39, 3) := by decide +kernel
theorem dX7_free_11 : decode cX7_free 11 = .ok (.getfield 102, 3) := by decide +kernel
theorem dX7_free_14 : decode cX7_free 14 = .ok (.ifCond .ne 5, 3) := by decide +kernel
theorem dX7_free_17 : decode cX7_free 17 = .ok (.iconst (-1), 1) := by decide +kernel
theorem dX7_free_18 : decode cX7_free 18 = .ok (.ireturn, 1) := by decide +kernel
theorem dX7_free_19 : decode cX7_free 19 = .ok (.aload_n 0, 1) := by decide +kernel
theorem dX7_free_20 : decode cX7_free 20 = .ok (.iload_n 1, 1) := by decide +kernel
theorem dX7_free_21 : decode cX7_free 21 = .ok (.invokevirtual 159, 3) := by decide +kernel
theorem dX7_free_24 : decode cX7_free 24 = .ok (.astore_n 3, 1) := by decide +kernel
theorem dX7_free_25 : decode cX7_free 25 = .ok (.aload_n 3, 1) := by decide +kernel
theorem dX7_free_26 : decode cX7_free 26 = .ok (.getfield 182, 3) := by decide +kernel
theorem dX7_free_29 : decode cX7_free 29 = .ok (.ifCond .ne 11, 3) := by decide +kernel
theorem dX7_free_32 : decode cX7_free 32 = .ok (.aload_n 3, 1) := by decide +kernel
theorem dX7_free_33 : decode cX7_free 33 = .ok (.getfield 185, 3) := by decide +kernel
theorem dX7_free_36 : decode cX7_free 36 = .ok (.iconst (-1), 1) := by decide +kernel
theorem dX7_free_37 : decode cX7_free 37 = .ok (.if_icmp .ne 5, 3) := by decide +kernel
theorem dX7_free_40 : decode cX7_free 40 = .ok (.iconst (-1), 1) := by decide +kernel
theorem dX7_free_41 : decode cX7_free 41 = .ok (.ireturn, 1) := by decide +kernel
theorem dX7_free_42 : decode cX7_free 42 = .ok (.iload_n 2, 1) := by decide +kernel
theorem dX7_free_43 : decode cX7_free 43 = .ok (.iconst (-1), 1) := by decide +kernel
theorem dX7_free_44 : decode cX7_free 44 = .ok (.if_icmp .ne 10, 3) := by decide +kernel
theorem dX7_free_47 : decode cX7_free 47 = .ok (.aload_n 3, 1) := by decide +kernel
theorem dX7_free_48 : decode cX7_free 48 = .ok (.invokevirtual 186, 3) := by decide +kernel
theorem dX7_free_51 : decode cX7_free 51 = .ok (.goto 8, 3) := by decide +kernel
theorem dX7_free_54 : decode cX7_free 54 = .ok (.aload_n 3, 1) := by decide +kernel
theorem dX7_free_55 : decode cX7_free 55 = .ok (.iload_n 2, 1) := by decide +kernel
theorem dX7_free_56 : decode cX7_free 56 = .ok (.invokevirtual 190, 3) := by decide +kernel
theorem dX7_free_59 : decode cX7_free 59 = .ok (.ireturn, 1) := by decide +kernel
theorem dX7_pause_0 : decode cX7_pause 0 = .ok (.iload_n 1, 1) := by decide +kernel
theorem dX7_pause_1 : decode cX7_pause 1 = .ok (.invokestatic 83, 3) := by decide +kernel
theorem dX7_pause_4 : decode cX7_pause 4 = .ok (.ifCond .eq 13, 3) := by decide +kernel
theorem dX7_pause_7 : decode cX7_pause 7 = .ok (.aload_n 0, 1) := by decide +kernel
theorem dX7_pause_8 : decode cX7_pause 8 = .ok (.getfield 39, 3) := by decide +kernel
theorem dX7_pause_11 : decode cX7_pause 11 = .ok (.getfield 102, 3) := by decide +kernel
theorem dX7_pause_14 : decode cX7_pause 14 = .ok (.ifCond .ne 5, 3) := by decide +kernel
theorem dX7_pause_17 : decode cX7_pause 17 = .ok (.iconst (-1), 1) := by decide +kernel
theorem dX7_pause_18 : decode cX7_pause 18 = .ok (.ireturn, 1) := by decide +kernel
theorem dX7_pause_19 : decode cX7_pause 19 = .ok (.aload_n 0, 1) := by decide +kernel
theorem dX7_pause_20 : decode cX7_pause 20 = .ok (.iload_n 1, 1) := by decide +kernel
theorem dX7_pause_21 : decode cX7_pause 21 = .ok (.invokevirtual 159, 3) := by decide +kernel
theorem dX7_pause_24 : decode cX7_pause 24 = .ok (.astore_n 2, 1) := by decide +kernel
theorem dX7_pause_25 : decode cX7_pause 25 = .ok (.aload_n 2, 1) := by decide +kernel
theorem dX7_pause_26 : decode cX7_pause 26 = .ok (.getfield 193, 3) := by decide +kernel
theorem dX7_pause_29 : decode cX7_pause 29 = .ok (.aload_n 0, 1) := by decide +kernel
theorem dX7_pause_30 : decode cX7_pause 30 = .ok (.getfield 10, 3) := by decide +kernel
theorem dX7_pause_33 : decode cX7_pause 33 = .ok (.iconst 5, 1) := by decide +kernel
theorem dX7_pause_34 : decode cX7_pause 34 = .ok (.invokevirtual 116, 3) := by decide +kernel
theorem dX7_pause_37 : decode cX7_pause 37 = .ok (.if_icmp .lt 5, 3) := by decide +kernel
theorem dX7_pause_40 : decode cX7_pause 40 = .ok (.iconst (-1), 1) := by decide +kernel
theorem dX7_pause_41 : decode cX7_pause 41 = .ok (.ireturn, 1) := by decide +kernel
theorem dX7_pause_42 : decode cX7_pause 42 = .ok (.aload_n 2, 1) := by decide +kernel
theorem dX7_pause_43 : decode cX7_pause 43 = .ok (.dup, 1) := by decide +kernel
theorem dX7_pause_44 : decode cX7_pause 44 = .ok (.getfield 193, 3) := by decide +kernel
theorem dX7_pause_47 : decode cX7_pause 47 = .ok (.iconst 1, 1) := by decide +kernel
theorem dX7_pause_48 : decode cX7_pause 48 = .ok (.iadd, 1) := by decide +kernel
theorem dX7_pause_49 : decode cX7_pause 49 = .ok (.putfield 193, 3) := by decide +kernel
theorem dX7_pause_52 : decode cX7_pause 52 = .ok (.aload_n 2, 1) := by decide +kernel
theorem dX7_pause_53 : decode cX7_pause 53 = .ok (.getfield 193, 3) := by decide +kernel
theorem dX7_pause_56 : decode cX7_pause 56 = .ok (.ireturn, 1) := by decide +kernel
theorem dX7_wrong_0 : decode cX7_wrong 0 = .ok (.aload_n 0, 1) := by decide +kernel
theorem dX7_wrong_1 : decode cX7_wrong 1 = .ok (.getfield 39, 3) := by decide +kernel
theorem dX7_wrong_4 : decode cX7_wrong 4 = .ok (.getfield 102, 3) := by decide +kernel
theorem dX7_wrong_7 : decode cX7_wrong 7 = .ok (.ifCond .eq 18, 3) := by decide +kernel
theorem dX7_wrong_10 : decode cX7_wrong 10 = .ok (.iload_n 1, 1) := by decide +kernel
theorem dX7_wrong_11 : decode cX7_wrong 11 = .ok (.ifCond .lt 14, 3) := by decide +kernel
theorem dX7_wrong_14 : decode cX7_wrong 14 = .ok (.iload_n 1, 1) := by decide +kernel
theorem dX7_wrong_15 : decode cX7_wrong 15 = .ok (.aload_n 0, 1) := by decide +kernel
theorem dX7_wrong_16 : decode cX7_wrong 16 = .ok (.getfield 39, 3) := by decide +kernel
theorem dX7_wrong_19 : decode cX7_wrong 19 = .ok (.getfield 196, 3) := by decide +kernel
theorem dX7_wrong_22 : decode cX7_wrong 22 = .ok (.if_icmp .le 5, 3) := by decide +kernel
theorem dX7_wrong_25 : decode cX7_wrong 25 = .ok (.iconst (-1), 1) := by decide +kernel
theorem dX7_wrong_26 : decode cX7_wrong 26 = .ok (.ireturn, 1) := by decide +kernel
theorem dX7_wrong_27 : decode cX7_wrong 27 = .ok (.aload_n 0, 1) := by decide +kernel
theorem dX7_wrong_28 : decode cX7_wrong 28 = .ok (.aload_n 0, 1) := by decide +kernel
theorem dX7_wrong_29 : decode cX7_wrong 29 = .ok (.getfield 39, 3) := by decide +kernel
theorem dX7_wrong_32 : decode cX7_wrong 32 = .ok (.getfield 199, 3) := by decide +kernel
theorem dX7_wrong_35 : decode cX7_wrong 35 = .ok (.invokevirtual 159, 3) := by decide +kernel
theorem dX7_wrong_38 : decode cX7_wrong 38 = .ok (.dup, 1) := by decide +kernel
theorem dX7_wrong_39 : decode cX7_wrong 39 = .ok (.getfield 202, 3) := by decide +kernel
theorem dX7_wrong_42 : decode cX7_wrong 42 = .ok (.iload_n 1, 1) := by decide +kernel
theorem dX7_wrong_43 : decode cX7_wrong 43 = .ok (.isub, 1) := by decide +kernel
theorem dX7_wrong_44 : decode cX7_wrong 44 = .ok (.putfield 202, 3) := by decide +kernel
theorem dX7_wrong_47 : decode cX7_wrong 47 = .ok (.aload_n 0, 1) := by decide +kernel
theorem dX7_wrong_48 : decode cX7_wrong 48 = .ok (.iconst 1, 1) := by decide +kernel
theorem dX7_wrong_49 : decode cX7_wrong 49 = .ok (.aload_n 0, 1) := by decide +kernel
theorem dX7_wrong_50 : decode cX7_wrong 50 = .ok (.getfield 39, 3) := by decide +kernel
theorem dX7_wrong_53 : decode cX7_wrong 53 = .ok (.getfield 199, 3) := by decide +kernel
theorem dX7_wrong_56 : decode cX7_wrong 56 = .ok (.isub, 1) := by decide +kernel
theorem dX7_wrong_57 : decode cX7_wrong 57 = .ok (.invokevirtual 156, 3) := by decide +kernel
theorem dX7_wrong_60 : decode cX7_wrong 60 = .ok (.ireturn, 1) := by decide +kernel
theorem dX7_at_0 : decode cX7_at 0 = .ok (.iload_n 1, 1) := by decide +kernel
theorem dX7_at_1 : decode cX7_at 1 = .ok (.invokestatic 83, 3) := by decide +kernel
theorem dX7_at_4 : decode cX7_at 4 = .ok (.ifCond .eq 24, 3) := by decide +kernel
theorem dX7_at_7 : decode cX7_at 7 = .ok (.iload_n 2, 1) := by decide +kernel
theorem dX7_at_8 : decode cX7_at 8 = .ok (.ifCond .lt 20, 3) := by decide +kernel
theorem dX7_at_11 : decode cX7_at 11 = .ok (.iload_n 2, 1) := by decide +kernel
theorem dX7_at_12 : decode cX7_at 12 = .ok (.bipush 6, 2) := by decide +kernel
theorem dX7_at_14 : decode cX7_at 14 = .ok (.if_icmp .ge 14, 3) := by decide +kernel
theorem dX7_at_17 : decode cX7_at 17 = .ok (.aload_n 0, 1) := by decide +kernel
theorem dX7_at_18 : decode cX7_at 18 = .ok (.getfield 39, 3) := by decide +kernel
theorem dX7_at_21 : decode cX7_at 21 = .ok (.getfield 109, 3) := by decide +kernel
theorem dX7_at_24 : decode cX7_at 24 = .ok (.iconst (-1), 1) := by decide +kernel
theorem dX7_at_25 : decode cX7_at 25 = .ok (.if_icmp .ne 5, 3) := by decide +kernel
theorem dX7_at_28 : decode cX7_at 28 = .ok (.iconst (-1), 1) := by decide +kernel
theorem dX7_at_29 : decode cX7_at 29 = .ok (.ireturn, 1) := by decide +kernel
theorem dX7_at_30 : decode cX7_at 30 = .ok (.aload_n 0, 1) := by decide +kernel
theorem dX7_at_31 : decode cX7_at 31 = .ok (.iload_n 1, 1) := by decide +kernel
theorem dX7_at_32 : decode cX7_at 32 = .ok (.invokevirtual 159, 3) := by decide +kernel
theorem dX7_at_35 : decode cX7_at 35 = .ok (.iload_n 2, 1) := by decide +kernel
theorem dX7_at_36 : decode cX7_at 36 = .ok (.invokevirtual 205, 3) := by decide +kernel
theorem dX7_at_39 : decode cX7_at 39 = .ok (.ireturn, 1) := by decide +kernel
theorem dX7_of_0 : decode cX7_of 0 = .ok (.iload_n 1, 1) := by decide +kernel
theorem dX7_of_1 : decode cX7_of 1 = .ok (.invokestatic 83, 3) := by decide +kernel
theorem dX7_of_4 : decode cX7_of 4 = .ok (.ifCond .ne 5, 3) := by decide +kernel
theorem dX7_of_7 : decode cX7_of 7 = .ok (.iconst (-1), 1) := by decide +kernel
theorem dX7_of_8 : decode cX7_of 8 = .ok (.ireturn, 1) := by decide +kernel
theorem dX7_of_9 : decode cX7_of 9 = .ok (.aload_n 0, 1) := by decide +kernel
theorem dX7_of_10 : decode cX7_of 10 = .ok (.iload_n 1, 1) := by decide +kernel
theorem dX7_of_11 : decode cX7_of 11 = .ok (.invokevirtual 159, 3) := by decide +kernel
theorem dX7_of_14 : decode cX7_of 14 = .ok (.astore_n 3, 1) := by decide +kernel
theorem dX7_of_15 : decode cX7_of 15 = .ok (.iload_n 2, 1) := by decide +kernel
theorem dX7_of_16 : decode cX7_of 16 = .ok (.tableswitch 97 0 6 #[44, 49, 54, 59, 64, 69, 92], 44) := by decide +kernel
theorem dX7_of_60 : decode cX7_of 60 = .ok (.aload_n 3, 1) := by decide +kernel
theorem dX7_of_61 : decode cX7_of 61 = .ok (.getfield 202, 3) := by decide +kernel
theorem dX7_of_64 : decode cX7_of 64 = .ok (.ireturn, 1) := by decide +kernel
theorem dX7_of_65 : decode cX7_of 65 = .ok (.aload_n 3, 1) := by decide +kernel
theorem dX7_of_66 : decode cX7_of 66 = .ok (.getfield 208, 3) := by decide +kernel
theorem dX7_of_69 : decode cX7_of 69 = .ok (.ireturn, 1) := by decide +kernel
theorem dX7_of_70 : decode cX7_of 70 = .ok (.aload_n 3, 1) := by decide +kernel
theorem dX7_of_71 : decode cX7_of 71 = .ok (.getfield 169, 3) := by decide +kernel
theorem dX7_of_74 : decode cX7_of 74 = .ok (.ireturn, 1) := by decide +kernel
theorem dX7_of_75 : decode cX7_of 75 = .ok (.aload_n 3, 1) := by decide +kernel
theorem dX7_of_76 : decode cX7_of 76 = .ok (.getfield 193, 3) := by decide +kernel
theorem dX7_of_79 : decode cX7_of 79 = .ok (.ireturn, 1) := by decide +kernel
theorem dX7_of_80 : decode cX7_of 80 = .ok (.aload_n 3, 1) := by decide +kernel
theorem dX7_of_81 : decode cX7_of 81 = .ok (.invokevirtual 211, 3) := by decide +kernel
theorem dX7_of_84 : decode cX7_of 84 = .ok (.ireturn, 1) := by decide +kernel
theorem dX7_of_85 : decode cX7_of 85 = .ok (.iload_n 1, 1) := by decide +kernel
theorem dX7_of_86 : decode cX7_of 86 = .ok (.aload_n 0, 1) := by decide +kernel
theorem dX7_of_87 : decode cX7_of 87 = .ok (.getfield 39, 3) := by decide +kernel
theorem dX7_of_90 : decode cX7_of 90 = .ok (.getfield 199, 3) := by decide +kernel
theorem dX7_of_93 : decode cX7_of 93 = .ok (.if_icmp .ne 13, 3) := by decide +kernel
theorem dX7_of_96 : decode cX7_of 96 = .ok (.aload_n 0, 1) := by decide +kernel
theorem dX7_of_97 : decode cX7_of 97 = .ok (.getfield 39, 3) := by decide +kernel
theorem dX7_of_100 : decode cX7_of 100 = .ok (.getfield 196, 3) := by decide +kernel
theorem dX7_of_103 : decode cX7_of 103 = .ok (.goto 4, 3) := by decide +kernel
theorem dX7_of_106 : decode cX7_of 106 = .ok (.iconst 0, 1) := by decide +kernel
theorem dX7_of_107 : decode cX7_of 107 = .ok (.ireturn, 1) := by decide +kernel
theorem dX7_of_108 : decode cX7_of 108 = .ok (.aload_n 3, 1) := by decide +kernel
theorem dX7_of_109 : decode cX7_of 109 = .ok (.getfield 214, 3) := by decide +kernel
theorem dX7_of_112 : decode cX7_of 112 = .ok (.ireturn, 1) := by decide +kernel
theorem dX7_of_113 : decode cX7_of 113 = .ok (.iconst (-1), 1) := by decide +kernel
theorem dX7_of_114 : decode cX7_of 114 = .ok (.ireturn, 1) := by decide +kernel
theorem dX7_count_0 : decode cX7_count 0 = .ok (.iload_n 1, 1) := by decide +kernel
theorem dX7_count_1 : decode cX7_count 1 = .ok (.tableswitch 130 0 7 #[47, 55, 71, 93, 101, 109, 114, 122], 47) := by decide +kernel
theorem dX7_count_48 : decode cX7_count 48 = .ok (.aload_n 0, 1) := by decide +kernel
theorem dX7_count_49 : decode cX7_count 49 = .ok (.getfield 39, 3) := by decide +kernel
theorem dX7_count_52 : decode cX7_count 52 = .ok (.getfield 109, 3) := by decide +kernel
theorem dX7_count_55 : decode cX7_count 55 = .ok (.ireturn, 1) := by decide +kernel
theorem dX7_count_56 : decode cX7_count 56 = .ok (.aload_n 0, 1) := by decide +kernel
theorem dX7_count_57 : decode cX7_count 57 = .ok (.getfield 39, 3) := by decide +kernel
theorem dX7_count_60 : decode cX7_count 60 = .ok (.getfield 102, 3) := by decide +kernel
theorem dX7_count_63 : decode cX7_count 63 = .ok (.ifCond .eq 7, 3) := by decide +kernel
theorem dX7_count_66 : decode cX7_count 66 = .ok (.iconst 1, 1) := by decide +kernel
theorem dX7_count_67 : decode cX7_count 67 = .ok (.goto 4, 3) := by decide +kernel
theorem dX7_count_70 : decode cX7_count 70 = .ok (.iconst 0, 1) := by decide +kernel
theorem dX7_count_71 : decode cX7_count 71 = .ok (.ireturn, 1) := by decide +kernel
theorem dX7_count_72 : decode cX7_count 72 = .ok (.aload_n 0, 1) := by decide +kernel
theorem dX7_count_73 : decode cX7_count 73 = .ok (.getfield 39, 3) := by decide +kernel
theorem dX7_count_76 : decode cX7_count 76 = .ok (.getfield 102, 3) := by decide +kernel
theorem dX7_count_79 : decode cX7_count 79 = .ok (.ifCond .eq 13, 3) := by decide +kernel
theorem dX7_count_82 : decode cX7_count 82 = .ok (.aload_n 0, 1) := by decide +kernel
theorem dX7_count_83 : decode cX7_count 83 = .ok (.getfield 39, 3) := by decide +kernel
theorem dX7_count_86 : decode cX7_count 86 = .ok (.getfield 199, 3) := by decide +kernel
theorem dX7_count_89 : decode cX7_count 89 = .ok (.goto 4, 3) := by decide +kernel
theorem dX7_count_92 : decode cX7_count 92 = .ok (.iconst (-1), 1) := by decide +kernel
theorem dX7_count_93 : decode cX7_count 93 = .ok (.ireturn, 1) := by decide +kernel
theorem dX7_count_94 : decode cX7_count 94 = .ok (.aload_n 0, 1) := by decide +kernel
theorem dX7_count_95 : decode cX7_count 95 = .ok (.getfield 39, 3) := by decide +kernel
theorem dX7_count_98 : decode cX7_count 98 = .ok (.getfield 217, 3) := by decide +kernel
theorem dX7_count_101 : decode cX7_count 101 = .ok (.ireturn, 1) := by decide +kernel
theorem dX7_count_102 : decode cX7_count 102 = .ok (.aload_n 0, 1) := by decide +kernel
theorem dX7_count_103 : decode cX7_count 103 = .ok (.getfield 39, 3) := by decide +kernel
theorem dX7_count_106 : decode cX7_count 106 = .ok (.getfield 124, 3) := by decide +kernel
theorem dX7_count_109 : decode cX7_count 109 = .ok (.ireturn, 1) := by decide +kernel
theorem dX7_count_110 : decode cX7_count 110 = .ok (.aload_n 0, 1) := by decide +kernel
theorem dX7_count_111 : decode cX7_count 111 = .ok (.getfield 76, 3) := by decide +kernel
theorem dX7_count_114 : decode cX7_count 114 = .ok (.ireturn, 1) := by decide +kernel
theorem dX7_count_115 : decode cX7_count 115 = .ok (.aload_n 0, 1) := by decide +kernel
theorem dX7_count_116 : decode cX7_count 116 = .ok (.getfield 65, 3) := by decide +kernel
theorem dX7_count_119 : decode cX7_count 119 = .ok (.getfield 220, 3) := by decide +kernel
theorem dX7_count_122 : decode cX7_count 122 = .ok (.ireturn, 1) := by decide +kernel
theorem dX7_count_123 : decode cX7_count 123 = .ok (.aload_n 0, 1) := by decide +kernel
theorem dX7_count_124 : decode cX7_count 124 = .ok (.getfield 39, 3) := by decide +kernel
theorem dX7_count_127 : decode cX7_count 127 = .ok (.getfield 223, 3) := by decide +kernel
theorem dX7_count_130 : decode cX7_count 130 = .ok (.ireturn, 1) := by decide +kernel
theorem dX7_count_131 : decode cX7_count 131 = .ok (.iconst (-1), 1) := by decide +kernel
theorem dX7_count_132 : decode cX7_count 132 = .ok (.ireturn, 1) := by decide +kernel
theorem dX7_served_0 : decode cX7_served 0 = .ok (.iload_n 1, 1) := by decide +kernel
theorem dX7_served_1 : decode cX7_served 1 = .ok (.invokestatic 83, 3) := by decide +kernel
theorem dX7_served_4 : decode cX7_served 4 = .ok (.ifCond .eq 10, 3) := by decide +kernel
theorem dX7_served_7 : decode cX7_served 7 = .ok (.iload_n 2, 1) := by decide +kernel
theorem dX7_served_8 : decode cX7_served 8 = .ok (.invokestatic 87, 3) := by decide +kernel
theorem dX7_served_11 : decode cX7_served 11 = .ok (.ifCond .ne 5, 3) := by decide +kernel
theorem dX7_served_14 : decode cX7_served 14 = .ok (.iconst (-1), 1) := by decide +kernel
theorem dX7_served_15 : decode cX7_served 15 = .ok (.ireturn, 1) := by decide +kernel
theorem dX7_served_16 : decode cX7_served 16 = .ok (.aload_n 0, 1) := by decide +kernel
theorem dX7_served_17 : decode cX7_served 17 = .ok (.iload_n 1, 1) := by decide +kernel
theorem dX7_served_18 : decode cX7_served 18 = .ok (.invokevirtual 159, 3) := by decide +kernel
theorem dX7_served_21 : decode cX7_served 21 = .ok (.getfield 226, 3) := by decide +kernel
theorem dX7_served_24 : decode cX7_served 24 = .ok (.iload_n 2, 1) := by decide +kernel
theorem dX7_served_25 : decode cX7_served 25 = .ok (.iaload, 1) := by decide +kernel
theorem dX7_served_26 : decode cX7_served 26 = .ok (.ireturn, 1) := by decide +kernel
theorem dX7_feet_0 : decode cX7_feet 0 = .ok (.iload_n 1, 1) := by decide +kernel
theorem dX7_feet_1 : decode cX7_feet 1 = .ok (.invokestatic 83, 3) := by decide +kernel
theorem dX7_feet_4 : decode cX7_feet 4 = .ok (.ifCond .eq 23, 3) := by decide +kernel
theorem dX7_feet_7 : decode cX7_feet 7 = .ok (.iload_n 2, 1) := by decide +kernel
theorem dX7_feet_8 : decode cX7_feet 8 = .ok (.ifCond .lt 19, 3) := by decide +kernel
theorem dX7_feet_11 : decode cX7_feet 11 = .ok (.iload_n 2, 1) := by decide +kernel
theorem dX7_feet_12 : decode cX7_feet 12 = .ok (.bipush 6, 2) := by decide +kernel
theorem dX7_feet_14 : decode cX7_feet 14 = .ok (.if_icmp .ge 13, 3) := by decide +kernel
theorem dX7_feet_17 : decode cX7_feet 17 = .ok (.aload_n 0, 1) := by decide +kernel
theorem dX7_feet_18 : decode cX7_feet 18 = .ok (.getfield 39, 3) := by decide +kernel
theorem dX7_feet_21 : decode cX7_feet 21 = .ok (.getfield 102, 3) := by decide +kernel
theorem dX7_feet_24 : decode cX7_feet 24 = .ok (.ifCond .ne 5, 3) := by decide +kernel
theorem dX7_feet_27 : decode cX7_feet 27 = .ok (.iconst 0, 1) := by decide +kernel
theorem dX7_feet_28 : decode cX7_feet 28 = .ok (.ireturn, 1) := by decide +kernel
theorem dX7_feet_29 : decode cX7_feet 29 = .ok (.iload_n 3, 1) := by decide +kernel
theorem dX7_feet_30 : decode cX7_feet 30 = .ok (.ifCond .lt 23, 3) := by decide +kernel
theorem dX7_feet_33 : decode cX7_feet 33 = .ok (.iload_n 3, 1) := by decide +kernel
theorem dX7_feet_34 : decode cX7_feet 34 = .ok (.sipush 999, 3) := by decide +kernel
theorem dX7_feet_37 : decode cX7_feet 37 = .ok (.if_icmp .gt 16, 3) := by decide +kernel
theorem dX7_feet_40 : decode cX7_feet 40 = .ok (.iload 4, 2) := by decide +kernel
theorem dX7_feet_42 : decode cX7_feet 42 = .ok (.ifCond .lt 11, 3) := by decide +kernel
theorem dX7_feet_45 : decode cX7_feet 45 = .ok (.iload 4, 2) := by decide +kernel
theorem dX7_feet_47 : decode cX7_feet 47 = .ok (.sipush 999, 3) := by decide +kernel
theorem dX7_feet_50 : decode cX7_feet 50 = .ok (.if_icmp .le 5, 3) := by decide +kernel
theorem dX7_feet_53 : decode cX7_feet 53 = .ok (.iconst 0, 1) := by decide +kernel
theorem dX7_feet_54 : decode cX7_feet 54 = .ok (.ireturn, 1) := by decide +kernel
theorem dX7_feet_55 : decode cX7_feet 55 = .ok (.aload_n 0, 1) := by decide +kernel
theorem dX7_feet_56 : decode cX7_feet 56 = .ok (.iload_n 1, 1) := by decide +kernel
theorem dX7_feet_57 : decode cX7_feet 57 = .ok (.invokevirtual 230, 3) := by decide +kernel
theorem dX7_feet_60 : decode cX7_feet 60 = .ok (.iload_n 2, 1) := by decide +kernel
theorem dX7_feet_61 : decode cX7_feet 61 = .ok (.iload_n 3, 1) := by decide +kernel
theorem dX7_feet_62 : decode cX7_feet 62 = .ok (.iload 4, 2) := by decide +kernel
theorem dX7_feet_64 : decode cX7_feet 64 = .ok (.invokevirtual 234, 3) := by decide +kernel
theorem dX7_feet_67 : decode cX7_feet 67 = .ok (.iconst 1, 1) := by decide +kernel
theorem dX7_feet_68 : decode cX7_feet 68 = .ok (.ireturn, 1) := by decide +kernel
theorem dX7_overlap_0 : decode cX7_overlap 0 = .ok (.iload_n 1, 1) := by decide +kernel
theorem dX7_overlap_1 : decode cX7_overlap 1 = .ok (.invokestatic 83, 3) := by decide +kernel
theorem dX7_overlap_4 : decode cX7_overlap 4 = .ok (.ifCond .eq 13, 3) := by decide +kernel
theorem dX7_overlap_7 : decode cX7_overlap 7 = .ok (.aload_n 0, 1) := by decide +kernel
theorem dX7_overlap_8 : decode cX7_overlap 8 = .ok (.getfield 39, 3) := by decide +kernel
theorem dX7_overlap_11 : decode cX7_overlap 11 = .ok (.getfield 102, 3) := by decide +kernel
theorem dX7_overlap_14 : decode cX7_overlap 14 = .ok (.ifCond .ne 5, 3) := by decide +kernel
theorem dX7_overlap_17 : decode cX7_overlap 17 = .ok (.iconst (-1), 1) := by decide +kernel
theorem dX7_overlap_18 : decode cX7_overlap 18 = .ok (.ireturn, 1) := by decide +kernel
theorem dX7_overlap_19 : decode cX7_overlap 19 = .ok (.aload_n 0, 1) := by decide +kernel
theorem dX7_overlap_20 : decode cX7_overlap 20 = .ok (.iload_n 1, 1) := by decide +kernel
theorem dX7_overlap_21 : decode cX7_overlap 21 = .ok (.invokevirtual 230, 3) := by decide +kernel
theorem dX7_overlap_24 : decode cX7_overlap 24 = .ok (.iload_n 1, 1) := by decide +kernel
theorem dX7_overlap_25 : decode cX7_overlap 25 = .ok (.aload_n 0, 1) := by decide +kernel
theorem dX7_overlap_26 : decode cX7_overlap 26 = .ok (.getfield 39, 3) := by decide +kernel
theorem dX7_overlap_29 : decode cX7_overlap 29 = .ok (.getfield 199, 3) := by decide +kernel
theorem dX7_overlap_32 : decode cX7_overlap 32 = .ok (.if_icmp .ne 7, 3) := by decide +kernel
theorem dX7_overlap_35 : decode cX7_overlap 35 = .ok (.iconst 1, 1) := by decide +kernel
theorem dX7_overlap_36 : decode cX7_overlap 36 = .ok (.goto 4, 3) := by decide +kernel
theorem dX7_overlap_39 : decode cX7_overlap 39 = .ok (.iconst 0, 1) := by decide +kernel
theorem dX7_overlap_40 : decode cX7_overlap 40 = .ok (.invokevirtual 237, 3) := by decide +kernel
theorem dX7_overlap_43 : decode cX7_overlap 43 = .ok (.ireturn, 1) := by decide +kernel
theorem dX7_sign_0 : decode cX7_sign 0 = .ok (.aload_n 0, 1) := by decide +kernel
theorem dX7_sign_1 : decode cX7_sign 1 = .ok (.getfield 65, 3) := by decide +kernel
theorem dX7_sign_4 : decode cX7_sign 4 = .ok (.getfield 220, 3) := by decide +kernel
theorem dX7_sign_7 : decode cX7_sign 7 = .ok (.iconst 4, 1) := by decide +kernel
theorem dX7_sign_8 : decode cX7_sign 8 = .ok (.iadd, 1) := by decide +kernel
theorem dX7_sign_9 : decode cX7_sign 9 = .ok (.bipush 100, 2) := by decide +kernel
theorem dX7_sign_11 : decode cX7_sign 11 = .ok (.if_icmp .le 5, 3) := by decide +kernel
theorem dX7_sign_14 : decode cX7_sign 14 = .ok (.iconst (-1), 1) := by decide +kernel
theorem dX7_sign_15 : decode cX7_sign 15 = .ok (.ireturn, 1) := by decide +kernel
theorem dX7_sign_16 : decode cX7_sign 16 = .ok (.aload_n 0, 1) := by decide +kernel
theorem dX7_sign_17 : decode cX7_sign 17 = .ok (.getfield 65, 3) := by decide +kernel
theorem dX7_sign_20 : decode cX7_sign 20 = .ok (.iload_n 1, 1) := by decide +kernel
theorem dX7_sign_21 : decode cX7_sign 21 = .ok (.bipush 24, 2) := by decide +kernel
theorem dX7_sign_23 : decode cX7_sign 23 = .ok (.iushr, 1) := by decide +kernel
theorem dX7_sign_24 : decode cX7_sign 24 = .ok (.sipush 255, 3) := by decide +kernel
theorem dX7_sign_27 : decode cX7_sign 27 = .ok (.iand, 1) := by decide +kernel
theorem dX7_sign_28 : decode cX7_sign 28 = .ok (.i2c, 1) := by decide +kernel
theorem dX7_sign_29 : decode cX7_sign 29 = .ok (.invokevirtual 241, 3) := by decide +kernel
theorem dX7_sign_32 : decode cX7_sign 32 = .ok (.aload_n 0, 1) := by decide +kernel
theorem dX7_sign_33 : decode cX7_sign 33 = .ok (.getfield 65, 3) := by decide +kernel
theorem dX7_sign_36 : decode cX7_sign 36 = .ok (.iload_n 1, 1) := by decide +kernel
theorem dX7_sign_37 : decode cX7_sign 37 = .ok (.bipush 16, 2) := by decide +kernel
theorem dX7_sign_39 : decode cX7_sign 39 = .ok (.iushr, 1) := by decide +kernel
theorem dX7_sign_40 : decode cX7_sign 40 = .ok (.sipush 255, 3) := by decide +kernel
theorem dX7_sign_43 : decode cX7_sign 43 = .ok (.iand, 1) := by decide +kernel
theorem dX7_sign_44 : decode cX7_sign 44 = .ok (.i2c, 1) := by decide +kernel
theorem dX7_sign_45 : decode cX7_sign 45 = .ok (.invokevirtual 241, 3) := by decide +kernel
theorem dX7_sign_48 : decode cX7_sign 48 = .ok (.aload_n 0, 1) := by decide +kernel
theorem dX7_sign_49 : decode cX7_sign 49 = .ok (.getfield 65, 3) := by decide +kernel
theorem dX7_sign_52 : decode cX7_sign 52 = .ok (.iload_n 1, 1) := by decide +kernel
theorem dX7_sign_53 : decode cX7_sign 53 = .ok (.bipush 8, 2) := by decide +kernel
theorem dX7_sign_55 : decode cX7_sign 55 = .ok (.iushr, 1) := by decide +kernel
theorem dX7_sign_56 : decode cX7_sign 56 = .ok (.sipush 255, 3) := by decide +kernel
theorem dX7_sign_59 : decode cX7_sign 59 = .ok (.iand, 1) := by decide +kernel
theorem dX7_sign_60 : decode cX7_sign 60 = .ok (.i2c, 1) := by decide +kernel
theorem dX7_sign_61 : decode cX7_sign 61 = .ok (.invokevirtual 241, 3) := by decide +kernel
theorem dX7_sign_64 : decode cX7_sign 64 = .ok (.aload_n 0, 1) := by decide +kernel
theorem dX7_sign_65 : decode cX7_sign 65 = .ok (.getfield 65, 3) := by decide +kernel
theorem dX7_sign_68 : decode cX7_sign 68 = .ok (.iload_n 1, 1) := by decide +kernel
theorem dX7_sign_69 : decode cX7_sign 69 = .ok (.sipush 255, 3) := by decide +kernel
theorem dX7_sign_72 : decode cX7_sign 72 = .ok (.iand, 1) := by decide +kernel
theorem dX7_sign_73 : decode cX7_sign 73 = .ok (.i2c, 1) := by decide +kernel
theorem dX7_sign_74 : decode cX7_sign 74 = .ok (.invokevirtual 241, 3) := by decide +kernel
theorem dX7_sign_77 : decode cX7_sign 77 = .ok (.aload_n 0, 1) := by decide +kernel
theorem dX7_sign_78 : decode cX7_sign 78 = .ok (.getfield 65, 3) := by decide +kernel
theorem dX7_sign_81 : decode cX7_sign 81 = .ok (.getfield 220, 3) := by decide +kernel
theorem dX7_sign_84 : decode cX7_sign 84 = .ok (.ireturn, 1) := by decide +kernel
theorem dX7_end_0 : decode cX7_end 0 = .ok (.iload_n 1, 1) := by decide +kernel
theorem dX7_end_1 : decode cX7_end 1 = .ok (.ifCond .lt 14, 3) := by decide +kernel
theorem dX7_end_4 : decode cX7_end 4 = .ok (.iload_n 1, 1) := by decide +kernel
theorem dX7_end_5 : decode cX7_end 5 = .ok (.aload_n 0, 1) := by decide +kernel
theorem dX7_end_6 : decode cX7_end 6 = .ok (.getfield 65, 3) := by decide +kernel
theorem dX7_end_9 : decode cX7_end 9 = .ok (.getfield 220, 3) := by decide +kernel
theorem dX7_end_12 : decode cX7_end 12 = .ok (.if_icmp .le 5, 3) := by decide +kernel
theorem dX7_end_15 : decode cX7_end 15 = .ok (.iconst 0, 1) := by decide +kernel
theorem dX7_end_16 : decode cX7_end 16 = .ok (.ireturn, 1) := by decide +kernel
theorem dX7_end_17 : decode cX7_end 17 = .ok (.aload_n 0, 1) := by decide +kernel
theorem dX7_end_18 : decode cX7_end 18 = .ok (.getfield 65, 3) := by decide +kernel
theorem dX7_end_21 : decode cX7_end 21 = .ok (.iload_n 1, 1) := by decide +kernel
theorem dX7_end_22 : decode cX7_end 22 = .ok (.putfield 220, 3) := by decide +kernel
theorem dX7_end_25 : decode cX7_end 25 = .ok (.iconst 1, 1) := by decide +kernel
theorem dX7_end_26 : decode cX7_end 26 = .ok (.ireturn, 1) := by decide +kernel
theorem dX7_sheet_0 : decode cX7_sheet 0 = .ok (.aload_n 0, 1) := by decide +kernel
theorem dX7_sheet_1 : decode cX7_sheet 1 = .ok (.getfield 65, 3) := by decide +kernel
theorem dX7_sheet_4 : decode cX7_sheet 4 = .ok (.getfield 220, 3) := by decide +kernel
theorem dX7_sheet_7 : decode cX7_sheet 7 = .ok (.istore_n 1, 1) := by decide +kernel
theorem dX7_sheet_8 : decode cX7_sheet 8 = .ok (.aload_n 0, 1) := by decide +kernel
theorem dX7_sheet_9 : decode cX7_sheet 9 = .ok (.getfield 65, 3) := by decide +kernel
theorem dX7_sheet_12 : decode cX7_sheet 12 = .ok (.iconst 0, 1) := by decide +kernel
theorem dX7_sheet_13 : decode cX7_sheet 13 = .ok (.putfield 220, 3) := by decide +kernel
theorem dX7_sheet_16 : decode cX7_sheet 16 = .ok (.aload_n 0, 1) := by decide +kernel
theorem dX7_sheet_17 : decode cX7_sheet 17 = .ok (.getfield 39, 3) := by decide +kernel
theorem dX7_sheet_20 : decode cX7_sheet 20 = .ok (.getfield 102, 3) := by decide +kernel
theorem dX7_sheet_23 : decode cX7_sheet 23 = .ok (.ifCond .ne 6, 3) := by decide +kernel
theorem dX7_sheet_26 : decode cX7_sheet 26 = .ok (.bipush (-100), 2) := by decide +kernel
theorem dX7_sheet_28 : decode cX7_sheet 28 = .ok (.ireturn, 1) := by decide +kernel
theorem dX7_sheet_29 : decode cX7_sheet 29 = .ok (.aload_n 0, 1) := by decide +kernel
theorem dX7_sheet_30 : decode cX7_sheet 30 = .ok (.getfield 65, 3) := by decide +kernel
theorem dX7_sheet_33 : decode cX7_sheet 33 = .ok (.iload_n 1, 1) := by decide +kernel
theorem dX7_sheet_34 : decode cX7_sheet 34 = .ok (.invokevirtual 245, 3) := by decide +kernel
theorem dX7_sheet_37 : decode cX7_sheet 37 = .ok (.istore_n 2, 1) := by decide +kernel
theorem dX7_sheet_38 : decode cX7_sheet 38 = .ok (.iload_n 2, 1) := by decide +kernel
theorem dX7_sheet_39 : decode cX7_sheet 39 = .ok (.iconst (-1), 1) := by decide +kernel
theorem dX7_sheet_40 : decode cX7_sheet 40 = .ok (.if_icmp .eq 7, 3) := by decide +kernel
theorem dX7_sheet_43 : decode cX7_sheet 43 = .ok (.iconst (-1), 1) := by decide +kernel
theorem dX7_sheet_44 : decode cX7_sheet 44 = .ok (.iload_n 2, 1) := by decide +kernel
theorem dX7_sheet_45 : decode cX7_sheet 45 = .ok (.isub, 1) := by decide +kernel
theorem dX7_sheet_46 : decode cX7_sheet 46 = .ok (.ireturn, 1) := by decide +kernel
theorem dX7_sheet_47 : decode cX7_sheet 47 = .ok (.aload_n 0, 1) := by decide +kernel
theorem dX7_sheet_48 : decode cX7_sheet 48 = .ok (.iload_n 1, 1) := by decide +kernel
theorem dX7_sheet_49 : decode cX7_sheet 49 = .ok (.invokevirtual 248, 3) := by decide +kernel
theorem dX7_sheet_52 : decode cX7_sheet 52 = .ok (.ireturn, 1) := by decide +kernel
theorem dX7_odds_0 : decode cX7_odds 0 = .ok (.iload_n 3, 1) := by decide +kernel
theorem dX7_odds_1 : decode cX7_odds 1 = .ok (.invokestatic 83, 3) := by decide +kernel
theorem dX7_odds_4 : decode cX7_odds 4 = .ok (.ifCond .eq 33, 3) := by decide +kernel
theorem dX7_odds_7 : decode cX7_odds 7 = .ok (.iload_n 1, 1) := by decide +kernel
theorem dX7_odds_8 : decode cX7_odds 8 = .ok (.ifCond .lt 29, 3) := by decide +kernel
theorem dX7_odds_11 : decode cX7_odds 11 = .ok (.iload_n 1, 1) := by decide +kernel
theorem dX7_odds_12 : decode cX7_odds 12 = .ok (.bipush 6, 2) := by decide +kernel
theorem dX7_odds_14 : decode cX7_odds 14 = .ok (.if_icmp .ge 23, 3) := by decide +kernel
theorem dX7_odds_17 : decode cX7_odds 17 = .ok (.iload_n 2, 1) := by decide +kernel
theorem dX7_odds_18 : decode cX7_odds 18 = .ok (.ifCond .lt 19, 3) := by decide +kernel
theorem dX7_odds_21 : decode cX7_odds 21 = .ok (.iload_n 2, 1) := by decide +kernel
theorem dX7_odds_22 : decode cX7_odds 22 = .ok (.bipush 6, 2) := by decide +kernel
theorem dX7_odds_24 : decode cX7_odds 24 = .ok (.if_icmp .ge 13, 3) := by decide +kernel
theorem dX7_odds_27 : decode cX7_odds 27 = .ok (.aload_n 0, 1) := by decide +kernel
theorem dX7_odds_28 : decode cX7_odds 28 = .ok (.getfield 39, 3) := by decide +kernel
theorem dX7_odds_31 : decode cX7_odds 31 = .ok (.getfield 102, 3) := by decide +kernel
theorem dX7_odds_34 : decode cX7_odds 34 = .ok (.ifCond .ne 5, 3) := by decide +kernel
theorem dX7_odds_37 : decode cX7_odds 37 = .ok (.iconst (-1), 1) := by decide +kernel
theorem dX7_odds_38 : decode cX7_odds 38 = .ok (.ireturn, 1) := by decide +kernel
theorem dX7_odds_39 : decode cX7_odds 39 = .ok (.aload_n 0, 1) := by decide +kernel
theorem dX7_odds_40 : decode cX7_odds 40 = .ok (.invokevirtual 251, 3) := by decide +kernel
theorem dX7_odds_43 : decode cX7_odds 43 = .ok (.aload_n 0, 1) := by decide +kernel
theorem dX7_odds_44 : decode cX7_odds 44 = .ok (.getfield 72, 3) := by decide +kernel
theorem dX7_odds_47 : decode cX7_odds 47 = .ok (.aload_n 0, 1) := by decide +kernel
theorem dX7_odds_48 : decode cX7_odds 48 = .ok (.getfield 19, 3) := by decide +kernel
theorem dX7_odds_51 : decode cX7_odds 51 = .ok (.aload_n 0, 1) := by decide +kernel
theorem dX7_odds_52 : decode cX7_odds 52 = .ok (.getfield 23, 3) := by decide +kernel
theorem dX7_odds_55 : decode cX7_odds 55 = .ok (.iload_n 1, 1) := by decide +kernel
theorem dX7_odds_56 : decode cX7_odds 56 = .ok (.iload_n 2, 1) := by decide +kernel
theorem dX7_odds_57 : decode cX7_odds 57 = .ok (.iload_n 3, 1) := by decide +kernel
theorem dX7_odds_58 : decode cX7_odds 58 = .ok (.invokevirtual 254, 3) := by decide +kernel
theorem dX7_odds_61 : decode cX7_odds 61 = .ok (.ireturn, 1) := by decide +kernel
theorem dX7_chance_0 : decode cX7_chance 0 = .ok (.aload_n 0, 1) := by decide +kernel
theorem dX7_chance_1 : decode cX7_chance 1 = .ok (.getfield 39, 3) := by decide +kernel
theorem dX7_chance_4 : decode cX7_chance 4 = .ok (.getfield 102, 3) := by decide +kernel
theorem dX7_chance_7 : decode cX7_chance 7 = .ok (.ifCond .ne 5, 3) := by decide +kernel
theorem dX7_chance_10 : decode cX7_chance 10 = .ok (.iconst (-1), 1) := by decide +kernel
theorem dX7_chance_11 : decode cX7_chance 11 = .ok (.ireturn, 1) := by decide +kernel
theorem dX7_chance_12 : decode cX7_chance 12 = .ok (.aload_n 0, 1) := by decide +kernel
theorem dX7_chance_13 : decode cX7_chance 13 = .ok (.invokevirtual 258, 3) := by decide +kernel
theorem dX7_chance_16 : decode cX7_chance 16 = .ok (.ireturn, 1) := by decide +kernel
theorem dX7_weight_0 : decode cX7_weight 0 = .ok (.aload_n 0, 1) := by decide +kernel
theorem dX7_weight_1 : decode cX7_weight 1 = .ok (.getfield 39, 3) := by decide +kernel
theorem dX7_weight_4 : decode cX7_weight 4 = .ok (.getfield 102, 3) := by decide +kernel
theorem dX7_weight_7 : decode cX7_weight 7 = .ok (.ifCond .ne 5, 3) := by decide +kernel
theorem dX7_weight_10 : decode cX7_weight 10 = .ok (.iconst (-1), 1) := by decide +kernel
theorem dX7_weight_11 : decode cX7_weight 11 = .ok (.ireturn, 1) := by decide +kernel
theorem dX7_weight_12 : decode cX7_weight 12 = .ok (.aload_n 0, 1) := by decide +kernel
theorem dX7_weight_13 : decode cX7_weight 13 = .ok (.invokevirtual 258, 3) := by decide +kernel
theorem dX7_weight_16 : decode cX7_weight 16 = .ok (.pop, 1) := by decide +kernel
theorem dX7_weight_17 : decode cX7_weight 17 = .ok (.aload_n 0, 1) := by decide +kernel
theorem dX7_weight_18 : decode cX7_weight 18 = .ok (.getfield 72, 3) := by decide +kernel
theorem dX7_weight_21 : decode cX7_weight 21 = .ok (.aload_n 0, 1) := by decide +kernel
theorem dX7_weight_22 : decode cX7_weight 22 = .ok (.getfield 29, 3) := by decide +kernel
theorem dX7_weight_25 : decode cX7_weight 25 = .ok (.getfield 202, 3) := by decide +kernel
theorem dX7_weight_28 : decode cX7_weight 28 = .ok (.aload_n 0, 1) := by decide +kernel
theorem dX7_weight_29 : decode cX7_weight 29 = .ok (.getfield 33, 3) := by decide +kernel
theorem dX7_weight_32 : decode cX7_weight 32 = .ok (.getfield 202, 3) := by decide +kernel
theorem dX7_weight_35 : decode cX7_weight 35 = .ok (.invokevirtual 261, 3) := by decide +kernel
theorem dX7_weight_38 : decode cX7_weight 38 = .ok (.ireturn, 1) := by decide +kernel
theorem dX7_turn_0 : decode cX7_turn 0 = .ok (.iload_n 1, 1) := by decide +kernel
theorem dX7_turn_1 : decode cX7_turn 1 = .ok (.invokestatic 83, 3) := by decide +kernel
theorem dX7_turn_4 : decode cX7_turn 4 = .ok (.ifCond .eq 30, 3) := by decide +kernel
theorem dX7_turn_7 : decode cX7_turn 7 = .ok (.iload_n 2, 1) := by decide +kernel
theorem dX7_turn_8 : decode cX7_turn 8 = .ok (.invokestatic 83, 3) := by decide +kernel
theorem dX7_turn_11 : decode cX7_turn 11 = .ok (.ifCond .eq 23, 3) := by decide +kernel
theorem dX7_turn_14 : decode cX7_turn 14 = .ok (.aload_n 0, 1) := by decide +kernel
theorem dX7_turn_15 : decode cX7_turn 15 = .ok (.getfield 19, 3) := by decide +kernel
theorem dX7_turn_18 : decode cX7_turn 18 = .ok (.getfield 147, 3) := by decide +kernel
theorem dX7_turn_21 : decode cX7_turn 21 = .ok (.ifCond .eq 13, 3) := by decide +kernel
theorem dX7_turn_24 : decode cX7_turn 24 = .ok (.aload_n 0, 1) := by decide +kernel
theorem dX7_turn_25 : decode cX7_turn 25 = .ok (.getfield 23, 3) := by decide +kernel
theorem dX7_turn_28 : decode cX7_turn 28 = .ok (.getfield 147, 3) := by decide +kernel
theorem dX7_turn_31 : decode cX7_turn 31 = .ok (.ifCond .ne 5, 3) := by decide +kernel
theorem dX7_turn_34 : decode cX7_turn 34 = .ok (.iconst (-1), 1) := by decide +kernel
theorem dX7_turn_35 : decode cX7_turn 35 = .ok (.ireturn, 1) := by decide +kernel
theorem dX7_turn_36 : decode cX7_turn 36 = .ok (.iconst (-1), 1) := by decide +kernel
theorem dX7_turn_37 : decode cX7_turn 37 = .ok (.istore_n 3, 1) := by decide +kernel
theorem dX7_turn_38 : decode cX7_turn 38 = .ok (.iconst 0, 1) := by decide +kernel
theorem dX7_turn_39 : decode cX7_turn 39 = .ok (.istore 4, 2) := by decide +kernel
theorem dX7_turn_41 : decode cX7_turn 41 = .ok (.iconst 0, 1) := by decide +kernel
theorem dX7_turn_42 : decode cX7_turn 42 = .ok (.istore 5, 2) := by decide +kernel
theorem dX7_turn_44 : decode cX7_turn 44 = .ok (.iload 5, 2) := by decide +kernel
theorem dX7_turn_46 : decode cX7_turn 46 = .ok (.bipush 6, 2) := by decide +kernel
theorem dX7_turn_48 : decode cX7_turn 48 = .ok (.if_icmp .ge 92, 3) := by decide +kernel
theorem dX7_turn_51 : decode cX7_turn 51 = .ok (.aload_n 0, 1) := by decide +kernel
theorem dX7_turn_52 : decode cX7_turn 52 = .ok (.getfield 72, 3) := by decide +kernel
theorem dX7_turn_55 : decode cX7_turn 55 = .ok (.iconst 0, 1) := by decide +kernel
theorem dX7_turn_56 : decode cX7_turn 56 = .ok (.aload_n 0, 1) := by decide +kernel
theorem dX7_turn_57 : decode cX7_turn 57 = .ok (.getfield 19, 3) := by decide +kernel
theorem dX7_turn_60 : decode cX7_turn 60 = .ok (.getfield 264, 3) := by decide +kernel
theorem dX7_turn_63 : decode cX7_turn 63 = .ok (.iload_n 1, 1) := by decide +kernel
theorem dX7_turn_64 : decode cX7_turn 64 = .ok (.ifCond .ne 8, 3) := by decide +kernel
theorem dX7_turn_67 : decode cX7_turn 67 = .ok (.iload 5, 2) := by decide +kernel
theorem dX7_turn_69 : decode cX7_turn 69 = .ok (.goto 4, 3) := by decide +kernel
theorem dX7_turn_72 : decode cX7_turn 72 = .ok (.iconst 0, 1) := by decide +kernel
theorem dX7_turn_73 : decode cX7_turn 73 = .ok (.invokevirtual 267, 3) := by decide +kernel
theorem dX7_turn_76 : decode cX7_turn 76 = .ok (.aload_n 0, 1) := by decide +kernel
theorem dX7_turn_77 : decode cX7_turn 77 = .ok (.getfield 72, 3) := by decide +kernel
theorem dX7_turn_80 : decode cX7_turn 80 = .ok (.iconst 1, 1) := by decide +kernel
theorem dX7_turn_81 : decode cX7_turn 81 = .ok (.aload_n 0, 1) := by decide +kernel
theorem dX7_turn_82 : decode cX7_turn 82 = .ok (.getfield 23, 3) := by decide +kernel
theorem dX7_turn_85 : decode cX7_turn 85 = .ok (.getfield 264, 3) := by decide +kernel
theorem dX7_turn_88 : decode cX7_turn 88 = .ok (.iload_n 1, 1) := by decide +kernel
theorem dX7_turn_89 : decode cX7_turn 89 = .ok (.iconst 1, 1) := by decide +kernel
theorem dX7_turn_90 : decode cX7_turn 90 = .ok (.if_icmp .ne 8, 3) := by decide +kernel
theorem dX7_turn_93 : decode cX7_turn 93 = .ok (.iload 5, 2) := by decide +kernel
theorem dX7_turn_95 : decode cX7_turn 95 = .ok (.goto 4, 3) := by decide +kernel
theorem dX7_turn_98 : decode cX7_turn 98 = .ok (.iconst 0, 1) := by decide +kernel
theorem dX7_turn_99 : decode cX7_turn 99 = .ok (.invokevirtual 267, 3) := by decide +kernel
theorem dX7_turn_102 : decode cX7_turn 102 = .ok (.aload_n 0, 1) := by decide +kernel
theorem dX7_turn_103 : decode cX7_turn 103 = .ok (.iload_n 2, 1) := by decide +kernel
theorem dX7_turn_104 : decode cX7_turn 104 = .ok (.iconst 0, 1) := by decide +kernel
theorem dX7_turn_105 : decode cX7_turn 105 = .ok (.iconst 0, 1) := by decide +kernel
theorem dX7_turn_106 : decode cX7_turn 106 = .ok (.invokevirtual 271, 3) := by decide +kernel
theorem dX7_turn_109 : decode cX7_turn 109 = .ok (.istore 6, 2) := by decide +kernel
theorem dX7_turn_111 : decode cX7_turn 111 = .ok (.iload_n 3, 1) := by decide +kernel
theorem dX7_turn_112 : decode cX7_turn 112 = .ok (.iconst (-1), 1) := by decide +kernel
theorem dX7_turn_113 : decode cX7_turn 113 = .ok (.if_icmp .eq 14, 3) := by decide +kernel
theorem dX7_turn_116 : decode cX7_turn 116 = .ok (.iload_n 1, 1) := by decide +kernel
theorem dX7_turn_117 : decode cX7_turn 117 = .ok (.iload 6, 2) := by decide +kernel
theorem dX7_turn_119 : decode cX7_turn 119 = .ok (.iload 4, 2) := by decide +kernel
theorem dX7_turn_121 : decode cX7_turn 121 = .ok (.invokestatic 274, 3) := by decide +kernel
theorem dX7_turn_124 : decode cX7_turn 124 = .ok (.ifCond .eq 10, 3) := by decide +kernel
theorem dX7_turn_127 : decode cX7_turn 127 = .ok (.iload 5, 2) := by decide +kernel
theorem dX7_turn_129 : decode cX7_turn 129 = .ok (.istore_n 3, 1) := by decide +kernel
theorem dX7_turn_130 : decode cX7_turn 130 = .ok (.iload 6, 2) := by decide +kernel
theorem dX7_turn_132 : decode cX7_turn 132 = .ok (.istore 4, 2) := by decide +kernel
theorem dX7_turn_134 : decode cX7_turn 134 = .ok (.iinc 5 1, 3) := by decide +kernel
theorem dX7_turn_137 : decode cX7_turn 137 = .ok (.goto (-93), 3) := by decide +kernel
theorem dX7_turn_140 : decode cX7_turn 140 = .ok (.aload_n 0, 1) := by decide +kernel
theorem dX7_turn_141 : decode cX7_turn 141 = .ok (.iload 4, 2) := by decide +kernel
theorem dX7_turn_143 : decode cX7_turn 143 = .ok (.invokevirtual 278, 3) := by decide +kernel
theorem dX7_turn_146 : decode cX7_turn 146 = .ok (.iload_n 3, 1) := by decide +kernel
theorem dX7_turn_147 : decode cX7_turn 147 = .ok (.ireturn, 1) := by decide +kernel
theorem dX7_advice_0 : decode cX7_advice 0 = .ok (.iload_n 1, 1) := by decide +kernel
theorem dX7_advice_1 : decode cX7_advice 1 = .ok (.invokestatic 83, 3) := by decide +kernel
theorem dX7_advice_4 : decode cX7_advice 4 = .ok (.ifCond .eq 13, 3) := by decide +kernel
theorem dX7_advice_7 : decode cX7_advice 7 = .ok (.aload_n 0, 1) := by decide +kernel
theorem dX7_advice_8 : decode cX7_advice 8 = .ok (.getfield 39, 3) := by decide +kernel
theorem dX7_advice_11 : decode cX7_advice 11 = .ok (.getfield 102, 3) := by decide +kernel
theorem dX7_advice_14 : decode cX7_advice 14 = .ok (.ifCond .ne 5, 3) := by decide +kernel
theorem dX7_advice_17 : decode cX7_advice 17 = .ok (.iconst (-1), 1) := by decide +kernel
theorem dX7_advice_18 : decode cX7_advice 18 = .ok (.ireturn, 1) := by decide +kernel
theorem dX7_advice_19 : decode cX7_advice 19 = .ok (.bipush (-2), 2) := by decide +kernel
theorem dX7_advice_21 : decode cX7_advice 21 = .ok (.istore_n 2, 1) := by decide +kernel
theorem dX7_advice_22 : decode cX7_advice 22 = .ok (.aload_n 0, 1) := by decide +kernel
theorem dX7_advice_23 : decode cX7_advice 23 = .ok (.invokevirtual 258, 3) := by decide +kernel
theorem dX7_advice_26 : decode cX7_advice 26 = .ok (.istore_n 3, 1) := by decide +kernel
theorem dX7_advice_27 : decode cX7_advice 27 = .ok (.iconst 0, 1) := by decide +kernel
theorem dX7_advice_28 : decode cX7_advice 28 = .ok (.istore 4, 2) := by decide +kernel
theorem dX7_advice_30 : decode cX7_advice 30 = .ok (.iload 4, 2) := by decide +kernel
theorem dX7_advice_32 : decode cX7_advice 32 = .ok (.bipush 12, 2) := by decide +kernel
theorem dX7_advice_34 : decode cX7_advice 34 = .ok (.if_icmp .ge 70, 3) := by decide +kernel
theorem dX7_advice_37 : decode cX7_advice 37 = .ok (.iconst 0, 1) := by decide +kernel
theorem dX7_advice_38 : decode cX7_advice 38 = .ok (.istore 5, 2) := by decide +kernel
theorem dX7_advice_40 : decode cX7_advice 40 = .ok (.iload 5, 2) := by decide +kernel
theorem dX7_advice_42 : decode cX7_advice 42 = .ok (.bipush 12, 2) := by decide +kernel
theorem dX7_advice_44 : decode cX7_advice 44 = .ok (.if_icmp .ge 54, 3) := by decide +kernel
theorem dX7_advice_47 : decode cX7_advice 47 = .ok (.aload_n 0, 1) := by decide +kernel
theorem dX7_advice_48 : decode cX7_advice 48 = .ok (.iload_n 1, 1) := by decide +kernel
theorem dX7_advice_49 : decode cX7_advice 49 = .ok (.iload 4, 2) := by decide +kernel
theorem dX7_advice_51 : decode cX7_advice 51 = .ok (.iload 5, 2) := by decide +kernel
theorem dX7_advice_53 : decode cX7_advice 53 = .ok (.invokevirtual 175, 3) := by decide +kernel
theorem dX7_advice_56 : decode cX7_advice 56 = .ok (.ifCond .ne 36, 3) := by decide +kernel
theorem dX7_advice_59 : decode cX7_advice 59 = .ok (.aload_n 0, 1) := by decide +kernel
theorem dX7_advice_60 : decode cX7_advice 60 = .ok (.iload_n 1, 1) := by decide +kernel
theorem dX7_advice_61 : decode cX7_advice 61 = .ok (.iload 4, 2) := by decide +kernel
theorem dX7_advice_63 : decode cX7_advice 63 = .ok (.iload 5, 2) := by decide +kernel
theorem dX7_advice_65 : decode cX7_advice 65 = .ok (.invokevirtual 281, 3) := by decide +kernel
theorem dX7_advice_68 : decode cX7_advice 68 = .ok (.istore 6, 2) := by decide +kernel
theorem dX7_advice_70 : decode cX7_advice 70 = .ok (.iload_n 1, 1) := by decide +kernel
theorem dX7_advice_71 : decode cX7_advice 71 = .ok (.iload 6, 2) := by decide +kernel
theorem dX7_advice_73 : decode cX7_advice 73 = .ok (.iload_n 3, 1) := by decide +kernel
theorem dX7_advice_74 : decode cX7_advice 74 = .ok (.invokestatic 274, 3) := by decide +kernel
theorem dX7_advice_77 : decode cX7_advice 77 = .ok (.ifCond .eq 15, 3) := by decide +kernel
theorem dX7_advice_80 : decode cX7_advice 80 = .ok (.iload 4, 2) := by decide +kernel
theorem dX7_advice_82 : decode cX7_advice 82 = .ok (.bipush 12, 2) := by decide +kernel
theorem dX7_advice_84 : decode cX7_advice 84 = .ok (.imul, 1) := by decide +kernel
theorem dX7_advice_85 : decode cX7_advice 85 = .ok (.iload 5, 2) := by decide +kernel
theorem dX7_advice_87 : decode cX7_advice 87 = .ok (.iadd, 1) := by decide +kernel
theorem dX7_advice_88 : decode cX7_advice 88 = .ok (.istore_n 2, 1) := by decide +kernel
theorem dX7_advice_89 : decode cX7_advice 89 = .ok (.iload 6, 2) := by decide +kernel
theorem dX7_advice_91 : decode cX7_advice 91 = .ok (.istore_n 3, 1) := by decide +kernel
theorem dX7_advice_92 : decode cX7_advice 92 = .ok (.iinc 5 1, 3) := by decide +kernel
theorem dX7_advice_95 : decode cX7_advice 95 = .ok (.goto (-55), 3) := by decide +kernel
theorem dX7_advice_98 : decode cX7_advice 98 = .ok (.iinc 4 1, 3) := by decide +kernel
theorem dX7_advice_101 : decode cX7_advice 101 = .ok (.goto (-71), 3) := by decide +kernel
theorem dX7_advice_104 : decode cX7_advice 104 = .ok (.iload_n 2, 1) := by decide +kernel
theorem dX7_advice_105 : decode cX7_advice 105 = .ok (.bipush (-2), 2) := by decide +kernel
theorem dX7_advice_107 : decode cX7_advice 107 = .ok (.if_icmp .eq 8, 3) := by decide +kernel
theorem dX7_advice_110 : decode cX7_advice 110 = .ok (.aload_n 0, 1) := by decide +kernel
theorem dX7_advice_111 : decode cX7_advice 111 = .ok (.iload_n 3, 1) := by decide +kernel
theorem dX7_advice_112 : decode cX7_advice 112 = .ok (.invokevirtual 278, 3) := by decide +kernel
theorem dX7_advice_115 : decode cX7_advice 115 = .ok (.iload_n 2, 1) := by decide +kernel
theorem dX7_advice_116 : decode cX7_advice 116 = .ok (.ireturn, 1) := by decide +kernel
theorem dX7_row_0 : decode cX7_row 0 = .ok (.iload_n 1, 1) := by decide +kernel
theorem dX7_row_1 : decode cX7_row 1 = .ok (.ifCond .lt 11, 3) := by decide +kernel
theorem dX7_row_4 : decode cX7_row 4 = .ok (.iload_n 1, 1) := by decide +kernel
theorem dX7_row_5 : decode cX7_row 5 = .ok (.aload_n 0, 1) := by decide +kernel
theorem dX7_row_6 : decode cX7_row 6 = .ok (.getfield 76, 3) := by decide +kernel
theorem dX7_row_9 : decode cX7_row 9 = .ok (.if_icmp .lt 11, 3) := by decide +kernel
theorem dX7_row_12 : decode cX7_row 12 = .ok (.new 284, 3) := by decide +kernel
theorem dX7_row_15 : decode cX7_row 15 = .ok (.dup, 1) := by decide +kernel
theorem dX7_row_16 : decode cX7_row 16 = .ok (.invokespecial 286, 3) := by decide +kernel
theorem dX7_row_19 : decode cX7_row 19 = .ok (.athrow, 1) := by decide +kernel
theorem dX7_row_20 : decode cX7_row 20 = .ok (.aload_n 0, 1) := by decide +kernel
theorem dX7_row_21 : decode cX7_row 21 = .ok (.getfield 80, 3) := by decide +kernel
theorem dX7_row_24 : decode cX7_row 24 = .ok (.ireturn, 1) := by decide +kernel
theorem dX7_isTeam_0 : decode cX7_isTeam 0 = .ok (.iload_n 0, 1) := by decide +kernel
theorem dX7_isTeam_1 : decode cX7_isTeam 1 = .ok (.ifCond .eq 8, 3) := by decide +kernel
theorem dX7_isTeam_4 : decode cX7_isTeam 4 = .ok (.iload_n 0, 1) := by decide +kernel
theorem dX7_isTeam_5 : decode cX7_isTeam 5 = .ok (.iconst 1, 1) := by decide +kernel
theorem dX7_isTeam_6 : decode cX7_isTeam 6 = .ok (.if_icmp .ne 7, 3) := by decide +kernel
theorem dX7_isTeam_9 : decode cX7_isTeam 9 = .ok (.iconst 1, 1) := by decide +kernel
theorem dX7_isTeam_10 : decode cX7_isTeam 10 = .ok (.goto 4, 3) := by decide +kernel
theorem dX7_isTeam_13 : decode cX7_isTeam 13 = .ok (.iconst 0, 1) := by decide +kernel
theorem dX7_isTeam_14 : decode cX7_isTeam 14 = .ok (.ireturn, 1) := by decide +kernel
theorem dX7_isPlayer_0 : decode cX7_isPlayer 0 = .ok (.iload_n 0, 1) := by decide +kernel
theorem dX7_isPlayer_1 : decode cX7_isPlayer 1 = .ok (.ifCond .lt 13, 3) := by decide +kernel
theorem dX7_isPlayer_4 : decode cX7_isPlayer 4 = .ok (.iload_n 0, 1) := by decide +kernel
theorem dX7_isPlayer_5 : decode cX7_isPlayer 5 = .ok (.bipush 12, 2) := by decide +kernel
theorem dX7_isPlayer_7 : decode cX7_isPlayer 7 = .ok (.if_icmp .ge 7, 3) := by decide +kernel
theorem dX7_isPlayer_10 : decode cX7_isPlayer 10 = .ok (.iconst 1, 1) := by decide +kernel
theorem dX7_isPlayer_11 : decode cX7_isPlayer 11 = .ok (.goto 4, 3) := by decide +kernel
theorem dX7_isPlayer_14 : decode cX7_isPlayer 14 = .ok (.iconst 0, 1) := by decide +kernel
theorem dX7_isPlayer_15 : decode cX7_isPlayer 15 = .ok (.ireturn, 1) := by decide +kernel
theorem dX7_bitOf_0 : decode cX7_bitOf 0 = .ok (.iload_n 0, 1) := by decide +kernel
theorem dX7_bitOf_1 : decode cX7_bitOf 1 = .ok (.invokestatic 87, 3) := by decide +kernel
theorem dX7_bitOf_4 : decode cX7_bitOf 4 = .ok (.ifCond .eq 9, 3) := by decide +kernel
theorem dX7_bitOf_7 : decode cX7_bitOf 7 = .ok (.iconst 1, 1) := by decide +kernel
theorem dX7_bitOf_8 : decode cX7_bitOf 8 = .ok (.iload_n 0, 1) := by decide +kernel
theorem dX7_bitOf_9 : decode cX7_bitOf 9 = .ok (.ishl, 1) := by decide +kernel
theorem dX7_bitOf_10 : decode cX7_bitOf 10 = .ok (.goto 4, 3) := by decide +kernel
theorem dX7_bitOf_13 : decode cX7_bitOf 13 = .ok (.iconst 0, 1) := by decide +kernel
theorem dX7_bitOf_14 : decode cX7_bitOf 14 = .ok (.ireturn, 1) := by decide +kernel
theorem dX7_squadOf_0 : decode cX7_squadOf 0 = .ok (.iload_n 1, 1) := by decide +kernel
theorem dX7_squadOf_1 : decode cX7_squadOf 1 = .ok (.ifCond .ne 10, 3) := by decide +kernel
theorem dX7_squadOf_4 : decode cX7_squadOf 4 = .ok (.aload_n 0, 1) := by decide +kernel
theorem dX7_squadOf_5 : decode cX7_squadOf 5 = .ok (.getfield 19, 3) := by decide +kernel
theorem dX7_squadOf_8 : decode cX7_squadOf 8 = .ok (.goto 7, 3) := by decide +kernel
theorem dX7_squadOf_11 : decode cX7_squadOf 11 = .ok (.aload_n 0, 1) := by decide +kernel
theorem dX7_squadOf_12 : decode cX7_squadOf 12 = .ok (.getfield 23, 3) := by decide +kernel
theorem dX7_squadOf_15 : decode cX7_squadOf 15 = .ok (.areturn, 1) := by decide +kernel
theorem dX7_courtOf_0 : decode cX7_courtOf 0 = .ok (.iload_n 1, 1) := by decide +kernel
theorem dX7_courtOf_1 : decode cX7_courtOf 1 = .ok (.ifCond .ne 10, 3) := by decide +kernel
theorem dX7_courtOf_4 : decode cX7_courtOf 4 = .ok (.aload_n 0, 1) := by decide +kernel
theorem dX7_courtOf_5 : decode cX7_courtOf 5 = .ok (.getfield 29, 3) := by decide +kernel
theorem dX7_courtOf_8 : decode cX7_courtOf 8 = .ok (.goto 7, 3) := by decide +kernel
theorem dX7_courtOf_11 : decode cX7_courtOf 11 = .ok (.aload_n 0, 1) := by decide +kernel
theorem dX7_courtOf_12 : decode cX7_courtOf 12 = .ok (.getfield 33, 3) := by decide +kernel
theorem dX7_courtOf_15 : decode cX7_courtOf 15 = .ok (.areturn, 1) := by decide +kernel
theorem dX7_stanceOf_0 : decode cX7_stanceOf 0 = .ok (.iload_n 1, 1) := by decide +kernel
theorem dX7_stanceOf_1 : decode cX7_stanceOf 1 = .ok (.ifCond .ne 10, 3) := by decide +kernel
theorem dX7_stanceOf_4 : decode cX7_stanceOf 4 = .ok (.aload_n 0, 1) := by decide +kernel
theorem dX7_stanceOf_5 : decode cX7_stanceOf 5 = .ok (.getfield 55, 3) := by decide +kernel
theorem dX7_stanceOf_8 : decode cX7_stanceOf 8 = .ok (.goto 7, 3) := by decide +kernel
theorem dX7_stanceOf_11 : decode cX7_stanceOf 11 = .ok (.aload_n 0, 1) := by decide +kernel
theorem dX7_stanceOf_12 : decode cX7_stanceOf 12 = .ok (.getfield 59, 3) := by decide +kernel
theorem dX7_stanceOf_15 : decode cX7_stanceOf 15 = .ok (.areturn, 1) := by decide +kernel
theorem dX7_winRally_0 : decode cX7_winRally 0 = .ok (.aload_n 0, 1) := by decide +kernel
theorem dX7_winRally_1 : decode cX7_winRally 1 = .ok (.iload_n 1, 1) := by decide +kernel
theorem dX7_winRally_2 : decode cX7_winRally 2 = .ok (.invokevirtual 159, 3) := by decide +kernel
theorem dX7_winRally_5 : decode cX7_winRally 5 = .ok (.astore_n 2, 1) := by decide +kernel
theorem dX7_winRally_6 : decode cX7_winRally 6 = .ok (.aload_n 2, 1) := by decide +kernel
theorem dX7_winRally_7 : decode cX7_winRally 7 = .ok (.dup, 1) := by decide +kernel
theorem dX7_winRally_8 : decode cX7_winRally 8 = .ok (.getfield 202, 3) := by decide +kernel
theorem dX7_winRally_11 : decode cX7_winRally 11 = .ok (.iconst 1, 1) := by decide +kernel
theorem dX7_winRally_12 : decode cX7_winRally 12 = .ok (.iadd, 1) := by decide +kernel
theorem dX7_winRally_13 : decode cX7_winRally 13 = .ok (.putfield 202, 3) := by decide +kernel
theorem dX7_winRally_16 : decode cX7_winRally 16 = .ok (.aload_n 0, 1) := by decide +kernel
theorem dX7_winRally_17 : decode cX7_winRally 17 = .ok (.getfield 39, 3) := by decide +kernel
theorem dX7_winRally_20 : decode cX7_winRally 20 = .ok (.getfield 199, 3) := by decide +kernel
theorem dX7_winRally_23 : decode cX7_winRally 23 = .ok (.iload_n 1, 1) := by decide +kernel
theorem dX7_winRally_24 : decode cX7_winRally 24 = .ok (.if_icmp .ne 23, 3) := by decide +kernel
theorem dX7_winRally_27 : decode cX7_winRally 27 = .ok (.aload_n 2, 1) := by decide +kernel
theorem dX7_winRally_28 : decode cX7_winRally 28 = .ok (.invokevirtual 287, 3) := by decide +kernel
theorem dX7_winRally_31 : decode cX7_winRally 31 = .ok (.aload_n 0, 1) := by decide +kernel
theorem dX7_winRally_32 : decode cX7_winRally 32 = .ok (.getfield 39, 3) := by decide +kernel
theorem dX7_winRally_35 : decode cX7_winRally 35 = .ok (.dup, 1) := by decide +kernel
theorem dX7_winRally_36 : decode cX7_winRally 36 = .ok (.getfield 196, 3) := by decide +kernel
theorem dX7_winRally_39 : decode cX7_winRally 39 = .ok (.iconst 1, 1) := by decide +kernel
theorem dX7_winRally_40 : decode cX7_winRally 40 = .ok (.iadd, 1) := by decide +kernel
theorem dX7_winRally_41 : decode cX7_winRally 41 = .ok (.putfield 196, 3) := by decide +kernel
theorem dX7_winRally_44 : decode cX7_winRally 44 = .ok (.goto 23, 3) := by decide +kernel
theorem dX7_winRally_47 : decode cX7_winRally 47 = .ok (.aload_n 2, 1) := by decide +kernel
theorem dX7_winRally_48 : decode cX7_winRally 48 = .ok (.invokevirtual 290, 3) := by decide +kernel
theorem dX7_winRally_51 : decode cX7_winRally 51 = .ok (.aload_n 0, 1) := by decide +kernel
theorem dX7_winRally_52 : decode cX7_winRally 52 = .ok (.getfield 39, 3) := by decide +kernel
theorem dX7_winRally_55 : decode cX7_winRally 55 = .ok (.iload_n 1, 1) := by decide +kernel
theorem dX7_winRally_56 : decode cX7_winRally 56 = .ok (.putfield 199, 3) := by decide +kernel
theorem dX7_winRally_59 : decode cX7_winRally 59 = .ok (.aload_n 0, 1) := by decide +kernel
theorem dX7_winRally_60 : decode cX7_winRally 60 = .ok (.getfield 39, 3) := by decide +kernel
theorem dX7_winRally_63 : decode cX7_winRally 63 = .ok (.iconst 0, 1) := by decide +kernel
theorem dX7_winRally_64 : decode cX7_winRally 64 = .ok (.putfield 196, 3) := by decide +kernel
theorem dX7_winRally_67 : decode cX7_winRally 67 = .ok (.aload_n 0, 1) := by decide +kernel
theorem dX7_winRally_68 : decode cX7_winRally 68 = .ok (.getfield 39, 3) := by decide +kernel
theorem dX7_winRally_71 : decode cX7_winRally 71 = .ok (.dup, 1) := by decide +kernel
theorem dX7_winRally_72 : decode cX7_winRally 72 = .ok (.getfield 217, 3) := by decide +kernel
theorem dX7_winRally_75 : decode cX7_winRally 75 = .ok (.iconst 1, 1) := by decide +kernel
theorem dX7_winRally_76 : decode cX7_winRally 76 = .ok (.iadd, 1) := by decide +kernel
theorem dX7_winRally_77 : decode cX7_winRally 77 = .ok (.putfield 217, 3) := by decide +kernel
theorem dX7_winRally_80 : decode cX7_winRally 80 = .ok (.aload_n 0, 1) := by decide +kernel
theorem dX7_winRally_81 : decode cX7_winRally 81 = .ok (.getfield 29, 3) := by decide +kernel
theorem dX7_winRally_84 : decode cX7_winRally 84 = .ok (.iconst 0, 1) := by decide +kernel
theorem dX7_winRally_85 : decode cX7_winRally 85 = .ok (.putfield 182, 3) := by decide +kernel
theorem dX7_winRally_88 : decode cX7_winRally 88 = .ok (.aload_n 0, 1) := by decide +kernel
theorem dX7_winRally_89 : decode cX7_winRally 89 = .ok (.getfield 33, 3) := by decide +kernel
theorem dX7_winRally_92 : decode cX7_winRally 92 = .ok (.iconst 0, 1) := by decide +kernel
theorem dX7_winRally_93 : decode cX7_winRally 93 = .ok (.putfield 182, 3) := by decide +kernel
theorem dX7_winRally_96 : decode cX7_winRally 96 = .ok (.aload_n 0, 1) := by decide +kernel
theorem dX7_winRally_97 : decode cX7_winRally 97 = .ok (.iload_n 1, 1) := by decide +kernel
theorem dX7_winRally_98 : decode cX7_winRally 98 = .ok (.invokevirtual 293, 3) := by decide +kernel
theorem dX7_winRally_101 : decode cX7_winRally 101 = .ok (.ireturn, 1) := by decide +kernel
theorem dX7_closeIfWon_0 : decode cX7_closeIfWon 0 = .ok (.aload_n 0, 1) := by decide +kernel
theorem dX7_closeIfWon_1 : decode cX7_closeIfWon 1 = .ok (.iload_n 1, 1) := by decide +kernel
theorem dX7_closeIfWon_2 : decode cX7_closeIfWon 2 = .ok (.invokevirtual 159, 3) := by decide +kernel
theorem dX7_closeIfWon_5 : decode cX7_closeIfWon 5 = .ok (.astore_n 2, 1) := by decide +kernel
theorem dX7_closeIfWon_6 : decode cX7_closeIfWon 6 = .ok (.aload_n 0, 1) := by decide +kernel
theorem dX7_closeIfWon_7 : decode cX7_closeIfWon 7 = .ok (.iconst 1, 1) := by decide +kernel
theorem dX7_closeIfWon_8 : decode cX7_closeIfWon 8 = .ok (.iload_n 1, 1) := by decide +kernel
theorem dX7_closeIfWon_9 : decode cX7_closeIfWon 9 = .ok (.isub, 1) := by decide +kernel
theorem dX7_closeIfWon_10 : decode cX7_closeIfWon 10 = .ok (.invokevirtual 159, 3) := by decide +kernel
theorem dX7_closeIfWon_13 : decode cX7_closeIfWon 13 = .ok (.astore_n 3, 1) := by decide +kernel
theorem dX7_closeIfWon_14 : decode cX7_closeIfWon 14 = .ok (.aload_n 0, 1) := by decide +kernel
theorem dX7_closeIfWon_15 : decode cX7_closeIfWon 15 = .ok (.getfield 10, 3) := by decide +kernel
theorem dX7_closeIfWon_18 : decode cX7_closeIfWon 18 = .ok (.aload_n 2, 1) := by decide +kernel
theorem dX7_closeIfWon_19 : decode cX7_closeIfWon 19 = .ok (.getfield 208, 3) := by decide +kernel
theorem dX7_closeIfWon_22 : decode cX7_closeIfWon 22 = .ok (.aload_n 3, 1) := by decide +kernel
theorem dX7_closeIfWon_23 : decode cX7_closeIfWon 23 = .ok (.getfield 208, 3) := by decide +kernel
theorem dX7_closeIfWon_26 : decode cX7_closeIfWon 26 = .ok (.invokevirtual 296, 3) := by decide +kernel
theorem dX7_closeIfWon_29 : decode cX7_closeIfWon 29 = .ok (.istore 4, 2) := by decide +kernel
theorem dX7_closeIfWon_31 : decode cX7_closeIfWon 31 = .ok (.aload_n 2, 1) := by decide +kernel
theorem dX7_closeIfWon_32 : decode cX7_closeIfWon 32 = .ok (.getfield 202, 3) := by decide +kernel
theorem dX7_closeIfWon_35 : decode cX7_closeIfWon 35 = .ok (.aload_n 3, 1) := by decide +kernel
theorem dX7_closeIfWon_36 : decode cX7_closeIfWon 36 = .ok (.getfield 202, 3) := by decide +kernel
theorem dX7_closeIfWon_39 : decode cX7_closeIfWon 39 = .ok (.iload 4, 2) := by decide +kernel
theorem dX7_closeIfWon_41 : decode cX7_closeIfWon 41 = .ok (.aload_n 0, 1) := by decide +kernel
theorem dX7_closeIfWon_42 : decode cX7_closeIfWon 42 = .ok (.getfield 10, 3) := by decide +kernel
theorem dX7_closeIfWon_45 : decode cX7_closeIfWon 45 = .ok (.iconst 1, 1) := by decide +kernel
theorem dX7_closeIfWon_46 : decode cX7_closeIfWon 46 = .ok (.invokevirtual 116, 3) := by decide +kernel
theorem dX7_closeIfWon_49 : decode cX7_closeIfWon 49 = .ok (.invokestatic 299, 3) := by decide +kernel
theorem dX7_closeIfWon_52 : decode cX7_closeIfWon 52 = .ok (.ifCond .ne 5, 3) := by decide +kernel
theorem dX7_closeIfWon_55 : decode cX7_closeIfWon 55 = .ok (.iconst 0, 1) := by decide +kernel
theorem dX7_closeIfWon_56 : decode cX7_closeIfWon 56 = .ok (.ireturn, 1) := by decide +kernel
theorem dX7_closeIfWon_57 : decode cX7_closeIfWon 57 = .ok (.aload_n 2, 1) := by decide +kernel
theorem dX7_closeIfWon_58 : decode cX7_closeIfWon 58 = .ok (.dup, 1) := by decide +kernel
theorem dX7_closeIfWon_59 : decode cX7_closeIfWon 59 = .ok (.getfield 208, 3) := by decide +kernel
theorem dX7_closeIfWon_62 : decode cX7_closeIfWon 62 = .ok (.iconst 1, 1) := by decide +kernel
theorem dX7_closeIfWon_63 : decode cX7_closeIfWon 63 = .ok (.iadd, 1) := by decide +kernel
theorem dX7_closeIfWon_64 : decode cX7_closeIfWon 64 = .ok (.putfield 208, 3) := by decide +kernel
theorem dX7_closeIfWon_67 : decode cX7_closeIfWon 67 = .ok (.aload_n 0, 1) := by decide +kernel
theorem dX7_closeIfWon_68 : decode cX7_closeIfWon 68 = .ok (.getfield 39, 3) := by decide +kernel
theorem dX7_closeIfWon_71 : decode cX7_closeIfWon 71 = .ok (.iconst 0, 1) := by decide +kernel
theorem dX7_closeIfWon_72 : decode cX7_closeIfWon 72 = .ok (.putfield 102, 3) := by decide +kernel
theorem dX7_closeIfWon_75 : decode cX7_closeIfWon 75 = .ok (.aload_n 0, 1) := by decide +kernel
theorem dX7_closeIfWon_76 : decode cX7_closeIfWon 76 = .ok (.getfield 39, 3) := by decide +kernel
theorem dX7_closeIfWon_79 : decode cX7_closeIfWon 79 = .ok (.iload_n 1, 1) := by decide +kernel
theorem dX7_closeIfWon_80 : decode cX7_closeIfWon 80 = .ok (.putfield 223, 3) := by decide +kernel
theorem dX7_closeIfWon_83 : decode cX7_closeIfWon 83 = .ok (.aload_n 2, 1) := by decide +kernel
theorem dX7_closeIfWon_84 : decode cX7_closeIfWon 84 = .ok (.getfield 208, 3) := by decide +kernel
theorem dX7_closeIfWon_87 : decode cX7_closeIfWon 87 = .ok (.aload_n 0, 1) := by decide +kernel
theorem dX7_closeIfWon_88 : decode cX7_closeIfWon 88 = .ok (.getfield 10, 3) := by decide +kernel
theorem dX7_closeIfWon_91 : decode cX7_closeIfWon 91 = .ok (.iconst 3, 1) := by decide +kernel
theorem dX7_closeIfWon_92 : decode cX7_closeIfWon 92 = .ok (.invokevirtual 116, 3) := by decide +kernel
theorem dX7_closeIfWon_95 : decode cX7_closeIfWon 95 = .ok (.if_icmp .ge 5, 3) := by decide +kernel
theorem dX7_closeIfWon_98 : decode cX7_closeIfWon 98 = .ok (.iconst 1, 1) := by decide +kernel
theorem dX7_closeIfWon_99 : decode cX7_closeIfWon 99 = .ok (.ireturn, 1) := by decide +kernel
theorem dX7_closeIfWon_100 : decode cX7_closeIfWon 100 = .ok (.aload_n 0, 1) := by decide +kernel
theorem dX7_closeIfWon_101 : decode cX7_closeIfWon 101 = .ok (.getfield 39, 3) := by decide +kernel
theorem dX7_closeIfWon_104 : decode cX7_closeIfWon 104 = .ok (.iload_n 1, 1) := by decide +kernel
theorem dX7_closeIfWon_105 : decode cX7_closeIfWon 105 = .ok (.putfield 124, 3) := by decide +kernel
theorem dX7_closeIfWon_108 : decode cX7_closeIfWon 108 = .ok (.iconst 2, 1) := by decide +kernel
theorem dX7_closeIfWon_109 : decode cX7_closeIfWon 109 = .ok (.ireturn, 1) := by decide +kernel
theorem dX7_doItems_0 : decode cX7_doItems 0 = .ok (.aload_n 0, 1) := by decide +kernel
theorem dX7_doItems_1 : decode cX7_doItems 1 = .ok (.invokevirtual 303, 3) := by decide +kernel
theorem dX7_doItems_4 : decode cX7_doItems 4 = .ok (.iconst 0, 1) := by decide +kernel
theorem dX7_doItems_5 : decode cX7_doItems 5 = .ok (.istore_n 2, 1) := by decide +kernel
theorem dX7_doItems_6 : decode cX7_doItems 6 = .ok (.iconst 0, 1) := by decide +kernel
theorem dX7_doItems_7 : decode cX7_doItems 7 = .ok (.istore_n 3, 1) := by decide +kernel
theorem dX7_doItems_8 : decode cX7_doItems 8 = .ok (.iload_n 3, 1) := by decide +kernel
theorem dX7_doItems_9 : decode cX7_doItems 9 = .ok (.iload_n 1, 1) := by decide +kernel
theorem dX7_doItems_10 : decode cX7_doItems 10 = .ok (.if_icmp .ge 43, 3) := by decide +kernel
theorem dX7_doItems_13 : decode cX7_doItems 13 = .ok (.aload_n 0, 1) := by decide +kernel
theorem dX7_doItems_14 : decode cX7_doItems 14 = .ok (.iload_n 3, 1) := by decide +kernel
theorem dX7_doItems_15 : decode cX7_doItems 15 = .ok (.invokevirtual 306, 3) := by decide +kernel
theorem dX7_doItems_18 : decode cX7_doItems 18 = .ok (.iconst (-1), 1) := by decide +kernel
theorem dX7_doItems_19 : decode cX7_doItems 19 = .ok (.if_icmp .ne 13, 3) := by decide +kernel
theorem dX7_doItems_22 : decode cX7_doItems 22 = .ok (.aload_n 0, 1) := by decide +kernel
theorem dX7_doItems_23 : decode cX7_doItems 23 = .ok (.invokevirtual 309, 3) := by decide +kernel
theorem dX7_doItems_26 : decode cX7_doItems 26 = .ok (.sipush (-1001), 3) := by decide +kernel
theorem dX7_doItems_29 : decode cX7_doItems 29 = .ok (.iload_n 3, 1) := by decide +kernel
theorem dX7_doItems_30 : decode cX7_doItems 30 = .ok (.isub, 1) := by decide +kernel
theorem dX7_doItems_31 : decode cX7_doItems 31 = .ok (.ireturn, 1) := by decide +kernel
theorem dX7_doItems_32 : decode cX7_doItems 32 = .ok (.iinc 2 1, 3) := by decide +kernel
theorem dX7_doItems_35 : decode cX7_doItems 35 = .ok (.iload_n 3, 1) := by decide +kernel
theorem dX7_doItems_36 : decode cX7_doItems 36 = .ok (.iconst 1, 1) := by decide +kernel
theorem dX7_doItems_37 : decode cX7_doItems 37 = .ok (.aload_n 0, 1) := by decide +kernel
theorem dX7_doItems_38 : decode cX7_doItems 38 = .ok (.getfield 65, 3) := by decide +kernel
theorem dX7_doItems_41 : decode cX7_doItems 41 = .ok (.iload_n 3, 1) := by decide +kernel
theorem dX7_doItems_42 : decode cX7_doItems 42 = .ok (.invokevirtual 312, 3) := by decide +kernel
theorem dX7_doItems_45 : decode cX7_doItems 45 = .ok (.invokestatic 315, 3) := by decide +kernel
theorem dX7_doItems_48 : decode cX7_doItems 48 = .ok (.iadd, 1) := by decide +kernel
theorem dX7_doItems_49 : decode cX7_doItems 49 = .ok (.istore_n 3, 1) := by decide +kernel
theorem dX7_doItems_50 : decode cX7_doItems 50 = .ok (.goto (-42), 3) := by decide +kernel
theorem dX7_doItems_53 : decode cX7_doItems 53 = .ok (.iload_n 2, 1) := by decide +kernel
theorem dX7_doItems_54 : decode cX7_doItems 54 = .ok (.ireturn, 1) := by decide +kernel
theorem dX7_doItem_0 : decode cX7_doItem 0 = .ok (.aload_n 0, 1) := by decide +kernel
theorem dX7_doItem_1 : decode cX7_doItem 1 = .ok (.getfield 65, 3) := by decide +kernel
theorem dX7_doItem_4 : decode cX7_doItem 4 = .ok (.iload_n 1, 1) := by decide +kernel
theorem dX7_doItem_5 : decode cX7_doItem 5 = .ok (.invokevirtual 320, 3) := by decide +kernel
theorem dX7_doItem_8 : decode cX7_doItem 8 = .ok (.istore_n 2, 1) := by decide +kernel
theorem dX7_doItem_9 : decode cX7_doItem 9 = .ok (.iload_n 2, 1) := by decide +kernel
theorem dX7_doItem_10 : decode cX7_doItem 10 = .ok (.bipush 65, 2) := by decide +kernel
theorem dX7_doItem_12 : decode cX7_doItem 12 = .ok (.if_icmp .eq 9, 3) := by decide +kernel
theorem dX7_doItem_15 : decode cX7_doItem 15 = .ok (.iload_n 2, 1) := by decide +kernel
theorem dX7_doItem_16 : decode cX7_doItem 16 = .ok (.bipush 66, 2) := by decide +kernel
theorem dX7_doItem_18 : decode cX7_doItem 18 = .ok (.if_icmp .ne 19, 3) := by decide +kernel
theorem dX7_doItem_21 : decode cX7_doItem 21 = .ok (.aload_n 0, 1) := by decide +kernel
theorem dX7_doItem_22 : decode cX7_doItem 22 = .ok (.iload_n 2, 1) := by decide +kernel
theorem dX7_doItem_23 : decode cX7_doItem 23 = .ok (.bipush 65, 2) := by decide +kernel
theorem dX7_doItem_25 : decode cX7_doItem 25 = .ok (.if_icmp .ne 7, 3) := by decide +kernel
theorem dX7_doItem_28 : decode cX7_doItem 28 = .ok (.iconst 0, 1) := by decide +kernel
theorem dX7_doItem_29 : decode cX7_doItem 29 = .ok (.goto 4, 3) := by decide +kernel
theorem dX7_doItem_32 : decode cX7_doItem 32 = .ok (.iconst 1, 1) := by decide +kernel
theorem dX7_doItem_33 : decode cX7_doItem 33 = .ok (.invokevirtual 324, 3) := by decide +kernel
theorem dX7_doItem_36 : decode cX7_doItem 36 = .ok (.ireturn, 1) := by decide +kernel
theorem dX7_doItem_37 : decode cX7_doItem 37 = .ok (.iload_n 2, 1) := by decide +kernel
theorem dX7_doItem_38 : decode cX7_doItem 38 = .ok (.bipush 97, 2) := by decide +kernel
theorem dX7_doItem_40 : decode cX7_doItem 40 = .ok (.if_icmp .ne 7, 3) := by decide +kernel
theorem dX7_doItem_43 : decode cX7_doItem 43 = .ok (.iconst 0, 1) := by decide +kernel
theorem dX7_doItem_44 : decode cX7_doItem 44 = .ok (.goto 4, 3) := by decide +kernel
theorem dX7_doItem_47 : decode cX7_doItem 47 = .ok (.iconst 1, 1) := by decide +kernel
theorem dX7_doItem_48 : decode cX7_doItem 48 = .ok (.istore_n 3, 1) := by decide +kernel
theorem dX7_doItem_49 : decode cX7_doItem 49 = .ok (.aload_n 0, 1) := by decide +kernel
theorem dX7_doItem_50 : decode cX7_doItem 50 = .ok (.getfield 65, 3) := by decide +kernel
theorem dX7_doItem_53 : decode cX7_doItem 53 = .ok (.iload_n 1, 1) := by decide +kernel
theorem dX7_doItem_54 : decode cX7_doItem 54 = .ok (.iconst 1, 1) := by decide +kernel
theorem dX7_doItem_55 : decode cX7_doItem 55 = .ok (.iadd, 1) := by decide +kernel
theorem dX7_doItem_56 : decode cX7_doItem 56 = .ok (.invokevirtual 320, 3) := by decide +kernel
theorem dX7_doItem_59 : decode cX7_doItem 59 = .ok (.istore 4, 2) := by decide +kernel
theorem dX7_doItem_61 : decode cX7_doItem 61 = .ok (.iload 4, 2) := by decide +kernel
theorem dX7_doItem_63 : decode cX7_doItem 63 = .ok (.bipush 33, 2) := by decide +kernel
theorem dX7_doItem_65 : decode cX7_doItem 65 = .ok (.if_icmp .ne 9, 3) := by decide +kernel
theorem dX7_doItem_68 : decode cX7_doItem 68 = .ok (.aload_n 0, 1) := by decide +kernel
theorem dX7_doItem_69 : decode cX7_doItem 69 = .ok (.iload_n 3, 1) := by decide +kernel
theorem dX7_doItem_70 : decode cX7_doItem 70 = .ok (.invokevirtual 327, 3) := by decide +kernel
theorem dX7_doItem_73 : decode cX7_doItem 73 = .ok (.ireturn, 1) := by decide +kernel
theorem dX7_doItem_74 : decode cX7_doItem 74 = .ok (.iload 4, 2) := by decide +kernel
theorem dX7_doItem_76 : decode cX7_doItem 76 = .ok (.bipush 45, 2) := by decide +kernel
theorem dX7_doItem_78 : decode cX7_doItem 78 = .ok (.if_icmp .ne 10, 3) := by decide +kernel
theorem dX7_doItem_81 : decode cX7_doItem 81 = .ok (.aload_n 0, 1) := by decide +kernel
theorem dX7_doItem_82 : decode cX7_doItem 82 = .ok (.iload_n 3, 1) := by decide +kernel
theorem dX7_doItem_83 : decode cX7_doItem 83 = .ok (.iconst (-1), 1) := by decide +kernel
theorem dX7_doItem_84 : decode cX7_doItem 84 = .ok (.invokevirtual 330, 3) := by decide +kernel
theorem dX7_doItem_87 : decode cX7_doItem 87 = .ok (.ireturn, 1) := by decide +kernel
theorem dX7_doItem_88 : decode cX7_doItem 88 = .ok (.iload 4, 2) := by decide +kernel
theorem dX7_doItem_90 : decode cX7_doItem 90 = .ok (.bipush 42, 2) := by decide +kernel
theorem dX7_doItem_92 : decode cX7_doItem 92 = .ok (.if_icmp .ne 22, 3) := by decide +kernel
theorem dX7_doItem_95 : decode cX7_doItem 95 = .ok (.aload_n 0, 1) := by decide +kernel
theorem dX7_doItem_96 : decode cX7_doItem 96 = .ok (.iload_n 3, 1) := by decide +kernel
theorem dX7_doItem_97 : decode cX7_doItem 97 = .ok (.aload_n 0, 1) := by decide +kernel
theorem dX7_doItem_98 : decode cX7_doItem 98 = .ok (.getfield 65, 3) := by decide +kernel
theorem dX7_doItem_101 : decode cX7_doItem 101 = .ok (.iload_n 1, 1) := by decide +kernel
theorem dX7_doItem_102 : decode cX7_doItem 102 = .ok (.iconst 2, 1) := by decide +kernel
theorem dX7_doItem_103 : decode cX7_doItem 103 = .ok (.iadd, 1) := by decide +kernel
theorem dX7_doItem_104 : decode cX7_doItem 104 = .ok (.invokevirtual 320, 3) := by decide +kernel
theorem dX7_doItem_107 : decode cX7_doItem 107 = .ok (.invokestatic 333, 3) := by decide +kernel
theorem dX7_doItem_110 : decode cX7_doItem 110 = .ok (.invokevirtual 330, 3) := by decide +kernel
theorem dX7_doItem_113 : decode cX7_doItem 113 = .ok (.ireturn, 1) := by decide +kernel
theorem dX7_doItem_114 : decode cX7_doItem 114 = .ok (.aload_n 0, 1) := by decide +kernel
theorem dX7_doItem_115 : decode cX7_doItem 115 = .ok (.iload_n 3, 1) := by decide +kernel
theorem dX7_doItem_116 : decode cX7_doItem 116 = .ok (.iload 4, 2) := by decide +kernel
theorem dX7_doItem_118 : decode cX7_doItem 118 = .ok (.invokestatic 333, 3) := by decide +kernel
theorem dX7_doItem_121 : decode cX7_doItem 121 = .ok (.aload_n 0, 1) := by decide +kernel
theorem dX7_doItem_122 : decode cX7_doItem 122 = .ok (.getfield 65, 3) := by decide +kernel
theorem dX7_doItem_125 : decode cX7_doItem 125 = .ok (.iload_n 1, 1) := by decide +kernel
theorem dX7_doItem_126 : decode cX7_doItem 126 = .ok (.iconst 2, 1) := by decide +kernel
theorem dX7_doItem_127 : decode cX7_doItem 127 = .ok (.iadd, 1) := by decide +kernel
theorem dX7_doItem_128 : decode cX7_doItem 128 = .ok (.invokevirtual 320, 3) := by decide +kernel
theorem dX7_doItem_131 : decode cX7_doItem 131 = .ok (.invokestatic 333, 3) := by decide +kernel
theorem dX7_doItem_134 : decode cX7_doItem 134 = .ok (.invokevirtual 337, 3) := by decide +kernel
theorem dX7_doItem_137 : decode cX7_doItem 137 = .ok (.ireturn, 1) := by decide +kernel
theorem dX7_saveMatch_0 : decode cX7_saveMatch 0 = .ok (.aload_n 0, 1) := by decide +kernel
theorem dX7_saveMatch_1 : decode cX7_saveMatch 1 = .ok (.getfield 43, 3) := by decide +kernel
theorem dX7_saveMatch_4 : decode cX7_saveMatch 4 = .ok (.aload_n 0, 1) := by decide +kernel
theorem dX7_saveMatch_5 : decode cX7_saveMatch 5 = .ok (.getfield 29, 3) := by decide +kernel
theorem dX7_saveMatch_8 : decode cX7_saveMatch 8 = .ok (.invokevirtual 340, 3) := by decide +kernel
theorem dX7_saveMatch_11 : decode cX7_saveMatch 11 = .ok (.aload_n 0, 1) := by decide +kernel
theorem dX7_saveMatch_12 : decode cX7_saveMatch 12 = .ok (.getfield 46, 3) := by decide +kernel
theorem dX7_saveMatch_15 : decode cX7_saveMatch 15 = .ok (.aload_n 0, 1) := by decide +kernel
theorem dX7_saveMatch_16 : decode cX7_saveMatch 16 = .ok (.getfield 33, 3) := by decide +kernel
theorem dX7_saveMatch_19 : decode cX7_saveMatch 19 = .ok (.invokevirtual 340, 3) := by decide +kernel
theorem dX7_saveMatch_22 : decode cX7_saveMatch 22 = .ok (.aload_n 0, 1) := by decide +kernel
theorem dX7_saveMatch_23 : decode cX7_saveMatch 23 = .ok (.getfield 49, 3) := by decide +kernel
theorem dX7_saveMatch_26 : decode cX7_saveMatch 26 = .ok (.aload_n 0, 1) := by decide +kernel
theorem dX7_saveMatch_27 : decode cX7_saveMatch 27 = .ok (.getfield 39, 3) := by decide +kernel
theorem dX7_saveMatch_30 : decode cX7_saveMatch 30 = .ok (.invokevirtual 344, 3) := by decide +kernel
theorem dX7_saveMatch_33 : decode cX7_saveMatch 33 = .ok (.return_, 1) := by decide +kernel
theorem dX7_restoreMatch_0 : decode cX7_restoreMatch 0 = .ok (.aload_n 0, 1) := by decide +kernel
theorem dX7_restoreMatch_1 : decode cX7_restoreMatch 1 = .ok (.getfield 29, 3) := by decide +kernel
theorem dX7_restoreMatch_4 : decode cX7_restoreMatch 4 = .ok (.aload_n 0, 1) := by decide +kernel
theorem dX7_restoreMatch_5 : decode cX7_restoreMatch 5 = .ok (.getfield 43, 3) := by decide +kernel
theorem dX7_restoreMatch_8 : decode cX7_restoreMatch 8 = .ok (.invokevirtual 340, 3) := by decide +kernel
theorem dX7_restoreMatch_11 : decode cX7_restoreMatch 11 = .ok (.aload_n 0, 1) := by decide +kernel
theorem dX7_restoreMatch_12 : decode cX7_restoreMatch 12 = .ok (.getfield 33, 3) := by decide +kernel
theorem dX7_restoreMatch_15 : decode cX7_restoreMatch 15 = .ok (.aload_n 0, 1) := by decide +kernel
theorem dX7_restoreMatch_16 : decode cX7_restoreMatch 16 = .ok (.getfield 46, 3) := by decide +kernel
theorem dX7_restoreMatch_19 : decode cX7_restoreMatch 19 = .ok (.invokevirtual 340, 3) := by decide +kernel
theorem dX7_restoreMatch_22 : decode cX7_restoreMatch 22 = .ok (.aload_n 0, 1) := by decide +kernel
theorem dX7_restoreMatch_23 : decode cX7_restoreMatch 23 = .ok (.getfield 39, 3) := by decide +kernel
theorem dX7_restoreMatch_26 : decode cX7_restoreMatch 26 = .ok (.aload_n 0, 1) := by decide +kernel
theorem dX7_restoreMatch_27 : decode cX7_restoreMatch 27 = .ok (.getfield 49, 3) := by decide +kernel
theorem dX7_restoreMatch_30 : decode cX7_restoreMatch 30 = .ok (.invokevirtual 344, 3) := by decide +kernel
theorem dX7_restoreMatch_33 : decode cX7_restoreMatch 33 = .ok (.return_, 1) := by decide +kernel
theorem dX7_takeCourts_0 : decode cX7_takeCourts 0 = .ok (.aload_n 0, 1) := by decide +kernel
theorem dX7_takeCourts_1 : decode cX7_takeCourts 1 = .ok (.getfield 72, 3) := by decide +kernel
theorem dX7_takeCourts_4 : decode cX7_takeCourts 4 = .ok (.iconst 0, 1) := by decide +kernel
theorem dX7_takeCourts_5 : decode cX7_takeCourts 5 = .ok (.aload_n 0, 1) := by decide +kernel
theorem dX7_takeCourts_6 : decode cX7_takeCourts 6 = .ok (.getfield 29, 3) := by decide +kernel
theorem dX7_takeCourts_9 : decode cX7_takeCourts 9 = .ok (.getfield 347, 3) := by decide +kernel
theorem dX7_takeCourts_12 : decode cX7_takeCourts 12 = .ok (.iconst 0, 1) := by decide +kernel
theorem dX7_takeCourts_13 : decode cX7_takeCourts 13 = .ok (.invokevirtual 267, 3) := by decide +kernel
theorem dX7_takeCourts_16 : decode cX7_takeCourts 16 = .ok (.aload_n 0, 1) := by decide +kernel
theorem dX7_takeCourts_17 : decode cX7_takeCourts 17 = .ok (.getfield 72, 3) := by decide +kernel
theorem dX7_takeCourts_20 : decode cX7_takeCourts 20 = .ok (.iconst 1, 1) := by decide +kernel
theorem dX7_takeCourts_21 : decode cX7_takeCourts 21 = .ok (.aload_n 0, 1) := by decide +kernel
theorem dX7_takeCourts_22 : decode cX7_takeCourts 22 = .ok (.getfield 33, 3) := by decide +kernel
theorem dX7_takeCourts_25 : decode cX7_takeCourts 25 = .ok (.getfield 347, 3) := by decide +kernel
theorem dX7_takeCourts_28 : decode cX7_takeCourts 28 = .ok (.iconst 0, 1) := by decide +kernel
theorem dX7_takeCourts_29 : decode cX7_takeCourts 29 = .ok (.invokevirtual 267, 3) := by decide +kernel
theorem dX7_takeCourts_32 : decode cX7_takeCourts 32 = .ok (.return_, 1) := by decide +kernel
theorem dX7_chanceNow_0 : decode cX7_chanceNow 0 = .ok (.aload_n 0, 1) := by decide +kernel
theorem dX7_chanceNow_1 : decode cX7_chanceNow 1 = .ok (.invokevirtual 251, 3) := by decide +kernel
theorem dX7_chanceNow_4 : decode cX7_chanceNow 4 = .ok (.aload_n 0, 1) := by decide +kernel
theorem dX7_chanceNow_5 : decode cX7_chanceNow 5 = .ok (.aload_n 0, 1) := by decide +kernel
theorem dX7_chanceNow_6 : decode cX7_chanceNow 6 = .ok (.getfield 39, 3) := by decide +kernel
theorem dX7_chanceNow_9 : decode cX7_chanceNow 9 = .ok (.getfield 199, 3) := by decide +kernel
theorem dX7_chanceNow_12 : decode cX7_chanceNow 12 = .ok (.aload_n 0, 1) := by decide +kernel
theorem dX7_chanceNow_13 : decode cX7_chanceNow 13 = .ok (.getfield 29, 3) := by decide +kernel
theorem dX7_chanceNow_16 : decode cX7_chanceNow 16 = .ok (.getfield 202, 3) := by decide +kernel
theorem dX7_chanceNow_19 : decode cX7_chanceNow 19 = .ok (.aload_n 0, 1) := by decide +kernel
theorem dX7_chanceNow_20 : decode cX7_chanceNow 20 = .ok (.getfield 33, 3) := by decide +kernel
theorem dX7_chanceNow_23 : decode cX7_chanceNow 23 = .ok (.getfield 202, 3) := by decide +kernel
theorem dX7_chanceNow_26 : decode cX7_chanceNow 26 = .ok (.invokevirtual 271, 3) := by decide +kernel
theorem dX7_chanceNow_29 : decode cX7_chanceNow 29 = .ok (.ireturn, 1) := by decide +kernel
theorem dX7_chanceFrom_0 : decode cX7_chanceFrom 0 = .ok (.aload_n 0, 1) := by decide +kernel
theorem dX7_chanceFrom_1 : decode cX7_chanceFrom 1 = .ok (.getfield 72, 3) := by decide +kernel
theorem dX7_chanceFrom_4 : decode cX7_chanceFrom 4 = .ok (.aload_n 0, 1) := by decide +kernel
theorem dX7_chanceFrom_5 : decode cX7_chanceFrom 5 = .ok (.getfield 19, 3) := by decide +kernel
theorem dX7_chanceFrom_8 : decode cX7_chanceFrom 8 = .ok (.aload_n 0, 1) := by decide +kernel
theorem dX7_chanceFrom_9 : decode cX7_chanceFrom 9 = .ok (.getfield 23, 3) := by decide +kernel
theorem dX7_chanceFrom_12 : decode cX7_chanceFrom 12 = .ok (.iload_n 1, 1) := by decide +kernel
theorem dX7_chanceFrom_13 : decode cX7_chanceFrom 13 = .ok (.invokevirtual 350, 3) := by decide +kernel
theorem dX7_chanceFrom_16 : decode cX7_chanceFrom 16 = .ok (.aload_n 0, 1) := by decide +kernel
theorem dX7_chanceFrom_17 : decode cX7_chanceFrom 17 = .ok (.getfield 10, 3) := by decide +kernel
theorem dX7_chanceFrom_20 : decode cX7_chanceFrom 20 = .ok (.aload_n 0, 1) := by decide +kernel
theorem dX7_chanceFrom_21 : decode cX7_chanceFrom 21 = .ok (.getfield 29, 3) := by decide +kernel
theorem dX7_chanceFrom_24 : decode cX7_chanceFrom 24 = .ok (.getfield 208, 3) := by decide +kernel
theorem dX7_chanceFrom_27 : decode cX7_chanceFrom 27 = .ok (.aload_n 0, 1) := by decide +kernel
theorem dX7_chanceFrom_28 : decode cX7_chanceFrom 28 = .ok (.getfield 33, 3) := by decide +kernel
theorem dX7_chanceFrom_31 : decode cX7_chanceFrom 31 = .ok (.getfield 208, 3) := by decide +kernel
theorem dX7_chanceFrom_34 : decode cX7_chanceFrom 34 = .ok (.invokevirtual 296, 3) := by decide +kernel
theorem dX7_chanceFrom_37 : decode cX7_chanceFrom 37 = .ok (.istore 4, 2) := by decide +kernel
theorem dX7_chanceFrom_39 : decode cX7_chanceFrom 39 = .ok (.aload_n 0, 1) := by decide +kernel
theorem dX7_chanceFrom_40 : decode cX7_chanceFrom 40 = .ok (.getfield 72, 3) := by decide +kernel
theorem dX7_chanceFrom_43 : decode cX7_chanceFrom 43 = .ok (.iload_n 2, 1) := by decide +kernel
theorem dX7_chanceFrom_44 : decode cX7_chanceFrom 44 = .ok (.iload_n 3, 1) := by decide +kernel
theorem dX7_chanceFrom_45 : decode cX7_chanceFrom 45 = .ok (.iload 4, 2) := by decide +kernel
theorem dX7_chanceFrom_47 : decode cX7_chanceFrom 47 = .ok (.aload_n 0, 1) := by decide +kernel
theorem dX7_chanceFrom_48 : decode cX7_chanceFrom 48 = .ok (.getfield 10, 3) := by decide +kernel
theorem dX7_chanceFrom_51 : decode cX7_chanceFrom 51 = .ok (.iconst 1, 1) := by decide +kernel
theorem dX7_chanceFrom_52 : decode cX7_chanceFrom 52 = .ok (.invokevirtual 116, 3) := by decide +kernel
theorem dX7_chanceFrom_55 : decode cX7_chanceFrom 55 = .ok (.invokevirtual 354, 3) := by decide +kernel
theorem dX7_chanceFrom_58 : decode cX7_chanceFrom 58 = .ok (.ireturn, 1) := by decide +kernel
theorem dX7_chanceAfter_0 : decode cX7_chanceAfter 0 = .ok (.aload_n 0, 1) := by decide +kernel
theorem dX7_chanceAfter_1 : decode cX7_chanceAfter 1 = .ok (.getfield 72, 3) := by decide +kernel
theorem dX7_chanceAfter_4 : decode cX7_chanceAfter 4 = .ok (.iload_n 1, 1) := by decide +kernel
theorem dX7_chanceAfter_5 : decode cX7_chanceAfter 5 = .ok (.iload_n 2, 1) := by decide +kernel
theorem dX7_chanceAfter_6 : decode cX7_chanceAfter 6 = .ok (.iload_n 3, 1) := by decide +kernel
theorem dX7_chanceAfter_7 : decode cX7_chanceAfter 7 = .ok (.invokevirtual 358, 3) := by decide +kernel
theorem dX7_chanceAfter_10 : decode cX7_chanceAfter 10 = .ok (.aload_n 0, 1) := by decide +kernel
theorem dX7_chanceAfter_11 : decode cX7_chanceAfter 11 = .ok (.aload_n 0, 1) := by decide +kernel
theorem dX7_chanceAfter_12 : decode cX7_chanceAfter 12 = .ok (.getfield 39, 3) := by decide +kernel
theorem dX7_chanceAfter_15 : decode cX7_chanceAfter 15 = .ok (.getfield 199, 3) := by decide +kernel
theorem dX7_chanceAfter_18 : decode cX7_chanceAfter 18 = .ok (.aload_n 0, 1) := by decide +kernel
theorem dX7_chanceAfter_19 : decode cX7_chanceAfter 19 = .ok (.getfield 29, 3) := by decide +kernel
theorem dX7_chanceAfter_22 : decode cX7_chanceAfter 22 = .ok (.getfield 202, 3) := by decide +kernel
theorem dX7_chanceAfter_25 : decode cX7_chanceAfter 25 = .ok (.aload_n 0, 1) := by decide +kernel
theorem dX7_chanceAfter_26 : decode cX7_chanceAfter 26 = .ok (.getfield 33, 3) := by decide +kernel
theorem dX7_chanceAfter_29 : decode cX7_chanceAfter 29 = .ok (.getfield 202, 3) := by decide +kernel
theorem dX7_chanceAfter_32 : decode cX7_chanceAfter 32 = .ok (.invokevirtual 271, 3) := by decide +kernel
theorem dX7_chanceAfter_35 : decode cX7_chanceAfter 35 = .ok (.istore 4, 2) := by decide +kernel
theorem dX7_chanceAfter_37 : decode cX7_chanceAfter 37 = .ok (.aload_n 0, 1) := by decide +kernel
theorem dX7_chanceAfter_38 : decode cX7_chanceAfter 38 = .ok (.getfield 72, 3) := by decide +kernel
theorem dX7_chanceAfter_41 : decode cX7_chanceAfter 41 = .ok (.iload_n 1, 1) := by decide +kernel
theorem dX7_chanceAfter_42 : decode cX7_chanceAfter 42 = .ok (.iload_n 3, 1) := by decide +kernel
theorem dX7_chanceAfter_43 : decode cX7_chanceAfter 43 = .ok (.iload_n 2, 1) := by decide +kernel
theorem dX7_chanceAfter_44 : decode cX7_chanceAfter 44 = .ok (.invokevirtual 358, 3) := by decide +kernel
theorem dX7_chanceAfter_47 : decode cX7_chanceAfter 47 = .ok (.iload 4, 2) := by decide +kernel
theorem dX7_chanceAfter_49 : decode cX7_chanceAfter 49 = .ok (.ireturn, 1) := by decide +kernel
theorem dX7_isBetter_0 : decode cX7_isBetter 0 = .ok (.iload_n 0, 1) := by decide +kernel
theorem dX7_isBetter_1 : decode cX7_isBetter 1 = .ok (.ifCond .ne 16, 3) := by decide +kernel
theorem dX7_isBetter_4 : decode cX7_isBetter 4 = .ok (.iload_n 1, 1) := by decide +kernel
theorem dX7_isBetter_5 : decode cX7_isBetter 5 = .ok (.iload_n 2, 1) := by decide +kernel
theorem dX7_isBetter_6 : decode cX7_isBetter 6 = .ok (.if_icmp .le 7, 3) := by decide +kernel
theorem dX7_isBetter_9 : decode cX7_isBetter 9 = .ok (.iconst 1, 1) := by decide +kernel
theorem dX7_isBetter_10 : decode cX7_isBetter 10 = .ok (.goto 17, 3) := by decide +kernel
theorem dX7_isBetter_13 : decode cX7_isBetter 13 = .ok (.iconst 0, 1) := by decide +kernel
theorem dX7_isBetter_14 : decode cX7_isBetter 14 = .ok (.goto 13, 3) := by decide +kernel
theorem dX7_isBetter_17 : decode cX7_isBetter 17 = .ok (.iload_n 1, 1) := by decide +kernel
theorem dX7_isBetter_18 : decode cX7_isBetter 18 = .ok (.iload_n 2, 1) := by decide +kernel
theorem dX7_isBetter_19 : decode cX7_isBetter 19 = .ok (.if_icmp .ge 7, 3) := by decide +kernel
theorem dX7_isBetter_22 : decode cX7_isBetter 22 = .ok (.iconst 1, 1) := by decide +kernel
theorem dX7_isBetter_23 : decode cX7_isBetter 23 = .ok (.goto 4, 3) := by decide +kernel
theorem dX7_isBetter_26 : decode cX7_isBetter 26 = .ok (.iconst 0, 1) := by decide +kernel
theorem dX7_isBetter_27 : decode cX7_isBetter 27 = .ok (.ireturn, 1) := by decide +kernel
theorem dX7_tellRow_0 : decode cX7_tellRow 0 = .ok (.aload_n 0, 1) := by decide +kernel
theorem dX7_tellRow_1 : decode cX7_tellRow 1 = .ok (.iconst 1, 1) := by decide +kernel
theorem dX7_tellRow_2 : decode cX7_tellRow 2 = .ok (.putfield 76, 3) := by decide +kernel
theorem dX7_tellRow_5 : decode cX7_tellRow 5 = .ok (.aload_n 0, 1) := by decide +kernel
theorem dX7_tellRow_6 : decode cX7_tellRow 6 = .ok (.iload_n 1, 1) := by decide +kernel
theorem dX7_tellRow_7 : decode cX7_tellRow 7 = .ok (.putfield 80, 3) := by decide +kernel
theorem dX7_tellRow_10 : decode cX7_tellRow 10 = .ok (.return_, 1) := by decide +kernel
end
section
theorem dX8_init_0 : decode cX8_init 0 = .ok (.aload_n 0, 1) := by decide +kernel
theorem dX8_init_1 : decode cX8_init 1 = .ok (.invokespecial 3, 3) := by decide +kernel
theorem dX8_init_4 : decode cX8_init 4 = .ok (.aload_n 0, 1) := by decide +kernel
theorem dX8_init_5 : decode cX8_init 5 = .ok (.bipush 96, 2) := by decide +kernel
theorem dX8_init_7 : decode cX8_init 7 = .ok (.newarray .int, 2) := by decide +kernel
theorem dX8_init_9 : decode cX8_init 9 = .ok (.putfield 9, 3) := by decide +kernel
theorem dX8_init_12 : decode cX8_init 12 = .ok (.aload_n 0, 1) := by decide +kernel
theorem dX8_init_13 : decode cX8_init 13 = .ok (.iconst 2, 1) := by decide +kernel
theorem dX8_init_14 : decode cX8_init 14 = .ok (.newarray .int, 2) := by decide +kernel
theorem dX8_init_16 : decode cX8_init 16 = .ok (.dup, 1) := by decide +kernel
theorem dX8_init_17 : decode cX8_init 17 = .ok (.iconst 0, 1) := by decide +kernel
theorem dX8_init_18 : decode cX8_init 18 = .ok (.iconst (-1), 1) := by decide +kernel
theorem dX8_init_19 : decode cX8_init 19 = .ok (.iastore, 1) := by decide +kernel
theorem dX8_init_20 : decode cX8_init 20 = .ok (.dup, 1) := by decide +kernel
theorem dX8_init_21 : decode cX8_init 21 = .ok (.iconst 1, 1) := by decide +kernel
theorem dX8_init_22 : decode cX8_init 22 = .ok (.iconst (-1), 1) := by decide +kernel
theorem dX8_init_23 : decode cX8_init 23 = .ok (.iastore, 1) := by decide +kernel
theorem dX8_init_24 : decode cX8_init 24 = .ok (.putfield 13, 3) := by decide +kernel
theorem dX8_init_27 : decode cX8_init 27 = .ok (.aload_n 0, 1) := by decide +kernel
theorem dX8_init_28 : decode cX8_init 28 = .ok (.bipush 6, 2) := by decide +kernel
theorem dX8_init_30 : decode cX8_init 30 = .ok (.newarray .int, 2) := by decide +kernel
theorem dX8_init_32 : decode cX8_init 32 = .ok (.dup, 1) := by decide +kernel
theorem dX8_init_33 : decode cX8_init 33 = .ok (.iconst 0, 1) := by decide +kernel
theorem dX8_init_34 : decode cX8_init 34 = .ok (.bipush 25, 2) := by decide +kernel
theorem dX8_init_36 : decode cX8_init 36 = .ok (.iastore, 1) := by decide +kernel
theorem dX8_init_37 : decode cX8_init 37 = .ok (.dup, 1) := by decide +kernel
theorem dX8_init_38 : decode cX8_init 38 = .ok (.iconst 1, 1) := by decide +kernel
theorem dX8_init_39 : decode cX8_init 39 = .ok (.bipush 30, 2) := by decide +kernel
theorem dX8_init_41 : decode cX8_init 41 = .ok (.iastore, 1) := by decide +kernel
theorem dX8_init_42 : decode cX8_init 42 = .ok (.dup, 1) := by decide +kernel
theorem dX8_init_43 : decode cX8_init 43 = .ok (.iconst 2, 1) := by decide +kernel
theorem dX8_init_44 : decode cX8_init 44 = .ok (.bipush 15, 2) := by decide +kernel
theorem dX8_init_46 : decode cX8_init 46 = .ok (.iastore, 1) := by decide +kernel
theorem dX8_init_47 : decode cX8_init 47 = .ok (.dup, 1) := by decide +kernel
theorem dX8_init_48 : decode cX8_init 48 = .ok (.iconst 3, 1) := by decide +kernel
theorem dX8_init_49 : decode cX8_init 49 = .ok (.iconst 2, 1) := by decide +kernel
theorem dX8_init_50 : decode cX8_init 50 = .ok (.iastore, 1) := by decide +kernel
theorem dX8_init_51 : decode cX8_init 51 = .ok (.dup, 1) := by decide +kernel
theorem dX8_init_52 : decode cX8_init 52 = .ok (.iconst 4, 1) := by decide +kernel
theorem dX8_init_53 : decode cX8_init 53 = .ok (.bipush 6, 2) := by decide +kernel
theorem dX8_init_55 : decode cX8_init 55 = .ok (.iastore, 1) := by decide +kernel
theorem dX8_init_56 : decode cX8_init 56 = .ok (.dup, 1) := by decide +kernel
theorem dX8_init_57 : decode cX8_init 57 = .ok (.iconst 5, 1) := by decide +kernel
theorem dX8_init_58 : decode cX8_init 58 = .ok (.iconst 2, 1) := by decide +kernel
theorem dX8_init_59 : decode cX8_init 59 = .ok (.iastore, 1) := by decide +kernel
theorem dX8_init_60 : decode cX8_init 60 = .ok (.putfield 16, 3) := by decide +kernel
theorem dX8_init_63 : decode cX8_init 63 = .ok (.aload_n 0, 1) := by decide +kernel
theorem dX8_init_64 : decode cX8_init 64 = .ok (.bipush 12, 2) := by decide +kernel
theorem dX8_init_66 : decode cX8_init 66 = .ok (.newarray .int, 2) := by decide +kernel
theorem dX8_init_68 : decode cX8_init 68 = .ok (.putfield 19, 3) := by decide +kernel
theorem dX8_init_71 : decode cX8_init 71 = .ok (.aload_n 0, 1) := by decide +kernel
theorem dX8_init_72 : decode cX8_init 72 = .ok (.iconst 2, 1) := by decide +kernel
theorem dX8_init_73 : decode cX8_init 73 = .ok (.newarray .boolean, 2) := by decide +kernel
theorem dX8_init_75 : decode cX8_init 75 = .ok (.putfield 22, 3) := by decide +kernel
theorem dX8_init_78 : decode cX8_init 78 = .ok (.aload_n 0, 1) := by decide +kernel
theorem dX8_init_79 : decode cX8_init 79 = .ok (.bipush 106, 2) := by decide +kernel
theorem dX8_init_81 : decode cX8_init 81 = .ok (.newarray .int, 2) := by decide +kernel
theorem dX8_init_83 : decode cX8_init 83 = .ok (.putfield 26, 3) := by decide +kernel
theorem dX8_init_86 : decode cX8_init 86 = .ok (.aload_n 0, 1) := by decide +kernel
theorem dX8_init_87 : decode cX8_init 87 = .ok (.bipush 106, 2) := by decide +kernel
theorem dX8_init_89 : decode cX8_init 89 = .ok (.newarray .int, 2) := by decide +kernel
theorem dX8_init_91 : decode cX8_init 91 = .ok (.putfield 29, 3) := by decide +kernel
theorem dX8_init_94 : decode cX8_init 94 = .ok (.aload_n 0, 1) := by decide +kernel
theorem dX8_init_95 : decode cX8_init 95 = .ok (.bipush 12, 2) := by decide +kernel
theorem dX8_init_97 : decode cX8_init 97 = .ok (.newarray .int, 2) := by decide +kernel
theorem dX8_init_99 : decode cX8_init 99 = .ok (.putfield 32, 3) := by decide +kernel
theorem dX8_init_102 : decode cX8_init 102 = .ok (.aload_n 0, 1) := by decide +kernel
theorem dX8_init_103 : decode cX8_init 103 = .ok (.bipush 12, 2) := by decide +kernel
theorem dX8_init_105 : decode cX8_init 105 = .ok (.newarray .int, 2) := by decide +kernel
theorem dX8_init_107 : decode cX8_init 107 = .ok (.putfield 35, 3) := by decide +kernel
theorem dX8_init_110 : decode cX8_init 110 = .ok (.aload_n 0, 1) := by decide +kernel
theorem dX8_init_111 : decode cX8_init 111 = .ok (.bipush 100, 2) := by decide +kernel
theorem dX8_init_113 : decode cX8_init 113 = .ok (.newarray .byte, 2) := by decide +kernel
theorem dX8_init_115 : decode cX8_init 115 = .ok (.putfield 38, 3) := by decide +kernel
theorem dX8_init_118 : decode cX8_init 118 = .ok (.aload_n 0, 1) := by decide +kernel
theorem dX8_init_119 : decode cX8_init 119 = .ok (.bipush 6, 2) := by decide +kernel
theorem dX8_init_121 : decode cX8_init 121 = .ok (.newarray .int, 2) := by decide +kernel
theorem dX8_init_123 : decode cX8_init 123 = .ok (.putfield 42, 3) := by decide +kernel
theorem dX8_init_126 : decode cX8_init 126 = .ok (.aload_n 0, 1) := by decide +kernel
theorem dX8_init_127 : decode cX8_init 127 = .ok (.bipush 12, 2) := by decide +kernel
theorem dX8_init_129 : decode cX8_init 129 = .ok (.newarray .int, 2) := by decide +kernel
theorem dX8_init_131 : decode cX8_init 131 = .ok (.putfield 45, 3) := by decide +kernel
theorem dX8_init_134 : decode cX8_init 134 = .ok (.aload_n 0, 1) := by decide +kernel
theorem dX8_init_135 : decode cX8_init 135 = .ok (.bipush 72, 2) := by decide +kernel
theorem dX8_init_137 : decode cX8_init 137 = .ok (.newarray .int, 2) := by decide +kernel
theorem dX8_init_139 : decode cX8_init 139 = .ok (.putfield 48, 3) := by decide +kernel
theorem dX8_init_142 : decode cX8_init 142 = .ok (.aload_n 0, 1) := by decide +kernel
theorem dX8_init_143 : decode cX8_init 143 = .ok (.ldc 51, 2) := by decide +kernel
theorem dX8_init_145 : decode cX8_init 145 = .ok (.newarray .long, 2) := by decide +kernel
theorem dX8_init_147 : decode cX8_init 147 = .ok (.putfield 52, 3) := by decide +kernel
theorem dX8_init_150 : decode cX8_init 150 = .ok (.iconst 0, 1) := by decide +kernel
theorem dX8_init_151 : decode cX8_init 151 = .ok (.istore_n 1, 1) := by decide +kernel
theorem dX8_init_152 : decode cX8_init 152 = .ok (.iload_n 1, 1) := by decide +kernel
theorem dX8_init_153 : decode cX8_init 153 = .ok (.aload_n 0, 1) := by decide +kernel
theorem dX8_init_154 : decode cX8_init 154 = .ok (.getfield 9, 3) := by decide +kernel
theorem dX8_init_157 : decode cX8_init 157 = .ok (.arraylength, 1) := by decide +kernel
theorem dX8_init_158 : decode cX8_init 158 = .ok (.if_icmp .ge 17, 3) := by decide +kernel
theorem dX8_init_161 : decode cX8_init 161 = .ok (.aload_n 0, 1) := by decide +kernel
theorem dX8_init_162 : decode cX8_init 162 = .ok (.getfield 9, 3) := by decide +kernel
theorem dX8_init_165 : decode cX8_init 165 = .ok (.iload_n 1, 1) := by decide +kernel
theorem dX8_init_166 : decode cX8_init 166 = .ok (.bipush 50, 2) := by decide +kernel
theorem dX8_init_168 : decode cX8_init 168 = .ok (.iastore, 1) := by decide +kernel
theorem dX8_init_169 : decode cX8_init 169 = .ok (.iinc 1 1, 3) := by decide +kernel
theorem dX8_init_172 : decode cX8_init 172 = .ok (.goto (-20), 3) := by decide +kernel
theorem dX8_init_175 : decode cX8_init 175 = .ok (.aload_n 0, 1) := by decide +kernel
theorem dX8_init_176 : decode cX8_init 176 = .ok (.getfield 26, 3) := by decide +kernel
theorem dX8_init_179 : decode cX8_init 179 = .ok (.iconst 0, 1) := by decide +kernel
theorem dX8_init_180 : decode cX8_init 180 = .ok (.iconst (-1), 1) := by decide +kernel
theorem dX8_init_181 : decode cX8_init 181 = .ok (.iastore, 1) := by decide +kernel
theorem dX8_init_182 : decode cX8_init 182 = .ok (.aload_n 0, 1) := by decide +kernel
theorem dX8_init_183 : decode cX8_init 183 = .ok (.getfield 26, 3) := by decide +kernel
theorem dX8_init_186 : decode cX8_init 186 = .ok (.iconst 2, 1) := by decide +kernel
theorem dX8_init_187 : decode cX8_init 187 = .ok (.iconst (-1), 1) := by decide +kernel
theorem dX8_init_188 : decode cX8_init 188 = .ok (.iastore, 1) := by decide +kernel
theorem dX8_init_189 : decode cX8_init 189 = .ok (.aload_n 0, 1) := by decide +kernel
theorem dX8_init_190 : decode cX8_init 190 = .ok (.getfield 26, 3) := by decide +kernel
theorem dX8_init_193 : decode cX8_init 193 = .ok (.iconst 4, 1) := by decide +kernel
theorem dX8_init_194 : decode cX8_init 194 = .ok (.iconst (-1), 1) := by decide +kernel
theorem dX8_init_195 : decode cX8_init 195 = .ok (.iastore, 1) := by decide +kernel
theorem dX8_init_196 : decode cX8_init 196 = .ok (.aload_n 0, 1) := by decide +kernel
theorem dX8_init_197 : decode cX8_init 197 = .ok (.getfield 26, 3) := by decide +kernel
theorem dX8_init_200 : decode cX8_init 200 = .ok (.iconst 5, 1) := by decide +kernel
theorem dX8_init_201 : decode cX8_init 201 = .ok (.iconst (-1), 1) := by decide +kernel
theorem dX8_init_202 : decode cX8_init 202 = .ok (.iastore, 1) := by decide +kernel
theorem dX8_init_203 : decode cX8_init 203 = .ok (.iconst 0, 1) := by decide +kernel
theorem dX8_init_204 : decode cX8_init 204 = .ok (.istore_n 1, 1) := by decide +kernel
theorem dX8_init_205 : decode cX8_init 205 = .ok (.iload_n 1, 1) := by decide +kernel
theorem dX8_init_206 : decode cX8_init 206 = .ok (.iconst 2, 1) := by decide +kernel
theorem dX8_init_207 : decode cX8_init 207 = .ok (.if_icmp .ge 40, 3) := by decide +kernel
theorem dX8_init_210 : decode cX8_init 210 = .ok (.aload_n 0, 1) := by decide +kernel
theorem dX8_init_211 : decode cX8_init 211 = .ok (.iload_n 1, 1) := by decide +kernel
theorem dX8_init_212 : decode cX8_init 212 = .ok (.iconst 4, 1) := by decide +kernel
theorem dX8_init_213 : decode cX8_init 213 = .ok (.iconst (-1), 1) := by decide +kernel
theorem dX8_init_214 : decode cX8_init 214 = .ok (.invokevirtual 56, 3) := by decide +kernel
theorem dX8_init_217 : decode cX8_init 217 = .ok (.iconst 0, 1) := by decide +kernel
theorem dX8_init_218 : decode cX8_init 218 = .ok (.istore_n 2, 1) := by decide +kernel
theorem dX8_init_219 : decode cX8_init 219 = .ok (.iload_n 2, 1) := by decide +kernel
theorem dX8_init_220 : decode cX8_init 220 = .ok (.bipush 6, 2) := by decide +kernel
theorem dX8_init_222 : decode cX8_init 222 = .ok (.if_icmp .ge 19, 3) := by decide +kernel
theorem dX8_init_225 : decode cX8_init 225 = .ok (.aload_n 0, 1) := by decide +kernel
theorem dX8_init_226 : decode cX8_init 226 = .ok (.iload_n 1, 1) := by decide +kernel
theorem dX8_init_227 : decode cX8_init 227 = .ok (.bipush 8, 2) := by decide +kernel
theorem dX8_init_229 : decode cX8_init 229 = .ok (.iload_n 2, 1) := by decide +kernel
theorem dX8_init_230 : decode cX8_init 230 = .ok (.iadd, 1) := by decide +kernel
theorem dX8_init_231 : decode cX8_init 231 = .ok (.iconst (-1), 1) := by decide +kernel
theorem dX8_init_232 : decode cX8_init 232 = .ok (.invokevirtual 56, 3) := by decide +kernel
theorem dX8_init_235 : decode cX8_init 235 = .ok (.iinc 2 1, 3) := by decide +kernel
theorem dX8_init_238 : decode cX8_init 238 = .ok (.goto (-19), 3) := by decide +kernel
theorem dX8_init_241 : decode cX8_init 241 = .ok (.iinc 1 1, 3) := by decide +kernel
theorem dX8_init_244 : decode cX8_init 244 = .ok (.goto (-39), 3) := by decide +kernel
theorem dX8_init_247 : decode cX8_init 247 = .ok (.aload_n 0, 1) := by decide +kernel
theorem dX8_init_248 : decode cX8_init 248 = .ok (.invokevirtual 60, 3) := by decide +kernel
theorem dX8_init_251 : decode cX8_init 251 = .ok (.return_, 1) := by decide +kernel
theorem dX8_thrown_0 : decode cX8_thrown 0 = .ok (.aload_n 0, 1) := by decide +kernel
theorem dX8_thrown_1 : decode cX8_thrown 1 = .ok (.getfield 63, 3) := by decide +kernel
theorem dX8_thrown_4 : decode cX8_thrown 4 = .ok (.ireturn, 1) := by decide +kernel
theorem dX8_in_0 : decode cX8_in 0 = .ok (.iload_n 0, 1) := by decide +kernel
theorem dX8_in_1 : decode cX8_in 1 = .ok (.iload_n 1, 1) := by decide +kernel
theorem dX8_in_2 : decode cX8_in 2 = .ok (.if_icmp .lt 12, 3) := by decide +kernel
theorem dX8_in_5 : decode cX8_in 5 = .ok (.iload_n 0, 1) := by decide +kernel
theorem dX8_in_6 : decode cX8_in 6 = .ok (.iload_n 2, 1) := by decide +kernel
theorem dX8_in_7 : decode cX8_in 7 = .ok (.if_icmp .gt 7, 3) := by decide +kernel
theorem dX8_in_10 : decode cX8_in 10 = .ok (.iconst 1, 1) := by decide +kernel
theorem dX8_in_11 : decode cX8_in 11 = .ok (.goto 4, 3) := by decide +kernel
theorem dX8_in_14 : decode cX8_in 14 = .ok (.iconst 0, 1) := by decide +kernel
theorem dX8_in_15 : decode cX8_in 15 = .ok (.ireturn, 1) := by decide +kernel
theorem dX8_isTeam_0 : decode cX8_isTeam 0 = .ok (.iload_n 0, 1) := by decide +kernel
theorem dX8_isTeam_1 : decode cX8_isTeam 1 = .ok (.ifCond .eq 8, 3) := by decide +kernel
theorem dX8_isTeam_4 : decode cX8_isTeam 4 = .ok (.iload_n 0, 1) := by decide +kernel
theorem dX8_isTeam_5 : decode cX8_isTeam 5 = .ok (.iconst 1, 1) := by decide +kernel
theorem dX8_isTeam_6 : decode cX8_isTeam 6 = .ok (.if_icmp .ne 7, 3) := by decide +kernel
theorem dX8_isTeam_9 : decode cX8_isTeam 9 = .ok (.iconst 1, 1) := by decide +kernel
theorem dX8_isTeam_10 : decode cX8_isTeam 10 = .ok (.goto 4, 3) := by decide +kernel
theorem dX8_isTeam_13 : decode cX8_isTeam 13 = .ok (.iconst 0, 1) := by decide +kernel
theorem dX8_isTeam_14 : decode cX8_isTeam 14 = .ok (.ireturn, 1) := by decide +kernel
theorem dX8_isPlayer_0 : decode cX8_isPlayer 0 = .ok (.iload_n 0, 1) := by decide +kernel
theorem dX8_isPlayer_1 : decode cX8_isPlayer 1 = .ok (.iconst 0, 1) := by decide +kernel
theorem dX8_isPlayer_2 : decode cX8_isPlayer 2 = .ok (.bipush 11, 2) := by decide +kernel
theorem dX8_isPlayer_4 : decode cX8_isPlayer 4 = .ok (.invokestatic 67, 3) := by decide +kernel
theorem dX8_isPlayer_7 : decode cX8_isPlayer 7 = .ok (.ireturn, 1) := by decide +kernel
theorem dX8_get_0 : decode cX8_get 0 = .ok (.aload_n 0, 1) := by decide +kernel
theorem dX8_get_1 : decode cX8_get 1 = .ok (.getfield 26, 3) := by decide +kernel
theorem dX8_get_4 : decode cX8_get 4 = .ok (.bipush 6, 2) := by decide +kernel
theorem dX8_get_6 : decode cX8_get 6 = .ok (.bipush 50, 2) := by decide +kernel
theorem dX8_get_8 : decode cX8_get 8 = .ok (.iload_n 1, 1) := by decide +kernel
theorem dX8_get_9 : decode cX8_get 9 = .ok (.imul, 1) := by decide +kernel
theorem dX8_get_10 : decode cX8_get 10 = .ok (.iadd, 1) := by decide +kernel
theorem dX8_get_11 : decode cX8_get 11 = .ok (.iload_n 2, 1) := by decide +kernel
theorem dX8_get_12 : decode cX8_get 12 = .ok (.iadd, 1) := by decide +kernel
theorem dX8_get_13 : decode cX8_get 13 = .ok (.iaload, 1) := by decide +kernel
theorem dX8_get_14 : decode cX8_get 14 = .ok (.ireturn, 1) := by decide +kernel
theorem dX8_put_0 : decode cX8_put 0 = .ok (.aload_n 0, 1) := by decide +kernel
theorem dX8_put_1 : decode cX8_put 1 = .ok (.getfield 26, 3) := by decide +kernel
theorem dX8_put_4 : decode cX8_put 4 = .ok (.bipush 6, 2) := by decide +kernel
theorem dX8_put_6 : decode cX8_put 6 = .ok (.bipush 50, 2) := by decide +kernel
theorem dX8_put_8 : decode cX8_put 8 = .ok (.iload_n 1, 1) := by decide +kernel
theorem dX8_put_9 : decode cX8_put 9 = .ok (.imul, 1) := by decide +kernel
theorem dX8_put_10 : decode cX8_put 10 = .ok (.iadd, 1) := by decide +kernel
theorem dX8_put_11 : decode cX8_put 11 = .ok (.iload_n 2, 1) := by decide +kernel
theorem dX8_put_12 : decode cX8_put 12 = .ok (.iadd, 1) := by decide +kernel
theorem dX8_put_13 : decode cX8_put 13 = .ok (.iload_n 3, 1) := by decide +kernel
theorem dX8_put_14 : decode cX8_put 14 = .ok (.iastore, 1) := by decide +kernel
theorem dX8_put_15 : decode cX8_put 15 = .ok (.return_, 1) := by decide +kernel
theorem dX8_isOn_0 : decode cX8_isOn 0 = .ok (.aload_n 0, 1) := by decide +kernel
theorem dX8_isOn_1 : decode cX8_isOn 1 = .ok (.getfield 26, 3) := by decide +kernel
theorem dX8_isOn_4 : decode cX8_isOn 4 = .ok (.iconst 1, 1) := by decide +kernel
theorem dX8_isOn_5 : decode cX8_isOn 5 = .ok (.iaload, 1) := by decide +kernel
theorem dX8_isOn_6 : decode cX8_isOn 6 = .ok (.iconst 1, 1) := by decide +kernel
theorem dX8_isOn_7 : decode cX8_isOn 7 = .ok (.if_icmp .ne 7, 3) := by decide +kernel
theorem dX8_isOn_10 : decode cX8_isOn 10 = .ok (.iconst 1, 1) := by decide +kernel
theorem dX8_isOn_11 : decode cX8_isOn 11 = .ok (.goto 4, 3) := by decide +kernel
theorem dX8_isOn_14 : decode cX8_isOn 14 = .ok (.iconst 0, 1) := by decide +kernel
theorem dX8_isOn_15 : decode cX8_isOn 15 = .ok (.ireturn, 1) := by decide +kernel
theorem dX8_stand_0 : decode cX8_stand 0 = .ok (.iconst 0, 1) := by decide +kernel
theorem dX8_stand_1 : decode cX8_stand 1 = .ok (.istore_n 1, 1) := by decide +kernel
theorem dX8_stand_2 : decode cX8_stand 2 = .ok (.iload_n 1, 1) := by decide +kernel
theorem dX8_stand_3 : decode cX8_stand 3 = .ok (.iconst 2, 1) := by decide +kernel
theorem dX8_stand_4 : decode cX8_stand 4 = .ok (.if_icmp .ge 93, 3) := by decide +kernel
theorem dX8_stand_7 : decode cX8_stand 7 = .ok (.iconst 0, 1) := by decide +kernel
theorem dX8_stand_8 : decode cX8_stand 8 = .ok (.istore_n 2, 1) := by decide +kernel
theorem dX8_stand_9 : decode cX8_stand 9 = .ok (.iload_n 2, 1) := by decide +kernel
theorem dX8_stand_10 : decode cX8_stand 10 = .ok (.bipush 6, 2) := by decide +kernel
theorem dX8_stand_12 : decode cX8_stand 12 = .ok (.if_icmp .ge 79, 3) := by decide +kernel
theorem dX8_stand_15 : decode cX8_stand 15 = .ok (.aload_n 0, 1) := by decide +kernel
theorem dX8_stand_16 : decode cX8_stand 16 = .ok (.getfield 32, 3) := by decide +kernel
theorem dX8_stand_19 : decode cX8_stand 19 = .ok (.bipush 6, 2) := by decide +kernel
theorem dX8_stand_21 : decode cX8_stand 21 = .ok (.iload_n 1, 1) := by decide +kernel
theorem dX8_stand_22 : decode cX8_stand 22 = .ok (.imul, 1) := by decide +kernel
theorem dX8_stand_23 : decode cX8_stand 23 = .ok (.iload_n 2, 1) := by decide +kernel
theorem dX8_stand_24 : decode cX8_stand 24 = .ok (.iadd, 1) := by decide +kernel
theorem dX8_stand_25 : decode cX8_stand 25 = .ok (.iload_n 2, 1) := by decide +kernel
theorem dX8_stand_26 : decode cX8_stand 26 = .ok (.iconst 2, 1) := by decide +kernel
theorem dX8_stand_27 : decode cX8_stand 27 = .ok (.if_icmp .ge 9, 3) := by decide +kernel
theorem dX8_stand_30 : decode cX8_stand 30 = .ok (.sipush 800, 3) := by decide +kernel
theorem dX8_stand_33 : decode cX8_stand 33 = .ok (.goto 22, 3) := by decide +kernel
theorem dX8_stand_36 : decode cX8_stand 36 = .ok (.iload_n 2, 1) := by decide +kernel
theorem dX8_stand_37 : decode cX8_stand 37 = .ok (.iconst 2, 1) := by decide +kernel
theorem dX8_stand_38 : decode cX8_stand 38 = .ok (.if_icmp .eq 8, 3) := by decide +kernel
theorem dX8_stand_41 : decode cX8_stand 41 = .ok (.iload_n 2, 1) := by decide +kernel
theorem dX8_stand_42 : decode cX8_stand 42 = .ok (.iconst 5, 1) := by decide +kernel
theorem dX8_stand_43 : decode cX8_stand 43 = .ok (.if_icmp .ne 9, 3) := by decide +kernel
theorem dX8_stand_46 : decode cX8_stand 46 = .ok (.sipush 500, 3) := by decide +kernel
theorem dX8_stand_49 : decode cX8_stand 49 = .ok (.goto 6, 3) := by decide +kernel
theorem dX8_stand_52 : decode cX8_stand 52 = .ok (.sipush 200, 3) := by decide +kernel
theorem dX8_stand_55 : decode cX8_stand 55 = .ok (.iastore, 1) := by decide +kernel
theorem dX8_stand_56 : decode cX8_stand 56 = .ok (.aload_n 0, 1) := by decide +kernel
theorem dX8_stand_57 : decode cX8_stand 57 = .ok (.getfield 35, 3) := by decide +kernel
theorem dX8_stand_60 : decode cX8_stand 60 = .ok (.bipush 6, 2) := by decide +kernel
theorem dX8_stand_62 : decode cX8_stand 62 = .ok (.iload_n 1, 1) := by decide +kernel
theorem dX8_stand_63 : decode cX8_stand 63 = .ok (.imul, 1) := by decide +kernel
theorem dX8_stand_64 : decode cX8_stand 64 = .ok (.iload_n 2, 1) := by decide +kernel
theorem dX8_stand_65 : decode cX8_stand 65 = .ok (.iadd, 1) := by decide +kernel
theorem dX8_stand_66 : decode cX8_stand 66 = .ok (.iload_n 2, 1) := by decide +kernel
theorem dX8_stand_67 : decode cX8_stand 67 = .ok (.ifCond .eq 8, 3) := by decide +kernel
theorem dX8_stand_70 : decode cX8_stand 70 = .ok (.iload_n 2, 1) := by decide +kernel
theorem dX8_stand_71 : decode cX8_stand 71 = .ok (.iconst 3, 1) := by decide +kernel
theorem dX8_stand_72 : decode cX8_stand 72 = .ok (.if_icmp .le 9, 3) := by decide +kernel
theorem dX8_stand_75 : decode cX8_stand 75 = .ok (.sipush 800, 3) := by decide +kernel
theorem dX8_stand_78 : decode cX8_stand 78 = .ok (.goto 6, 3) := by decide +kernel
theorem dX8_stand_81 : decode cX8_stand 81 = .ok (.sipush 200, 3) := by decide +kernel
theorem dX8_stand_84 : decode cX8_stand 84 = .ok (.iastore, 1) := by decide +kernel
theorem dX8_stand_85 : decode cX8_stand 85 = .ok (.iinc 2 1, 3) := by decide +kernel
theorem dX8_stand_88 : decode cX8_stand 88 = .ok (.goto (-79), 3) := by decide +kernel
theorem dX8_stand_91 : decode cX8_stand 91 = .ok (.iinc 1 1, 3) := by decide +kernel
theorem dX8_stand_94 : decode cX8_stand 94 = .ok (.goto (-92), 3) := by decide +kernel
theorem dX8_stand_97 : decode cX8_stand 97 = .ok (.return_, 1) := by decide +kernel
theorem dX8_skillOf_0 : decode cX8_skillOf 0 = .ok (.aload_n 0, 1) := by decide +kernel
theorem dX8_skillOf_1 : decode cX8_skillOf 1 = .ok (.getfield 9, 3) := by decide +kernel
theorem dX8_skillOf_4 : decode cX8_skillOf 4 = .ok (.bipush 12, 2) := by decide +kernel
theorem dX8_skillOf_6 : decode cX8_skillOf 6 = .ok (.iload_n 1, 1) := by decide +kernel
theorem dX8_skillOf_7 : decode cX8_skillOf 7 = .ok (.imul, 1) := by decide +kernel
theorem dX8_skillOf_8 : decode cX8_skillOf 8 = .ok (.iload_n 2, 1) := by decide +kernel
theorem dX8_skillOf_9 : decode cX8_skillOf 9 = .ok (.iadd, 1) := by decide +kernel
theorem dX8_skillOf_10 : decode cX8_skillOf 10 = .ok (.iconst 4, 1) := by decide +kernel
theorem dX8_skillOf_11 : decode cX8_skillOf 11 = .ok (.imul, 1) := by decide +kernel
theorem dX8_skillOf_12 : decode cX8_skillOf 12 = .ok (.iload_n 3, 1) := by decide +kernel
theorem dX8_skillOf_13 : decode cX8_skillOf 13 = .ok (.iadd, 1) := by decide +kernel
theorem dX8_skillOf_14 : decode cX8_skillOf 14 = .ok (.iaload, 1) := by decide +kernel
theorem dX8_skillOf_15 : decode cX8_skillOf 15 = .ok (.ireturn, 1) := by decide +kernel
theorem dX8_skill_0 : decode cX8_skill 0 = .ok (.aload_n 0, 1) := by decide +kernel
theorem dX8_skill_1 : decode cX8_skill 1 = .ok (.iconst 0, 1) := by decide +kernel
theorem dX8_skill_2 : decode cX8_skill 2 = .ok (.putfield 63, 3) := by decide +kernel
theorem dX8_skill_5 : decode cX8_skill 5 = .ok (.iload_n 1, 1) := by decide +kernel
theorem dX8_skill_6 : decode cX8_skill 6 = .ok (.invokestatic 71, 3) := by decide +kernel
theorem dX8_skill_9 : decode cX8_skill 9 = .ok (.ifCond .eq 30, 3) := by decide +kernel
theorem dX8_skill_12 : decode cX8_skill 12 = .ok (.iload_n 2, 1) := by decide +kernel
theorem dX8_skill_13 : decode cX8_skill 13 = .ok (.invokestatic 75, 3) := by decide +kernel
theorem dX8_skill_16 : decode cX8_skill 16 = .ok (.ifCond .eq 23, 3) := by decide +kernel
theorem dX8_skill_19 : decode cX8_skill 19 = .ok (.iload_n 3, 1) := by decide +kernel
theorem dX8_skill_20 : decode cX8_skill 20 = .ok (.iconst 0, 1) := by decide +kernel
theorem dX8_skill_21 : decode cX8_skill 21 = .ok (.iconst 3, 1) := by decide +kernel
theorem dX8_skill_22 : decode cX8_skill 22 = .ok (.invokestatic 67, 3) := by decide +kernel
theorem dX8_skill_25 : decode cX8_skill 25 = .ok (.ifCond .eq 14, 3) := by decide +kernel
theorem dX8_skill_28 : decode cX8_skill 28 = .ok (.iload 4, 2) := by decide +kernel
theorem dX8_skill_30 : decode cX8_skill 30 = .ok (.iconst 0, 1) := by decide +kernel
theorem dX8_skill_31 : decode cX8_skill 31 = .ok (.bipush 100, 2) := by decide +kernel
theorem dX8_skill_33 : decode cX8_skill 33 = .ok (.invokestatic 67, 3) := by decide +kernel
theorem dX8_skill_36 : decode cX8_skill 36 = .ok (.ifCond .ne 5, 3) := by decide +kernel
theorem dX8_skill_39 : decode cX8_skill 39 = .ok (.iconst (-1), 1) := by decide +kernel
theorem dX8_skill_40 : decode cX8_skill 40 = .ok (.ireturn, 1) := by decide +kernel
theorem dX8_skill_41 : decode cX8_skill 41 = .ok (.aload_n 0, 1) := by decide +kernel
theorem dX8_skill_42 : decode cX8_skill 42 = .ok (.iload_n 1, 1) := by decide +kernel
theorem dX8_skill_43 : decode cX8_skill 43 = .ok (.iload_n 2, 1) := by decide +kernel
theorem dX8_skill_44 : decode cX8_skill 44 = .ok (.iload_n 3, 1) := by decide +kernel
theorem dX8_skill_45 : decode cX8_skill 45 = .ok (.invokevirtual 78, 3) := by decide +kernel
theorem dX8_skill_48 : decode cX8_skill 48 = .ok (.istore 5, 2) := by decide +kernel
theorem dX8_skill_50 : decode cX8_skill 50 = .ok (.aload_n 0, 1) := by decide +kernel
theorem dX8_skill_51 : decode cX8_skill 51 = .ok (.getfield 9, 3) := by decide +kernel
theorem dX8_skill_54 : decode cX8_skill 54 = .ok (.bipush 12, 2) := by decide +kernel
theorem dX8_skill_56 : decode cX8_skill 56 = .ok (.iload_n 1, 1) := by decide +kernel
theorem dX8_skill_57 : decode cX8_skill 57 = .ok (.imul, 1) := by decide +kernel
theorem dX8_skill_58 : decode cX8_skill 58 = .ok (.iload_n 2, 1) := by decide +kernel
theorem dX8_skill_59 : decode cX8_skill 59 = .ok (.iadd, 1) := by decide +kernel
theorem dX8_skill_60 : decode cX8_skill 60 = .ok (.iconst 4, 1) := by decide +kernel
theorem dX8_skill_61 : decode cX8_skill 61 = .ok (.imul, 1) := by decide +kernel
theorem dX8_skill_62 : decode cX8_skill 62 = .ok (.iload_n 3, 1) := by decide +kernel
theorem dX8_skill_63 : decode cX8_skill 63 = .ok (.iadd, 1) := by decide +kernel
theorem dX8_skill_64 : decode cX8_skill 64 = .ok (.iload 4, 2) := by decide +kernel
theorem dX8_skill_66 : decode cX8_skill 66 = .ok (.iastore, 1) := by decide +kernel
theorem dX8_skill_67 : decode cX8_skill 67 = .ok (.iload 5, 2) := by decide +kernel
theorem dX8_skill_69 : decode cX8_skill 69 = .ok (.ireturn, 1) := by decide +kernel
theorem dX8_libre_0 : decode cX8_libre 0 = .ok (.aload_n 0, 1) := by decide +kernel
theorem dX8_libre_1 : decode cX8_libre 1 = .ok (.iconst 0, 1) := by decide +kernel
theorem dX8_libre_2 : decode cX8_libre 2 = .ok (.putfield 63, 3) := by decide +kernel
theorem dX8_libre_5 : decode cX8_libre 5 = .ok (.iload_n 1, 1) := by decide +kernel
theorem dX8_libre_6 : decode cX8_libre 6 = .ok (.invokestatic 71, 3) := by decide +kernel
theorem dX8_libre_9 : decode cX8_libre 9 = .ok (.ifCond .eq 22, 3) := by decide +kernel
theorem dX8_libre_12 : decode cX8_libre 12 = .ok (.iload_n 2, 1) := by decide +kernel
theorem dX8_libre_13 : decode cX8_libre 13 = .ok (.iconst (-1), 1) := by decide +kernel
theorem dX8_libre_14 : decode cX8_libre 14 = .ok (.if_icmp .eq 10, 3) := by decide +kernel
theorem dX8_libre_17 : decode cX8_libre 17 = .ok (.iload_n 2, 1) := by decide +kernel
theorem dX8_libre_18 : decode cX8_libre 18 = .ok (.invokestatic 75, 3) := by decide +kernel
theorem dX8_libre_21 : decode cX8_libre 21 = .ok (.ifCond .eq 10, 3) := by decide +kernel
theorem dX8_libre_24 : decode cX8_libre 24 = .ok (.aload_n 0, 1) := by decide +kernel
theorem dX8_libre_25 : decode cX8_libre 25 = .ok (.invokevirtual 82, 3) := by decide +kernel
theorem dX8_libre_28 : decode cX8_libre 28 = .ok (.ifCond .eq 6, 3) := by decide +kernel
theorem dX8_libre_31 : decode cX8_libre 31 = .ok (.bipush (-2), 2) := by decide +kernel
theorem dX8_libre_33 : decode cX8_libre 33 = .ok (.ireturn, 1) := by decide +kernel
theorem dX8_libre_34 : decode cX8_libre 34 = .ok (.aload_n 0, 1) := by decide +kernel
theorem dX8_libre_35 : decode cX8_libre 35 = .ok (.getfield 13, 3) := by decide +kernel
theorem dX8_libre_38 : decode cX8_libre 38 = .ok (.iload_n 1, 1) := by decide +kernel
theorem dX8_libre_39 : decode cX8_libre 39 = .ok (.iaload, 1) := by decide +kernel
theorem dX8_libre_40 : decode cX8_libre 40 = .ok (.istore_n 3, 1) := by decide +kernel
theorem dX8_libre_41 : decode cX8_libre 41 = .ok (.aload_n 0, 1) := by decide +kernel
theorem dX8_libre_42 : decode cX8_libre 42 = .ok (.getfield 13, 3) := by decide +kernel
theorem dX8_libre_45 : decode cX8_libre 45 = .ok (.iload_n 1, 1) := by decide +kernel
theorem dX8_libre_46 : decode cX8_libre 46 = .ok (.iload_n 2, 1) := by decide +kernel
theorem dX8_libre_47 : decode cX8_libre 47 = .ok (.iastore, 1) := by decide +kernel
theorem dX8_libre_48 : decode cX8_libre 48 = .ok (.iload_n 3, 1) := by decide +kernel
theorem dX8_libre_49 : decode cX8_libre 49 = .ok (.ireturn, 1) := by decide +kernel
theorem dX8_set_0 : decode cX8_set 0 = .ok (.aload_n 0, 1) := by decide +kernel
theorem dX8_set_1 : decode cX8_set 1 = .ok (.iconst 0, 1) := by decide +kernel
theorem dX8_set_2 : decode cX8_set 2 = .ok (.putfield 63, 3) := by decide +kernel
theorem dX8_set_5 : decode cX8_set 5 = .ok (.iload_n 1, 1) := by decide +kernel
theorem dX8_set_6 : decode cX8_set 6 = .ok (.iconst 0, 1) := by decide +kernel
theorem dX8_set_7 : decode cX8_set 7 = .ok (.iconst 5, 1) := by decide +kernel
theorem dX8_set_8 : decode cX8_set 8 = .ok (.invokestatic 67, 3) := by decide +kernel
theorem dX8_set_11 : decode cX8_set 11 = .ok (.ifCond .eq 59, 3) := by decide +kernel
theorem dX8_set_14 : decode cX8_set 14 = .ok (.iload_n 2, 1) := by decide +kernel
theorem dX8_set_15 : decode cX8_set 15 = .ok (.getstatic 86, 3) := by decide +kernel
theorem dX8_set_18 : decode cX8_set 18 = .ok (.iload_n 1, 1) := by decide +kernel
theorem dX8_set_19 : decode cX8_set 19 = .ok (.iaload, 1) := by decide +kernel
theorem dX8_set_20 : decode cX8_set 20 = .ok (.getstatic 89, 3) := by decide +kernel
theorem dX8_set_23 : decode cX8_set 23 = .ok (.iload_n 1, 1) := by decide +kernel
theorem dX8_set_24 : decode cX8_set 24 = .ok (.iaload, 1) := by decide +kernel
theorem dX8_set_25 : decode cX8_set 25 = .ok (.invokestatic 67, 3) := by decide +kernel
theorem dX8_set_28 : decode cX8_set 28 = .ok (.ifCond .eq 42, 3) := by decide +kernel
theorem dX8_set_31 : decode cX8_set 31 = .ok (.aload_n 0, 1) := by decide +kernel
theorem dX8_set_32 : decode cX8_set 32 = .ok (.getfield 26, 3) := by decide +kernel
theorem dX8_set_35 : decode cX8_set 35 = .ok (.iconst 0, 1) := by decide +kernel
theorem dX8_set_36 : decode cX8_set 36 = .ok (.iaload, 1) := by decide +kernel
theorem dX8_set_37 : decode cX8_set 37 = .ok (.iconst (-1), 1) := by decide +kernel
theorem dX8_set_38 : decode cX8_set 38 = .ok (.if_icmp .ne 32, 3) := by decide +kernel
theorem dX8_set_41 : decode cX8_set 41 = .ok (.iload_n 1, 1) := by decide +kernel
theorem dX8_set_42 : decode cX8_set 42 = .ok (.ifCond .ne 13, 3) := by decide +kernel
theorem dX8_set_45 : decode cX8_set 45 = .ok (.iload_n 2, 1) := by decide +kernel
theorem dX8_set_46 : decode cX8_set 46 = .ok (.aload_n 0, 1) := by decide +kernel
theorem dX8_set_47 : decode cX8_set 47 = .ok (.getfield 16, 3) := by decide +kernel
theorem dX8_set_50 : decode cX8_set 50 = .ok (.iconst 1, 1) := by decide +kernel
theorem dX8_set_51 : decode cX8_set 51 = .ok (.iaload, 1) := by decide +kernel
theorem dX8_set_52 : decode cX8_set 52 = .ok (.if_icmp .gt 18, 3) := by decide +kernel
theorem dX8_set_55 : decode cX8_set 55 = .ok (.iload_n 1, 1) := by decide +kernel
theorem dX8_set_56 : decode cX8_set 56 = .ok (.iconst 1, 1) := by decide +kernel
theorem dX8_set_57 : decode cX8_set 57 = .ok (.if_icmp .ne 15, 3) := by decide +kernel
theorem dX8_set_60 : decode cX8_set 60 = .ok (.iload_n 2, 1) := by decide +kernel
theorem dX8_set_61 : decode cX8_set 61 = .ok (.aload_n 0, 1) := by decide +kernel
theorem dX8_set_62 : decode cX8_set 62 = .ok (.getfield 16, 3) := by decide +kernel
theorem dX8_set_65 : decode cX8_set 65 = .ok (.iconst 0, 1) := by decide +kernel
theorem dX8_set_66 : decode cX8_set 66 = .ok (.iaload, 1) := by decide +kernel
theorem dX8_set_67 : decode cX8_set 67 = .ok (.if_icmp .ge 5, 3) := by decide +kernel
theorem dX8_set_70 : decode cX8_set 70 = .ok (.iconst (-1), 1) := by decide +kernel
theorem dX8_set_71 : decode cX8_set 71 = .ok (.ireturn, 1) := by decide +kernel
theorem dX8_set_72 : decode cX8_set 72 = .ok (.aload_n 0, 1) := by decide +kernel
theorem dX8_set_73 : decode cX8_set 73 = .ok (.getfield 16, 3) := by decide +kernel
theorem dX8_set_76 : decode cX8_set 76 = .ok (.iload_n 1, 1) := by decide +kernel
theorem dX8_set_77 : decode cX8_set 77 = .ok (.iaload, 1) := by decide +kernel
theorem dX8_set_78 : decode cX8_set 78 = .ok (.istore_n 3, 1) := by decide +kernel
theorem dX8_set_79 : decode cX8_set 79 = .ok (.aload_n 0, 1) := by decide +kernel
theorem dX8_set_80 : decode cX8_set 80 = .ok (.getfield 16, 3) := by decide +kernel
theorem dX8_set_83 : decode cX8_set 83 = .ok (.iload_n 1, 1) := by decide +kernel
theorem dX8_set_84 : decode cX8_set 84 = .ok (.iload_n 2, 1) := by decide +kernel
theorem dX8_set_85 : decode cX8_set 85 = .ok (.iastore, 1) := by decide +kernel
theorem dX8_set_86 : decode cX8_set 86 = .ok (.iload_n 3, 1) := by decide +kernel
theorem dX8_set_87 : decode cX8_set 87 = .ok (.ireturn, 1) := by decide +kernel
theorem dX8_lineUp_0 : decode cX8_lineUp 0 = .ok (.aload_n 0, 1) := by decide +kernel
theorem dX8_lineUp_1 : decode cX8_lineUp 1 = .ok (.iconst 0, 1) := by decide +kernel
theorem dX8_lineUp_2 : decode cX8_lineUp 2 = .ok (.putfield 63, 3) := by decide +kernel
theorem dX8_lineUp_5 : decode cX8_lineUp 5 = .ok (.aload_n 0, 1) := by decide +kernel
theorem dX8_lineUp_6 : decode cX8_lineUp 6 = .ok (.getfield 42, 3) := by decide +kernel
theorem dX8_lineUp_9 : decode cX8_lineUp 9 = .ok (.iconst 0, 1) := by decide +kernel
theorem dX8_lineUp_10 : decode cX8_lineUp 10 = .ok (.iload_n 2, 1) := by decide +kernel
theorem dX8_lineUp_11 : decode cX8_lineUp 11 = .ok (.iastore, 1) := by decide +kernel
theorem dX8_lineUp_12 : decode cX8_lineUp 12 = .ok (.aload_n 0, 1) := by decide +kernel
theorem dX8_lineUp_13 : decode cX8_lineUp 13 = .ok (.getfield 42, 3) := by decide +kernel
theorem dX8_lineUp_16 : decode cX8_lineUp 16 = .ok (.iconst 1, 1) := by decide +kernel
theorem dX8_lineUp_17 : decode cX8_lineUp 17 = .ok (.iload_n 3, 1) := by decide +kernel
theorem dX8_lineUp_18 : decode cX8_lineUp 18 = .ok (.iastore, 1) := by decide +kernel
theorem dX8_lineUp_19 : decode cX8_lineUp 19 = .ok (.aload_n 0, 1) := by decide +kernel
theorem dX8_lineUp_20 : decode cX8_lineUp 20 = .ok (.getfield 42, 3) := by decide +kernel
theorem dX8_lineUp_23 : decode cX8_lineUp 23 = .ok (.iconst 2, 1) := by decide +kernel
theorem dX8_lineUp_24 : decode cX8_lineUp 24 = .ok (.iload 4, 2) := by decide +kernel
theorem dX8_lineUp_26 : decode cX8_lineUp 26 = .ok (.iastore, 1) := by decide +kernel
theorem dX8_lineUp_27 : decode cX8_lineUp 27 = .ok (.aload_n 0, 1) := by decide +kernel
theorem dX8_lineUp_28 : decode cX8_lineUp 28 = .ok (.getfield 42, 3) := by decide +kernel
theorem dX8_lineUp_31 : decode cX8_lineUp 31 = .ok (.iconst 3, 1) := by decide +kernel
theorem dX8_lineUp_32 : decode cX8_lineUp 32 = .ok (.iload 5, 2) := by decide +kernel
theorem dX8_lineUp_34 : decode cX8_lineUp 34 = .ok (.iastore, 1) := by decide +kernel
theorem dX8_lineUp_35 : decode cX8_lineUp 35 = .ok (.aload_n 0, 1) := by decide +kernel
theorem dX8_lineUp_36 : decode cX8_lineUp 36 = .ok (.getfield 42, 3) := by decide +kernel
theorem dX8_lineUp_39 : decode cX8_lineUp 39 = .ok (.iconst 4, 1) := by decide +kernel
theorem dX8_lineUp_40 : decode cX8_lineUp 40 = .ok (.iload 6, 2) := by decide +kernel
theorem dX8_lineUp_42 : decode cX8_lineUp 42 = .ok (.iastore, 1) := by decide +kernel
theorem dX8_lineUp_43 : decode cX8_lineUp 43 = .ok (.aload_n 0, 1) := by decide +kernel
theorem dX8_lineUp_44 : decode cX8_lineUp 44 = .ok (.getfield 42, 3) := by decide +kernel
theorem dX8_lineUp_47 : decode cX8_lineUp 47 = .ok (.iconst 5, 1) := by decide +kernel
theorem dX8_lineUp_48 : decode cX8_lineUp 48 = .ok (.iload 7, 2) := by decide +kernel
theorem dX8_lineUp_50 : decode cX8_lineUp 50 = .ok (.iastore, 1) := by decide +kernel
theorem dX8_lineUp_51 : decode cX8_lineUp 51 = .ok (.iload_n 1, 1) := by decide +kernel
theorem dX8_lineUp_52 : decode cX8_lineUp 52 = .ok (.invokestatic 71, 3) := by decide +kernel
theorem dX8_lineUp_55 : decode cX8_lineUp 55 = .ok (.ifCond .eq 20, 3) := by decide +kernel
theorem dX8_lineUp_58 : decode cX8_lineUp 58 = .ok (.aload_n 0, 1) := by decide +kernel
theorem dX8_lineUp_59 : decode cX8_lineUp 59 = .ok (.invokevirtual 82, 3) := by decide +kernel
theorem dX8_lineUp_62 : decode cX8_lineUp 62 = .ok (.ifCond .ne 13, 3) := by decide +kernel
theorem dX8_lineUp_65 : decode cX8_lineUp 65 = .ok (.aload_n 0, 1) := by decide +kernel
theorem dX8_lineUp_66 : decode cX8_lineUp 66 = .ok (.getfield 26, 3) := by decide +kernel
theorem dX8_lineUp_69 : decode cX8_lineUp 69 = .ok (.iconst 4, 1) := by decide +kernel
theorem dX8_lineUp_70 : decode cX8_lineUp 70 = .ok (.iaload, 1) := by decide +kernel
theorem dX8_lineUp_71 : decode cX8_lineUp 71 = .ok (.iconst (-1), 1) := by decide +kernel
theorem dX8_lineUp_72 : decode cX8_lineUp 72 = .ok (.if_icmp .eq 5, 3) := by decide +kernel
theorem dX8_lineUp_75 : decode cX8_lineUp 75 = .ok (.iconst 0, 1) := by decide +kernel
theorem dX8_lineUp_76 : decode cX8_lineUp 76 = .ok (.ireturn, 1) := by decide +kernel
theorem dX8_lineUp_77 : decode cX8_lineUp 77 = .ok (.iconst 0, 1) := by decide +kernel
theorem dX8_lineUp_78 : decode cX8_lineUp 78 = .ok (.istore 8, 2) := by decide +kernel
theorem dX8_lineUp_80 : decode cX8_lineUp 80 = .ok (.iload 8, 2) := by decide +kernel
theorem dX8_lineUp_82 : decode cX8_lineUp 82 = .ok (.bipush 6, 2) := by decide +kernel
theorem dX8_lineUp_84 : decode cX8_lineUp 84 = .ok (.if_icmp .ge 75, 3) := by decide +kernel
theorem dX8_lineUp_87 : decode cX8_lineUp 87 = .ok (.aload_n 0, 1) := by decide +kernel
theorem dX8_lineUp_88 : decode cX8_lineUp 88 = .ok (.getfield 42, 3) := by decide +kernel
theorem dX8_lineUp_91 : decode cX8_lineUp 91 = .ok (.iload 8, 2) := by decide +kernel
theorem dX8_lineUp_93 : decode cX8_lineUp 93 = .ok (.iaload, 1) := by decide +kernel
theorem dX8_lineUp_94 : decode cX8_lineUp 94 = .ok (.invokestatic 75, 3) := by decide +kernel
theorem dX8_lineUp_97 : decode cX8_lineUp 97 = .ok (.ifCond .eq 19, 3) := by decide +kernel
theorem dX8_lineUp_100 : decode cX8_lineUp 100 = .ok (.aload_n 0, 1) := by decide +kernel
theorem dX8_lineUp_101 : decode cX8_lineUp 101 = .ok (.getfield 42, 3) := by decide +kernel
theorem dX8_lineUp_104 : decode cX8_lineUp 104 = .ok (.iload 8, 2) := by decide +kernel
theorem dX8_lineUp_106 : decode cX8_lineUp 106 = .ok (.iaload, 1) := by decide +kernel
theorem dX8_lineUp_107 : decode cX8_lineUp 107 = .ok (.aload_n 0, 1) := by decide +kernel
theorem dX8_lineUp_108 : decode cX8_lineUp 108 = .ok (.getfield 13, 3) := by decide +kernel
theorem dX8_lineUp_111 : decode cX8_lineUp 111 = .ok (.iload_n 1, 1) := by decide +kernel
theorem dX8_lineUp_112 : decode cX8_lineUp 112 = .ok (.iaload, 1) := by decide +kernel
theorem dX8_lineUp_113 : decode cX8_lineUp 113 = .ok (.if_icmp .ne 5, 3) := by decide +kernel
theorem dX8_lineUp_116 : decode cX8_lineUp 116 = .ok (.iconst 0, 1) := by decide +kernel
theorem dX8_lineUp_117 : decode cX8_lineUp 117 = .ok (.ireturn, 1) := by decide +kernel
theorem dX8_lineUp_118 : decode cX8_lineUp 118 = .ok (.iconst 0, 1) := by decide +kernel
theorem dX8_lineUp_119 : decode cX8_lineUp 119 = .ok (.istore 9, 2) := by decide +kernel
theorem dX8_lineUp_121 : decode cX8_lineUp 121 = .ok (.iload 9, 2) := by decide +kernel
theorem dX8_lineUp_123 : decode cX8_lineUp 123 = .ok (.iload 8, 2) := by decide +kernel
theorem dX8_lineUp_125 : decode cX8_lineUp 125 = .ok (.if_icmp .ge 28, 3) := by decide +kernel
theorem dX8_lineUp_128 : decode cX8_lineUp 128 = .ok (.aload_n 0, 1) := by decide +kernel
theorem dX8_lineUp_129 : decode cX8_lineUp 129 = .ok (.getfield 42, 3) := by decide +kernel
theorem dX8_lineUp_132 : decode cX8_lineUp 132 = .ok (.iload 9, 2) := by decide +kernel
theorem dX8_lineUp_134 : decode cX8_lineUp 134 = .ok (.iaload, 1) := by decide +kernel
theorem dX8_lineUp_135 : decode cX8_lineUp 135 = .ok (.aload_n 0, 1) := by decide +kernel
theorem dX8_lineUp_136 : decode cX8_lineUp 136 = .ok (.getfield 42, 3) := by decide +kernel
theorem dX8_lineUp_139 : decode cX8_lineUp 139 = .ok (.iload 8, 2) := by decide +kernel
theorem dX8_lineUp_141 : decode cX8_lineUp 141 = .ok (.iaload, 1) := by decide +kernel
theorem dX8_lineUp_142 : decode cX8_lineUp 142 = .ok (.if_icmp .ne 5, 3) := by decide +kernel
theorem dX8_lineUp_145 : decode cX8_lineUp 145 = .ok (.iconst 0, 1) := by decide +kernel
theorem dX8_lineUp_146 : decode cX8_lineUp 146 = .ok (.ireturn, 1) := by decide +kernel
theorem dX8_lineUp_147 : decode cX8_lineUp 147 = .ok (.iinc 9 1, 3) := by decide +kernel
theorem dX8_lineUp_150 : decode cX8_lineUp 150 = .ok (.goto (-29), 3) := by decide +kernel
theorem dX8_lineUp_153 : decode cX8_lineUp 153 = .ok (.iinc 8 1, 3) := by decide +kernel
theorem dX8_lineUp_156 : decode cX8_lineUp 156 = .ok (.goto (-76), 3) := by decide +kernel
theorem dX8_lineUp_159 : decode cX8_lineUp 159 = .ok (.iconst 0, 1) := by decide +kernel
theorem dX8_lineUp_160 : decode cX8_lineUp 160 = .ok (.istore 8, 2) := by decide +kernel
theorem dX8_lineUp_162 : decode cX8_lineUp 162 = .ok (.iload 8, 2) := by decide +kernel
theorem dX8_lineUp_164 : decode cX8_lineUp 164 = .ok (.bipush 6, 2) := by decide +kernel
theorem dX8_lineUp_166 : decode cX8_lineUp 166 = .ok (.if_icmp .ge 28, 3) := by decide +kernel
theorem dX8_lineUp_169 : decode cX8_lineUp 169 = .ok (.aload_n 0, 1) := by decide +kernel
theorem dX8_lineUp_170 : decode cX8_lineUp 170 = .ok (.getfield 19, 3) := by decide +kernel
theorem dX8_lineUp_173 : decode cX8_lineUp 173 = .ok (.bipush 6, 2) := by decide +kernel
theorem dX8_lineUp_175 : decode cX8_lineUp 175 = .ok (.iload_n 1, 1) := by decide +kernel
theorem dX8_lineUp_176 : decode cX8_lineUp 176 = .ok (.imul, 1) := by decide +kernel
theorem dX8_lineUp_177 : decode cX8_lineUp 177 = .ok (.iload 8, 2) := by decide +kernel
theorem dX8_lineUp_179 : decode cX8_lineUp 179 = .ok (.iadd, 1) := by decide +kernel
theorem dX8_lineUp_180 : decode cX8_lineUp 180 = .ok (.aload_n 0, 1) := by decide +kernel
theorem dX8_lineUp_181 : decode cX8_lineUp 181 = .ok (.getfield 42, 3) := by decide +kernel
theorem dX8_lineUp_184 : decode cX8_lineUp 184 = .ok (.iload 8, 2) := by decide +kernel
theorem dX8_lineUp_186 : decode cX8_lineUp 186 = .ok (.iaload, 1) := by decide +kernel
theorem dX8_lineUp_187 : decode cX8_lineUp 187 = .ok (.iastore, 1) := by decide +kernel
theorem dX8_lineUp_188 : decode cX8_lineUp 188 = .ok (.iinc 8 1, 3) := by decide +kernel
theorem dX8_lineUp_191 : decode cX8_lineUp 191 = .ok (.goto (-29), 3) := by decide +kernel
theorem dX8_lineUp_194 : decode cX8_lineUp 194 = .ok (.aload_n 0, 1) := by decide +kernel
theorem dX8_lineUp_195 : decode cX8_lineUp 195 = .ok (.getfield 22, 3) := by decide +kernel
theorem dX8_lineUp_198 : decode cX8_lineUp 198 = .ok (.iload_n 1, 1) := by decide +kernel
theorem dX8_lineUp_199 : decode cX8_lineUp 199 = .ok (.iconst 1, 1) := by decide +kernel
theorem dX8_lineUp_200 : decode cX8_lineUp 200 = .ok (.bastore, 1) := by decide +kernel
theorem dX8_lineUp_201 : decode cX8_lineUp 201 = .ok (.iconst 1, 1) := by decide +kernel
theorem dX8_lineUp_202 : decode cX8_lineUp 202 = .ok (.ireturn, 1) := by decide +kernel
theorem dX8_hasFree_0 : decode cX8_hasFree 0 = .ok (.iconst 0, 1) := by decide +kernel
theorem dX8_hasFree_1 : decode cX8_hasFree 1 = .ok (.istore_n 2, 1) := by decide +kernel
theorem dX8_hasFree_2 : decode cX8_hasFree 2 = .ok (.iload_n 2, 1) := by decide +kernel
theorem dX8_hasFree_3 : decode cX8_hasFree 3 = .ok (.bipush 6, 2) := by decide +kernel
theorem dX8_hasFree_5 : decode cX8_hasFree 5 = .ok (.if_icmp .ge 31, 3) := by decide +kernel
theorem dX8_hasFree_8 : decode cX8_hasFree 8 = .ok (.aload_n 0, 1) := by decide +kernel
theorem dX8_hasFree_9 : decode cX8_hasFree 9 = .ok (.getfield 19, 3) := by decide +kernel
theorem dX8_hasFree_12 : decode cX8_hasFree 12 = .ok (.bipush 6, 2) := by decide +kernel
theorem dX8_hasFree_14 : decode cX8_hasFree 14 = .ok (.iload_n 1, 1) := by decide +kernel
theorem dX8_hasFree_15 : decode cX8_hasFree 15 = .ok (.imul, 1) := by decide +kernel
theorem dX8_hasFree_16 : decode cX8_hasFree 16 = .ok (.iload_n 2, 1) := by decide +kernel
theorem dX8_hasFree_17 : decode cX8_hasFree 17 = .ok (.iadd, 1) := by decide +kernel
theorem dX8_hasFree_18 : decode cX8_hasFree 18 = .ok (.iaload, 1) := by decide +kernel
theorem dX8_hasFree_19 : decode cX8_hasFree 19 = .ok (.aload_n 0, 1) := by decide +kernel
theorem dX8_hasFree_20 : decode cX8_hasFree 20 = .ok (.getfield 13, 3) := by decide +kernel
theorem dX8_hasFree_23 : decode cX8_hasFree 23 = .ok (.iload_n 1, 1) := by decide +kernel
theorem dX8_hasFree_24 : decode cX8_hasFree 24 = .ok (.iaload, 1) := by decide +kernel
theorem dX8_hasFree_25 : decode cX8_hasFree 25 = .ok (.if_icmp .ne 5, 3) := by decide +kernel
theorem dX8_hasFree_28 : decode cX8_hasFree 28 = .ok (.iconst 1, 1) := by decide +kernel
theorem dX8_hasFree_29 : decode cX8_hasFree 29 = .ok (.ireturn, 1) := by decide +kernel
theorem dX8_hasFree_30 : decode cX8_hasFree 30 = .ok (.iinc 2 1, 3) := by decide +kernel
theorem dX8_hasFree_33 : decode cX8_hasFree 33 = .ok (.goto (-31), 3) := by decide +kernel
theorem dX8_hasFree_36 : decode cX8_hasFree 36 = .ok (.iconst 0, 1) := by decide +kernel
theorem dX8_hasFree_37 : decode cX8_hasFree 37 = .ok (.ireturn, 1) := by decide +kernel
theorem dX8_begin_0 : decode cX8_begin 0 = .ok (.aload_n 0, 1) := by decide +kernel
theorem dX8_begin_1 : decode cX8_begin 1 = .ok (.iconst 0, 1) := by decide +kernel
theorem dX8_begin_2 : decode cX8_begin 2 = .ok (.putfield 63, 3) := by decide +kernel
theorem dX8_begin_5 : decode cX8_begin 5 = .ok (.iload_n 1, 1) := by decide +kernel
theorem dX8_begin_6 : decode cX8_begin 6 = .ok (.invokestatic 71, 3) := by decide +kernel
theorem dX8_begin_9 : decode cX8_begin 9 = .ok (.ifCond .eq 54, 3) := by decide +kernel
theorem dX8_begin_12 : decode cX8_begin 12 = .ok (.aload_n 0, 1) := by decide +kernel
theorem dX8_begin_13 : decode cX8_begin 13 = .ok (.invokevirtual 82, 3) := by decide +kernel
theorem dX8_begin_16 : decode cX8_begin 16 = .ok (.ifCond .ne 47, 3) := by decide +kernel
theorem dX8_begin_19 : decode cX8_begin 19 = .ok (.aload_n 0, 1) := by decide +kernel
theorem dX8_begin_20 : decode cX8_begin 20 = .ok (.getfield 26, 3) := by decide +kernel
theorem dX8_begin_23 : decode cX8_begin 23 = .ok (.iconst 4, 1) := by decide +kernel
theorem dX8_begin_24 : decode cX8_begin 24 = .ok (.iaload, 1) := by decide +kernel
theorem dX8_begin_25 : decode cX8_begin 25 = .ok (.iconst (-1), 1) := by decide +kernel
theorem dX8_begin_26 : decode cX8_begin 26 = .ok (.if_icmp .ne 37, 3) := by decide +kernel
theorem dX8_begin_29 : decode cX8_begin 29 = .ok (.aload_n 0, 1) := by decide +kernel
theorem dX8_begin_30 : decode cX8_begin 30 = .ok (.getfield 22, 3) := by decide +kernel
theorem dX8_begin_33 : decode cX8_begin 33 = .ok (.iconst 0, 1) := by decide +kernel
theorem dX8_begin_34 : decode cX8_begin 34 = .ok (.baload, 1) := by decide +kernel
theorem dX8_begin_35 : decode cX8_begin 35 = .ok (.ifCond .eq 28, 3) := by decide +kernel
theorem dX8_begin_38 : decode cX8_begin 38 = .ok (.aload_n 0, 1) := by decide +kernel
theorem dX8_begin_39 : decode cX8_begin 39 = .ok (.getfield 22, 3) := by decide +kernel
theorem dX8_begin_42 : decode cX8_begin 42 = .ok (.iconst 1, 1) := by decide +kernel
theorem dX8_begin_43 : decode cX8_begin 43 = .ok (.baload, 1) := by decide +kernel
theorem dX8_begin_44 : decode cX8_begin 44 = .ok (.ifCond .eq 19, 3) := by decide +kernel
theorem dX8_begin_47 : decode cX8_begin 47 = .ok (.aload_n 0, 1) := by decide +kernel
theorem dX8_begin_48 : decode cX8_begin 48 = .ok (.iconst 0, 1) := by decide +kernel
theorem dX8_begin_49 : decode cX8_begin 49 = .ok (.invokevirtual 92, 3) := by decide +kernel
theorem dX8_begin_52 : decode cX8_begin 52 = .ok (.ifCond .ne 11, 3) := by decide +kernel
theorem dX8_begin_55 : decode cX8_begin 55 = .ok (.aload_n 0, 1) := by decide +kernel
theorem dX8_begin_56 : decode cX8_begin 56 = .ok (.iconst 1, 1) := by decide +kernel
theorem dX8_begin_57 : decode cX8_begin 57 = .ok (.invokevirtual 92, 3) := by decide +kernel
theorem dX8_begin_60 : decode cX8_begin 60 = .ok (.ifCond .eq 5, 3) := by decide +kernel
theorem dX8_begin_63 : decode cX8_begin 63 = .ok (.iconst (-1), 1) := by decide +kernel
theorem dX8_begin_64 : decode cX8_begin 64 = .ok (.ireturn, 1) := by decide +kernel
theorem dX8_begin_65 : decode cX8_begin 65 = .ok (.aload_n 0, 1) := by decide +kernel
theorem dX8_begin_66 : decode cX8_begin 66 = .ok (.getfield 26, 3) := by decide +kernel
theorem dX8_begin_69 : decode cX8_begin 69 = .ok (.iconst 0, 1) := by decide +kernel
theorem dX8_begin_70 : decode cX8_begin 70 = .ok (.dup2, 1) := by decide +kernel
theorem dX8_begin_71 : decode cX8_begin 71 = .ok (.iaload, 1) := by decide +kernel
theorem dX8_begin_72 : decode cX8_begin 72 = .ok (.iconst 1, 1) := by decide +kernel
theorem dX8_begin_73 : decode cX8_begin 73 = .ok (.iadd, 1) := by decide +kernel
theorem dX8_begin_74 : decode cX8_begin 74 = .ok (.iastore, 1) := by decide +kernel
theorem dX8_begin_75 : decode cX8_begin 75 = .ok (.aload_n 0, 1) := by decide +kernel
theorem dX8_begin_76 : decode cX8_begin 76 = .ok (.getfield 26, 3) := by decide +kernel
theorem dX8_begin_79 : decode cX8_begin 79 = .ok (.iconst 1, 1) := by decide +kernel
theorem dX8_begin_80 : decode cX8_begin 80 = .ok (.iconst 1, 1) := by decide +kernel
theorem dX8_begin_81 : decode cX8_begin 81 = .ok (.iastore, 1) := by decide +kernel
theorem dX8_begin_82 : decode cX8_begin 82 = .ok (.aload_n 0, 1) := by decide +kernel
theorem dX8_begin_83 : decode cX8_begin 83 = .ok (.getfield 26, 3) := by decide +kernel
theorem dX8_begin_86 : decode cX8_begin 86 = .ok (.iconst 2, 1) := by decide +kernel
theorem dX8_begin_87 : decode cX8_begin 87 = .ok (.iload_n 1, 1) := by decide +kernel
theorem dX8_begin_88 : decode cX8_begin 88 = .ok (.iastore, 1) := by decide +kernel
theorem dX8_begin_89 : decode cX8_begin 89 = .ok (.aload_n 0, 1) := by decide +kernel
theorem dX8_begin_90 : decode cX8_begin 90 = .ok (.getfield 26, 3) := by decide +kernel
theorem dX8_begin_93 : decode cX8_begin 93 = .ok (.iconst 3, 1) := by decide +kernel
theorem dX8_begin_94 : decode cX8_begin 94 = .ok (.iconst 0, 1) := by decide +kernel
theorem dX8_begin_95 : decode cX8_begin 95 = .ok (.iastore, 1) := by decide +kernel
theorem dX8_begin_96 : decode cX8_begin 96 = .ok (.aload_n 0, 1) := by decide +kernel
theorem dX8_begin_97 : decode cX8_begin 97 = .ok (.getfield 26, 3) := by decide +kernel
theorem dX8_begin_100 : decode cX8_begin 100 = .ok (.iconst 5, 1) := by decide +kernel
theorem dX8_begin_101 : decode cX8_begin 101 = .ok (.iconst (-1), 1) := by decide +kernel
theorem dX8_begin_102 : decode cX8_begin 102 = .ok (.iastore, 1) := by decide +kernel
theorem dX8_begin_103 : decode cX8_begin 103 = .ok (.iconst 0, 1) := by decide +kernel
theorem dX8_begin_104 : decode cX8_begin 104 = .ok (.istore_n 2, 1) := by decide +kernel
theorem dX8_begin_105 : decode cX8_begin 105 = .ok (.iload_n 2, 1) := by decide +kernel
theorem dX8_begin_106 : decode cX8_begin 106 = .ok (.iconst 2, 1) := by decide +kernel
theorem dX8_begin_107 : decode cX8_begin 107 = .ok (.if_icmp .ge 158, 3) := by decide +kernel
theorem dX8_begin_110 : decode cX8_begin 110 = .ok (.aload_n 0, 1) := by decide +kernel
theorem dX8_begin_111 : decode cX8_begin 111 = .ok (.iload_n 2, 1) := by decide +kernel
theorem dX8_begin_112 : decode cX8_begin 112 = .ok (.iconst 1, 1) := by decide +kernel
theorem dX8_begin_113 : decode cX8_begin 113 = .ok (.invokevirtual 95, 3) := by decide +kernel
theorem dX8_begin_116 : decode cX8_begin 116 = .ok (.istore_n 3, 1) := by decide +kernel
theorem dX8_begin_117 : decode cX8_begin 117 = .ok (.iconst 0, 1) := by decide +kernel
theorem dX8_begin_118 : decode cX8_begin 118 = .ok (.istore 4, 2) := by decide +kernel
theorem dX8_begin_120 : decode cX8_begin 120 = .ok (.iload 4, 2) := by decide +kernel
theorem dX8_begin_122 : decode cX8_begin 122 = .ok (.bipush 14, 2) := by decide +kernel
theorem dX8_begin_124 : decode cX8_begin 124 = .ok (.if_icmp .ge 17, 3) := by decide +kernel
theorem dX8_begin_127 : decode cX8_begin 127 = .ok (.aload_n 0, 1) := by decide +kernel
theorem dX8_begin_128 : decode cX8_begin 128 = .ok (.iload_n 2, 1) := by decide +kernel
theorem dX8_begin_129 : decode cX8_begin 129 = .ok (.iload 4, 2) := by decide +kernel
theorem dX8_begin_131 : decode cX8_begin 131 = .ok (.iconst 0, 1) := by decide +kernel
theorem dX8_begin_132 : decode cX8_begin 132 = .ok (.invokevirtual 56, 3) := by decide +kernel
theorem dX8_begin_135 : decode cX8_begin 135 = .ok (.iinc 4 1, 3) := by decide +kernel
theorem dX8_begin_138 : decode cX8_begin 138 = .ok (.goto (-18), 3) := by decide +kernel
theorem dX8_begin_141 : decode cX8_begin 141 = .ok (.aload_n 0, 1) := by decide +kernel
theorem dX8_begin_142 : decode cX8_begin 142 = .ok (.iload_n 2, 1) := by decide +kernel
theorem dX8_begin_143 : decode cX8_begin 143 = .ok (.iconst 1, 1) := by decide +kernel
theorem dX8_begin_144 : decode cX8_begin 144 = .ok (.iload_n 3, 1) := by decide +kernel
theorem dX8_begin_145 : decode cX8_begin 145 = .ok (.invokevirtual 56, 3) := by decide +kernel
theorem dX8_begin_148 : decode cX8_begin 148 = .ok (.aload_n 0, 1) := by decide +kernel
theorem dX8_begin_149 : decode cX8_begin 149 = .ok (.iload_n 2, 1) := by decide +kernel
theorem dX8_begin_150 : decode cX8_begin 150 = .ok (.iconst 4, 1) := by decide +kernel
theorem dX8_begin_151 : decode cX8_begin 151 = .ok (.iconst (-1), 1) := by decide +kernel
theorem dX8_begin_152 : decode cX8_begin 152 = .ok (.invokevirtual 56, 3) := by decide +kernel
theorem dX8_begin_155 : decode cX8_begin 155 = .ok (.iconst 0, 1) := by decide +kernel
theorem dX8_begin_156 : decode cX8_begin 156 = .ok (.istore 4, 2) := by decide +kernel
theorem dX8_begin_158 : decode cX8_begin 158 = .ok (.iload 4, 2) := by decide +kernel
theorem dX8_begin_160 : decode cX8_begin 160 = .ok (.bipush 12, 2) := by decide +kernel
theorem dX8_begin_162 : decode cX8_begin 162 = .ok (.if_icmp .ge 31, 3) := by decide +kernel
theorem dX8_begin_165 : decode cX8_begin 165 = .ok (.aload_n 0, 1) := by decide +kernel
theorem dX8_begin_166 : decode cX8_begin 166 = .ok (.iload_n 2, 1) := by decide +kernel
theorem dX8_begin_167 : decode cX8_begin 167 = .ok (.bipush 14, 2) := by decide +kernel
theorem dX8_begin_169 : decode cX8_begin 169 = .ok (.iload 4, 2) := by decide +kernel
theorem dX8_begin_171 : decode cX8_begin 171 = .ok (.iadd, 1) := by decide +kernel
theorem dX8_begin_172 : decode cX8_begin 172 = .ok (.iconst 0, 1) := by decide +kernel
theorem dX8_begin_173 : decode cX8_begin 173 = .ok (.invokevirtual 56, 3) := by decide +kernel
theorem dX8_begin_176 : decode cX8_begin 176 = .ok (.aload_n 0, 1) := by decide +kernel
theorem dX8_begin_177 : decode cX8_begin 177 = .ok (.iload_n 2, 1) := by decide +kernel
theorem dX8_begin_178 : decode cX8_begin 178 = .ok (.bipush 26, 2) := by decide +kernel
theorem dX8_begin_180 : decode cX8_begin 180 = .ok (.iload 4, 2) := by decide +kernel
theorem dX8_begin_182 : decode cX8_begin 182 = .ok (.iadd, 1) := by decide +kernel
theorem dX8_begin_183 : decode cX8_begin 183 = .ok (.iconst (-1), 1) := by decide +kernel
theorem dX8_begin_184 : decode cX8_begin 184 = .ok (.invokevirtual 56, 3) := by decide +kernel
theorem dX8_begin_187 : decode cX8_begin 187 = .ok (.iinc 4 1, 3) := by decide +kernel
theorem dX8_begin_190 : decode cX8_begin 190 = .ok (.goto (-32), 3) := by decide +kernel
theorem dX8_begin_193 : decode cX8_begin 193 = .ok (.iconst 0, 1) := by decide +kernel
theorem dX8_begin_194 : decode cX8_begin 194 = .ok (.istore 4, 2) := by decide +kernel
theorem dX8_begin_196 : decode cX8_begin 196 = .ok (.iload 4, 2) := by decide +kernel
theorem dX8_begin_198 : decode cX8_begin 198 = .ok (.bipush 6, 2) := by decide +kernel
theorem dX8_begin_200 : decode cX8_begin 200 = .ok (.if_icmp .ge 52, 3) := by decide +kernel
theorem dX8_begin_203 : decode cX8_begin 203 = .ok (.aload_n 0, 1) := by decide +kernel
theorem dX8_begin_204 : decode cX8_begin 204 = .ok (.iload_n 2, 1) := by decide +kernel
theorem dX8_begin_205 : decode cX8_begin 205 = .ok (.bipush 8, 2) := by decide +kernel
theorem dX8_begin_207 : decode cX8_begin 207 = .ok (.iload 4, 2) := by decide +kernel
theorem dX8_begin_209 : decode cX8_begin 209 = .ok (.iadd, 1) := by decide +kernel
theorem dX8_begin_210 : decode cX8_begin 210 = .ok (.aload_n 0, 1) := by decide +kernel
theorem dX8_begin_211 : decode cX8_begin 211 = .ok (.getfield 19, 3) := by decide +kernel
theorem dX8_begin_214 : decode cX8_begin 214 = .ok (.bipush 6, 2) := by decide +kernel
theorem dX8_begin_216 : decode cX8_begin 216 = .ok (.iload_n 2, 1) := by decide +kernel
theorem dX8_begin_217 : decode cX8_begin 217 = .ok (.imul, 1) := by decide +kernel
theorem dX8_begin_218 : decode cX8_begin 218 = .ok (.iload 4, 2) := by decide +kernel
theorem dX8_begin_220 : decode cX8_begin 220 = .ok (.iadd, 1) := by decide +kernel
theorem dX8_begin_221 : decode cX8_begin 221 = .ok (.iaload, 1) := by decide +kernel
theorem dX8_begin_222 : decode cX8_begin 222 = .ok (.invokevirtual 56, 3) := by decide +kernel
theorem dX8_begin_225 : decode cX8_begin 225 = .ok (.aload_n 0, 1) := by decide +kernel
theorem dX8_begin_226 : decode cX8_begin 226 = .ok (.iload_n 2, 1) := by decide +kernel
theorem dX8_begin_227 : decode cX8_begin 227 = .ok (.bipush 14, 2) := by decide +kernel
theorem dX8_begin_229 : decode cX8_begin 229 = .ok (.aload_n 0, 1) := by decide +kernel
theorem dX8_begin_230 : decode cX8_begin 230 = .ok (.getfield 19, 3) := by decide +kernel
theorem dX8_begin_233 : decode cX8_begin 233 = .ok (.bipush 6, 2) := by decide +kernel
theorem dX8_begin_235 : decode cX8_begin 235 = .ok (.iload_n 2, 1) := by decide +kernel
theorem dX8_begin_236 : decode cX8_begin 236 = .ok (.imul, 1) := by decide +kernel
theorem dX8_begin_237 : decode cX8_begin 237 = .ok (.iload 4, 2) := by decide +kernel
theorem dX8_begin_239 : decode cX8_begin 239 = .ok (.iadd, 1) := by decide +kernel
theorem dX8_begin_240 : decode cX8_begin 240 = .ok (.iaload, 1) := by decide +kernel
theorem dX8_begin_241 : decode cX8_begin 241 = .ok (.iadd, 1) := by decide +kernel
theorem dX8_begin_242 : decode cX8_begin 242 = .ok (.iconst 1, 1) := by decide +kernel
theorem dX8_begin_243 : decode cX8_begin 243 = .ok (.invokevirtual 56, 3) := by decide +kernel
theorem dX8_begin_246 : decode cX8_begin 246 = .ok (.iinc 4 1, 3) := by decide +kernel
theorem dX8_begin_249 : decode cX8_begin 249 = .ok (.goto (-53), 3) := by decide +kernel
theorem dX8_begin_252 : decode cX8_begin 252 = .ok (.aload_n 0, 1) := by decide +kernel
theorem dX8_begin_253 : decode cX8_begin 253 = .ok (.getfield 22, 3) := by decide +kernel
theorem dX8_begin_256 : decode cX8_begin 256 = .ok (.iload_n 2, 1) := by decide +kernel
theorem dX8_begin_257 : decode cX8_begin 257 = .ok (.iconst 0, 1) := by decide +kernel
theorem dX8_begin_258 : decode cX8_begin 258 = .ok (.bastore, 1) := by decide +kernel
theorem dX8_begin_259 : decode cX8_begin 259 = .ok (.iinc 2 1, 3) := by decide +kernel
theorem dX8_begin_262 : decode cX8_begin 262 = .ok (.goto (-157), 3) := by decide +kernel
theorem dX8_begin_265 : decode cX8_begin 265 = .ok (.aload_n 0, 1) := by decide +kernel
theorem dX8_begin_266 : decode cX8_begin 266 = .ok (.invokevirtual 60, 3) := by decide +kernel
theorem dX8_begin_269 : decode cX8_begin 269 = .ok (.aload_n 0, 1) := by decide +kernel
theorem dX8_begin_270 : decode cX8_begin 270 = .ok (.getfield 26, 3) := by decide +kernel
theorem dX8_begin_273 : decode cX8_begin 273 = .ok (.iconst 0, 1) := by decide +kernel
theorem dX8_begin_274 : decode cX8_begin 274 = .ok (.iaload, 1) := by decide +kernel
theorem dX8_begin_275 : decode cX8_begin 275 = .ok (.ireturn, 1) := by decide +kernel
theorem dX8_turn_0 : decode cX8_turn 0 = .ok (.aload_n 0, 1) := by decide +kernel
theorem dX8_turn_1 : decode cX8_turn 1 = .ok (.iload_n 1, 1) := by decide +kernel
theorem dX8_turn_2 : decode cX8_turn 2 = .ok (.bipush 8, 2) := by decide +kernel
theorem dX8_turn_4 : decode cX8_turn 4 = .ok (.invokevirtual 95, 3) := by decide +kernel
theorem dX8_turn_7 : decode cX8_turn 7 = .ok (.istore_n 2, 1) := by decide +kernel
theorem dX8_turn_8 : decode cX8_turn 8 = .ok (.iconst 0, 1) := by decide +kernel
theorem dX8_turn_9 : decode cX8_turn 9 = .ok (.istore_n 3, 1) := by decide +kernel
theorem dX8_turn_10 : decode cX8_turn 10 = .ok (.iload_n 3, 1) := by decide +kernel
theorem dX8_turn_11 : decode cX8_turn 11 = .ok (.iconst 5, 1) := by decide +kernel
theorem dX8_turn_12 : decode cX8_turn 12 = .ok (.if_icmp .ge 29, 3) := by decide +kernel
theorem dX8_turn_15 : decode cX8_turn 15 = .ok (.aload_n 0, 1) := by decide +kernel
theorem dX8_turn_16 : decode cX8_turn 16 = .ok (.iload_n 1, 1) := by decide +kernel
theorem dX8_turn_17 : decode cX8_turn 17 = .ok (.bipush 8, 2) := by decide +kernel
theorem dX8_turn_19 : decode cX8_turn 19 = .ok (.iload_n 3, 1) := by decide +kernel
theorem dX8_turn_20 : decode cX8_turn 20 = .ok (.iadd, 1) := by decide +kernel
theorem dX8_turn_21 : decode cX8_turn 21 = .ok (.aload_n 0, 1) := by decide +kernel
theorem dX8_turn_22 : decode cX8_turn 22 = .ok (.iload_n 1, 1) := by decide +kernel
theorem dX8_turn_23 : decode cX8_turn 23 = .ok (.bipush 8, 2) := by decide +kernel
theorem dX8_turn_25 : decode cX8_turn 25 = .ok (.iload_n 3, 1) := by decide +kernel
theorem dX8_turn_26 : decode cX8_turn 26 = .ok (.iadd, 1) := by decide +kernel
theorem dX8_turn_27 : decode cX8_turn 27 = .ok (.iconst 1, 1) := by decide +kernel
theorem dX8_turn_28 : decode cX8_turn 28 = .ok (.iadd, 1) := by decide +kernel
theorem dX8_turn_29 : decode cX8_turn 29 = .ok (.invokevirtual 95, 3) := by decide +kernel
theorem dX8_turn_32 : decode cX8_turn 32 = .ok (.invokevirtual 56, 3) := by decide +kernel
theorem dX8_turn_35 : decode cX8_turn 35 = .ok (.iinc 3 1, 3) := by decide +kernel
theorem dX8_turn_38 : decode cX8_turn 38 = .ok (.goto (-28), 3) := by decide +kernel
theorem dX8_turn_41 : decode cX8_turn 41 = .ok (.aload_n 0, 1) := by decide +kernel
theorem dX8_turn_42 : decode cX8_turn 42 = .ok (.iload_n 1, 1) := by decide +kernel
theorem dX8_turn_43 : decode cX8_turn 43 = .ok (.bipush 13, 2) := by decide +kernel
theorem dX8_turn_45 : decode cX8_turn 45 = .ok (.iload_n 2, 1) := by decide +kernel
theorem dX8_turn_46 : decode cX8_turn 46 = .ok (.invokevirtual 56, 3) := by decide +kernel
theorem dX8_turn_49 : decode cX8_turn 49 = .ok (.aload_n 0, 1) := by decide +kernel
theorem dX8_turn_50 : decode cX8_turn 50 = .ok (.iload_n 1, 1) := by decide +kernel
theorem dX8_turn_51 : decode cX8_turn 51 = .ok (.bipush 6, 2) := by decide +kernel
theorem dX8_turn_53 : decode cX8_turn 53 = .ok (.aload_n 0, 1) := by decide +kernel
theorem dX8_turn_54 : decode cX8_turn 54 = .ok (.iload_n 1, 1) := by decide +kernel
theorem dX8_turn_55 : decode cX8_turn 55 = .ok (.bipush 6, 2) := by decide +kernel
theorem dX8_turn_57 : decode cX8_turn 57 = .ok (.invokevirtual 95, 3) := by decide +kernel
theorem dX8_turn_60 : decode cX8_turn 60 = .ok (.iconst 1, 1) := by decide +kernel
theorem dX8_turn_61 : decode cX8_turn 61 = .ok (.iadd, 1) := by decide +kernel
theorem dX8_turn_62 : decode cX8_turn 62 = .ok (.invokevirtual 56, 3) := by decide +kernel
theorem dX8_turn_65 : decode cX8_turn 65 = .ok (.aload_n 0, 1) := by decide +kernel
theorem dX8_turn_66 : decode cX8_turn 66 = .ok (.iload_n 1, 1) := by decide +kernel
theorem dX8_turn_67 : decode cX8_turn 67 = .ok (.iconst 4, 1) := by decide +kernel
theorem dX8_turn_68 : decode cX8_turn 68 = .ok (.invokevirtual 95, 3) := by decide +kernel
theorem dX8_turn_71 : decode cX8_turn 71 = .ok (.iconst (-1), 1) := by decide +kernel
theorem dX8_turn_72 : decode cX8_turn 72 = .ok (.if_icmp .eq 19, 3) := by decide +kernel
theorem dX8_turn_75 : decode cX8_turn 75 = .ok (.aload_n 0, 1) := by decide +kernel
theorem dX8_turn_76 : decode cX8_turn 76 = .ok (.iload_n 1, 1) := by decide +kernel
theorem dX8_turn_77 : decode cX8_turn 77 = .ok (.bipush 11, 2) := by decide +kernel
theorem dX8_turn_79 : decode cX8_turn 79 = .ok (.invokevirtual 95, 3) := by decide +kernel
theorem dX8_turn_82 : decode cX8_turn 82 = .ok (.aload_n 0, 1) := by decide +kernel
theorem dX8_turn_83 : decode cX8_turn 83 = .ok (.getfield 13, 3) := by decide +kernel
theorem dX8_turn_86 : decode cX8_turn 86 = .ok (.iload_n 1, 1) := by decide +kernel
theorem dX8_turn_87 : decode cX8_turn 87 = .ok (.iaload, 1) := by decide +kernel
theorem dX8_turn_88 : decode cX8_turn 88 = .ok (.if_icmp .eq 4, 3) := by decide +kernel
theorem dX8_turn_91 : decode cX8_turn 91 = .ok (.return_, 1) := by decide +kernel
theorem dX8_turn_92 : decode cX8_turn 92 = .ok (.aload_n 0, 1) := by decide +kernel
theorem dX8_turn_93 : decode cX8_turn 93 = .ok (.iload_n 1, 1) := by decide +kernel
theorem dX8_turn_94 : decode cX8_turn 94 = .ok (.bipush 11, 2) := by decide +kernel
theorem dX8_turn_96 : decode cX8_turn 96 = .ok (.aload_n 0, 1) := by decide +kernel
theorem dX8_turn_97 : decode cX8_turn 97 = .ok (.iload_n 1, 1) := by decide +kernel
theorem dX8_turn_98 : decode cX8_turn 98 = .ok (.iconst 4, 1) := by decide +kernel
theorem dX8_turn_99 : decode cX8_turn 99 = .ok (.invokevirtual 95, 3) := by decide +kernel
theorem dX8_turn_102 : decode cX8_turn 102 = .ok (.invokevirtual 56, 3) := by decide +kernel
theorem dX8_turn_105 : decode cX8_turn 105 = .ok (.aload_n 0, 1) := by decide +kernel
theorem dX8_turn_106 : decode cX8_turn 106 = .ok (.iload_n 1, 1) := by decide +kernel
theorem dX8_turn_107 : decode cX8_turn 107 = .ok (.iconst 4, 1) := by decide +kernel
theorem dX8_turn_108 : decode cX8_turn 108 = .ok (.iconst (-1), 1) := by decide +kernel
theorem dX8_turn_109 : decode cX8_turn 109 = .ok (.invokevirtual 56, 3) := by decide +kernel
theorem dX8_turn_112 : decode cX8_turn 112 = .ok (.return_, 1) := by decide +kernel
theorem dX8_isLastSet_0 : decode cX8_isLastSet 0 = .ok (.aload_n 0, 1) := by decide +kernel
theorem dX8_isLastSet_1 : decode cX8_isLastSet 1 = .ok (.getfield 16, 3) := by decide +kernel
theorem dX8_isLastSet_4 : decode cX8_isLastSet 4 = .ok (.iconst 3, 1) := by decide +kernel
theorem dX8_isLastSet_5 : decode cX8_isLastSet 5 = .ok (.iaload, 1) := by decide +kernel
theorem dX8_isLastSet_6 : decode cX8_isLastSet 6 = .ok (.iconst 1, 1) := by decide +kernel
theorem dX8_isLastSet_7 : decode cX8_isLastSet 7 = .ok (.if_icmp .le 41, 3) := by decide +kernel
theorem dX8_isLastSet_10 : decode cX8_isLastSet 10 = .ok (.aload_n 0, 1) := by decide +kernel
theorem dX8_isLastSet_11 : decode cX8_isLastSet 11 = .ok (.iconst 0, 1) := by decide +kernel
theorem dX8_isLastSet_12 : decode cX8_isLastSet 12 = .ok (.iconst 1, 1) := by decide +kernel
theorem dX8_isLastSet_13 : decode cX8_isLastSet 13 = .ok (.invokevirtual 95, 3) := by decide +kernel
theorem dX8_isLastSet_16 : decode cX8_isLastSet 16 = .ok (.aload_n 0, 1) := by decide +kernel
theorem dX8_isLastSet_17 : decode cX8_isLastSet 17 = .ok (.getfield 16, 3) := by decide +kernel
theorem dX8_isLastSet_20 : decode cX8_isLastSet 20 = .ok (.iconst 3, 1) := by decide +kernel
theorem dX8_isLastSet_21 : decode cX8_isLastSet 21 = .ok (.iaload, 1) := by decide +kernel
theorem dX8_isLastSet_22 : decode cX8_isLastSet 22 = .ok (.iconst 1, 1) := by decide +kernel
theorem dX8_isLastSet_23 : decode cX8_isLastSet 23 = .ok (.isub, 1) := by decide +kernel
theorem dX8_isLastSet_24 : decode cX8_isLastSet 24 = .ok (.if_icmp .ne 24, 3) := by decide +kernel
theorem dX8_isLastSet_27 : decode cX8_isLastSet 27 = .ok (.aload_n 0, 1) := by decide +kernel
theorem dX8_isLastSet_28 : decode cX8_isLastSet 28 = .ok (.iconst 1, 1) := by decide +kernel
theorem dX8_isLastSet_29 : decode cX8_isLastSet 29 = .ok (.iconst 1, 1) := by decide +kernel
theorem dX8_isLastSet_30 : decode cX8_isLastSet 30 = .ok (.invokevirtual 95, 3) := by decide +kernel
theorem dX8_isLastSet_33 : decode cX8_isLastSet 33 = .ok (.aload_n 0, 1) := by decide +kernel
theorem dX8_isLastSet_34 : decode cX8_isLastSet 34 = .ok (.getfield 16, 3) := by decide +kernel
theorem dX8_isLastSet_37 : decode cX8_isLastSet 37 = .ok (.iconst 3, 1) := by decide +kernel
theorem dX8_isLastSet_38 : decode cX8_isLastSet 38 = .ok (.iaload, 1) := by decide +kernel
theorem dX8_isLastSet_39 : decode cX8_isLastSet 39 = .ok (.iconst 1, 1) := by decide +kernel
theorem dX8_isLastSet_40 : decode cX8_isLastSet 40 = .ok (.isub, 1) := by decide +kernel
theorem dX8_isLastSet_41 : decode cX8_isLastSet 41 = .ok (.if_icmp .ne 7, 3) := by decide +kernel
theorem dX8_isLastSet_44 : decode cX8_isLastSet 44 = .ok (.iconst 1, 1) := by decide +kernel
theorem dX8_isLastSet_45 : decode cX8_isLastSet 45 = .ok (.goto 4, 3) := by decide +kernel
theorem dX8_isLastSet_48 : decode cX8_isLastSet 48 = .ok (.iconst 0, 1) := by decide +kernel
theorem dX8_isLastSet_49 : decode cX8_isLastSet 49 = .ok (.ireturn, 1) := by decide +kernel
theorem dX8_goal_0 : decode cX8_goal 0 = .ok (.aload_n 0, 1) := by decide +kernel
theorem dX8_goal_1 : decode cX8_goal 1 = .ok (.invokevirtual 99, 3) := by decide +kernel
theorem dX8_goal_4 : decode cX8_goal 4 = .ok (.ifCond .eq 12, 3) := by decide +kernel
theorem dX8_goal_7 : decode cX8_goal 7 = .ok (.aload_n 0, 1) := by decide +kernel
theorem dX8_goal_8 : decode cX8_goal 8 = .ok (.getfield 16, 3) := by decide +kernel
theorem dX8_goal_11 : decode cX8_goal 11 = .ok (.iconst 2, 1) := by decide +kernel
theorem dX8_goal_12 : decode cX8_goal 12 = .ok (.iaload, 1) := by decide +kernel
theorem dX8_goal_13 : decode cX8_goal 13 = .ok (.goto 9, 3) := by decide +kernel
theorem dX8_goal_16 : decode cX8_goal 16 = .ok (.aload_n 0, 1) := by decide +kernel
theorem dX8_goal_17 : decode cX8_goal 17 = .ok (.getfield 16, 3) := by decide +kernel
theorem dX8_goal_20 : decode cX8_goal 20 = .ok (.iconst 0, 1) := by decide +kernel
theorem dX8_goal_21 : decode cX8_goal 21 = .ok (.iaload, 1) := by decide +kernel
theorem dX8_goal_22 : decode cX8_goal 22 = .ok (.ireturn, 1) := by decide +kernel
theorem dX8_wins_0 : decode cX8_wins 0 = .ok (.iload_n 1, 1) := by decide +kernel
theorem dX8_wins_1 : decode cX8_wins 1 = .ok (.iload_n 3, 1) := by decide +kernel
theorem dX8_wins_2 : decode cX8_wins 2 = .ok (.if_icmp .lt 10, 3) := by decide +kernel
theorem dX8_wins_5 : decode cX8_wins 5 = .ok (.iload_n 1, 1) := by decide +kernel
theorem dX8_wins_6 : decode cX8_wins 6 = .ok (.iload_n 2, 1) := by decide +kernel
theorem dX8_wins_7 : decode cX8_wins 7 = .ok (.isub, 1) := by decide +kernel
theorem dX8_wins_8 : decode cX8_wins 8 = .ok (.iconst 2, 1) := by decide +kernel
theorem dX8_wins_9 : decode cX8_wins 9 = .ok (.if_icmp .ge 13, 3) := by decide +kernel
theorem dX8_wins_12 : decode cX8_wins 12 = .ok (.iload_n 1, 1) := by decide +kernel
theorem dX8_wins_13 : decode cX8_wins 13 = .ok (.aload_n 0, 1) := by decide +kernel
theorem dX8_wins_14 : decode cX8_wins 14 = .ok (.getfield 16, 3) := by decide +kernel
theorem dX8_wins_17 : decode cX8_wins 17 = .ok (.iconst 1, 1) := by decide +kernel
theorem dX8_wins_18 : decode cX8_wins 18 = .ok (.iaload, 1) := by decide +kernel
theorem dX8_wins_19 : decode cX8_wins 19 = .ok (.if_icmp .lt 7, 3) := by decide +kernel
theorem dX8_wins_22 : decode cX8_wins 22 = .ok (.iconst 1, 1) := by decide +kernel
theorem dX8_wins_23 : decode cX8_wins 23 = .ok (.goto 4, 3) := by decide +kernel
theorem dX8_wins_26 : decode cX8_wins 26 = .ok (.iconst 0, 1) := by decide +kernel
theorem dX8_wins_27 : decode cX8_wins 27 = .ok (.ireturn, 1) := by decide +kernel
theorem dX8_point_0 : decode cX8_point 0 = .ok (.aload_n 0, 1) := by decide +kernel
theorem dX8_point_1 : decode cX8_point 1 = .ok (.invokevirtual 102, 3) := by decide +kernel
theorem dX8_point_4 : decode cX8_point 4 = .ok (.istore_n 2, 1) := by decide +kernel
theorem dX8_point_5 : decode cX8_point 5 = .ok (.aload_n 0, 1) := by decide +kernel
theorem dX8_point_6 : decode cX8_point 6 = .ok (.getfield 26, 3) := by decide +kernel
theorem dX8_point_9 : decode cX8_point 9 = .ok (.iconst 3, 1) := by decide +kernel
theorem dX8_point_10 : decode cX8_point 10 = .ok (.dup2, 1) := by decide +kernel
theorem dX8_point_11 : decode cX8_point 11 = .ok (.iaload, 1) := by decide +kernel
theorem dX8_point_12 : decode cX8_point 12 = .ok (.iconst 1, 1) := by decide +kernel
theorem dX8_point_13 : decode cX8_point 13 = .ok (.iadd, 1) := by decide +kernel
theorem dX8_point_14 : decode cX8_point 14 = .ok (.iastore, 1) := by decide +kernel
theorem dX8_point_15 : decode cX8_point 15 = .ok (.aload_n 0, 1) := by decide +kernel
theorem dX8_point_16 : decode cX8_point 16 = .ok (.iconst 0, 1) := by decide +kernel
theorem dX8_point_17 : decode cX8_point 17 = .ok (.bipush 7, 2) := by decide +kernel
theorem dX8_point_19 : decode cX8_point 19 = .ok (.iconst 0, 1) := by decide +kernel
theorem dX8_point_20 : decode cX8_point 20 = .ok (.invokevirtual 56, 3) := by decide +kernel
theorem dX8_point_23 : decode cX8_point 23 = .ok (.aload_n 0, 1) := by decide +kernel
theorem dX8_point_24 : decode cX8_point 24 = .ok (.iconst 1, 1) := by decide +kernel
theorem dX8_point_25 : decode cX8_point 25 = .ok (.bipush 7, 2) := by decide +kernel
theorem dX8_point_27 : decode cX8_point 27 = .ok (.iconst 0, 1) := by decide +kernel
theorem dX8_point_28 : decode cX8_point 28 = .ok (.invokevirtual 56, 3) := by decide +kernel
theorem dX8_point_31 : decode cX8_point 31 = .ok (.aload_n 0, 1) := by decide +kernel
theorem dX8_point_32 : decode cX8_point 32 = .ok (.iload_n 1, 1) := by decide +kernel
theorem dX8_point_33 : decode cX8_point 33 = .ok (.iconst 0, 1) := by decide +kernel
theorem dX8_point_34 : decode cX8_point 34 = .ok (.aload_n 0, 1) := by decide +kernel
theorem dX8_point_35 : decode cX8_point 35 = .ok (.iload_n 1, 1) := by decide +kernel
theorem dX8_point_36 : decode cX8_point 36 = .ok (.iconst 0, 1) := by decide +kernel
theorem dX8_point_37 : decode cX8_point 37 = .ok (.invokevirtual 95, 3) := by decide +kernel
theorem dX8_point_40 : decode cX8_point 40 = .ok (.iconst 1, 1) := by decide +kernel
theorem dX8_point_41 : decode cX8_point 41 = .ok (.iadd, 1) := by decide +kernel
theorem dX8_point_42 : decode cX8_point 42 = .ok (.invokevirtual 56, 3) := by decide +kernel
theorem dX8_point_45 : decode cX8_point 45 = .ok (.aload_n 0, 1) := by decide +kernel
theorem dX8_point_46 : decode cX8_point 46 = .ok (.getfield 26, 3) := by decide +kernel
theorem dX8_point_49 : decode cX8_point 49 = .ok (.iconst 2, 1) := by decide +kernel
theorem dX8_point_50 : decode cX8_point 50 = .ok (.iaload, 1) := by decide +kernel
theorem dX8_point_51 : decode cX8_point 51 = .ok (.iload_n 1, 1) := by decide +kernel
theorem dX8_point_52 : decode cX8_point 52 = .ok (.if_icmp .ne 48, 3) := by decide +kernel
theorem dX8_point_55 : decode cX8_point 55 = .ok (.aload_n 0, 1) := by decide +kernel
theorem dX8_point_56 : decode cX8_point 56 = .ok (.iload_n 1, 1) := by decide +kernel
theorem dX8_point_57 : decode cX8_point 57 = .ok (.iconst 5, 1) := by decide +kernel
theorem dX8_point_58 : decode cX8_point 58 = .ok (.aload_n 0, 1) := by decide +kernel
theorem dX8_point_59 : decode cX8_point 59 = .ok (.iload_n 1, 1) := by decide +kernel
theorem dX8_point_60 : decode cX8_point 60 = .ok (.iconst 5, 1) := by decide +kernel
theorem dX8_point_61 : decode cX8_point 61 = .ok (.invokevirtual 95, 3) := by decide +kernel
theorem dX8_point_64 : decode cX8_point 64 = .ok (.iconst 1, 1) := by decide +kernel
theorem dX8_point_65 : decode cX8_point 65 = .ok (.iadd, 1) := by decide +kernel
theorem dX8_point_66 : decode cX8_point 66 = .ok (.invokevirtual 56, 3) := by decide +kernel
theorem dX8_point_69 : decode cX8_point 69 = .ok (.aload_n 0, 1) := by decide +kernel
theorem dX8_point_70 : decode cX8_point 70 = .ok (.iload_n 1, 1) := by decide +kernel
theorem dX8_point_71 : decode cX8_point 71 = .ok (.bipush 8, 2) := by decide +kernel
theorem dX8_point_73 : decode cX8_point 73 = .ok (.invokevirtual 95, 3) := by decide +kernel
theorem dX8_point_76 : decode cX8_point 76 = .ok (.istore_n 3, 1) := by decide +kernel
theorem dX8_point_77 : decode cX8_point 77 = .ok (.aload_n 0, 1) := by decide +kernel
theorem dX8_point_78 : decode cX8_point 78 = .ok (.iload_n 1, 1) := by decide +kernel
theorem dX8_point_79 : decode cX8_point 79 = .ok (.bipush 38, 2) := by decide +kernel
theorem dX8_point_81 : decode cX8_point 81 = .ok (.iload_n 3, 1) := by decide +kernel
theorem dX8_point_82 : decode cX8_point 82 = .ok (.iadd, 1) := by decide +kernel
theorem dX8_point_83 : decode cX8_point 83 = .ok (.aload_n 0, 1) := by decide +kernel
theorem dX8_point_84 : decode cX8_point 84 = .ok (.iload_n 1, 1) := by decide +kernel
theorem dX8_point_85 : decode cX8_point 85 = .ok (.bipush 38, 2) := by decide +kernel
theorem dX8_point_87 : decode cX8_point 87 = .ok (.iload_n 3, 1) := by decide +kernel
theorem dX8_point_88 : decode cX8_point 88 = .ok (.iadd, 1) := by decide +kernel
theorem dX8_point_89 : decode cX8_point 89 = .ok (.invokevirtual 95, 3) := by decide +kernel
theorem dX8_point_92 : decode cX8_point 92 = .ok (.iconst 1, 1) := by decide +kernel
theorem dX8_point_93 : decode cX8_point 93 = .ok (.iadd, 1) := by decide +kernel
theorem dX8_point_94 : decode cX8_point 94 = .ok (.invokevirtual 56, 3) := by decide +kernel
theorem dX8_point_97 : decode cX8_point 97 = .ok (.goto 31, 3) := by decide +kernel
theorem dX8_point_100 : decode cX8_point 100 = .ok (.aload_n 0, 1) := by decide +kernel
theorem dX8_point_101 : decode cX8_point 101 = .ok (.iconst 1, 1) := by decide +kernel
theorem dX8_point_102 : decode cX8_point 102 = .ok (.iload_n 1, 1) := by decide +kernel
theorem dX8_point_103 : decode cX8_point 103 = .ok (.isub, 1) := by decide +kernel
theorem dX8_point_104 : decode cX8_point 104 = .ok (.iconst 5, 1) := by decide +kernel
theorem dX8_point_105 : decode cX8_point 105 = .ok (.iconst 0, 1) := by decide +kernel
theorem dX8_point_106 : decode cX8_point 106 = .ok (.invokevirtual 56, 3) := by decide +kernel
theorem dX8_point_109 : decode cX8_point 109 = .ok (.aload_n 0, 1) := by decide +kernel
theorem dX8_point_110 : decode cX8_point 110 = .ok (.iload_n 1, 1) := by decide +kernel
theorem dX8_point_111 : decode cX8_point 111 = .ok (.iconst 5, 1) := by decide +kernel
theorem dX8_point_112 : decode cX8_point 112 = .ok (.iconst 0, 1) := by decide +kernel
theorem dX8_point_113 : decode cX8_point 113 = .ok (.invokevirtual 56, 3) := by decide +kernel
theorem dX8_point_116 : decode cX8_point 116 = .ok (.aload_n 0, 1) := by decide +kernel
theorem dX8_point_117 : decode cX8_point 117 = .ok (.getfield 26, 3) := by decide +kernel
theorem dX8_point_120 : decode cX8_point 120 = .ok (.iconst 2, 1) := by decide +kernel
theorem dX8_point_121 : decode cX8_point 121 = .ok (.iload_n 1, 1) := by decide +kernel
theorem dX8_point_122 : decode cX8_point 122 = .ok (.iastore, 1) := by decide +kernel
theorem dX8_point_123 : decode cX8_point 123 = .ok (.aload_n 0, 1) := by decide +kernel
theorem dX8_point_124 : decode cX8_point 124 = .ok (.iload_n 1, 1) := by decide +kernel
theorem dX8_point_125 : decode cX8_point 125 = .ok (.invokevirtual 106, 3) := by decide +kernel
theorem dX8_point_128 : decode cX8_point 128 = .ok (.aload_n 0, 1) := by decide +kernel
theorem dX8_point_129 : decode cX8_point 129 = .ok (.aload_n 0, 1) := by decide +kernel
theorem dX8_point_130 : decode cX8_point 130 = .ok (.iload_n 1, 1) := by decide +kernel
theorem dX8_point_131 : decode cX8_point 131 = .ok (.iconst 0, 1) := by decide +kernel
theorem dX8_point_132 : decode cX8_point 132 = .ok (.invokevirtual 95, 3) := by decide +kernel
theorem dX8_point_135 : decode cX8_point 135 = .ok (.aload_n 0, 1) := by decide +kernel
theorem dX8_point_136 : decode cX8_point 136 = .ok (.iconst 1, 1) := by decide +kernel
theorem dX8_point_137 : decode cX8_point 137 = .ok (.iload_n 1, 1) := by decide +kernel
theorem dX8_point_138 : decode cX8_point 138 = .ok (.isub, 1) := by decide +kernel
theorem dX8_point_139 : decode cX8_point 139 = .ok (.iconst 0, 1) := by decide +kernel
theorem dX8_point_140 : decode cX8_point 140 = .ok (.invokevirtual 95, 3) := by decide +kernel
theorem dX8_point_143 : decode cX8_point 143 = .ok (.iload_n 2, 1) := by decide +kernel
theorem dX8_point_144 : decode cX8_point 144 = .ok (.invokevirtual 110, 3) := by decide +kernel
theorem dX8_point_147 : decode cX8_point 147 = .ok (.ifCond .ne 5, 3) := by decide +kernel
theorem dX8_point_150 : decode cX8_point 150 = .ok (.iconst 0, 1) := by decide +kernel
theorem dX8_point_151 : decode cX8_point 151 = .ok (.ireturn, 1) := by decide +kernel
theorem dX8_point_152 : decode cX8_point 152 = .ok (.aload_n 0, 1) := by decide +kernel
theorem dX8_point_153 : decode cX8_point 153 = .ok (.getfield 26, 3) := by decide +kernel
theorem dX8_point_156 : decode cX8_point 156 = .ok (.iconst 1, 1) := by decide +kernel
theorem dX8_point_157 : decode cX8_point 157 = .ok (.iconst 0, 1) := by decide +kernel
theorem dX8_point_158 : decode cX8_point 158 = .ok (.iastore, 1) := by decide +kernel
theorem dX8_point_159 : decode cX8_point 159 = .ok (.aload_n 0, 1) := by decide +kernel
theorem dX8_point_160 : decode cX8_point 160 = .ok (.getfield 26, 3) := by decide +kernel
theorem dX8_point_163 : decode cX8_point 163 = .ok (.iconst 2, 1) := by decide +kernel
theorem dX8_point_164 : decode cX8_point 164 = .ok (.iconst (-1), 1) := by decide +kernel
theorem dX8_point_165 : decode cX8_point 165 = .ok (.iastore, 1) := by decide +kernel
theorem dX8_point_166 : decode cX8_point 166 = .ok (.aload_n 0, 1) := by decide +kernel
theorem dX8_point_167 : decode cX8_point 167 = .ok (.getfield 26, 3) := by decide +kernel
theorem dX8_point_170 : decode cX8_point 170 = .ok (.iconst 5, 1) := by decide +kernel
theorem dX8_point_171 : decode cX8_point 171 = .ok (.iload_n 1, 1) := by decide +kernel
theorem dX8_point_172 : decode cX8_point 172 = .ok (.iastore, 1) := by decide +kernel
theorem dX8_point_173 : decode cX8_point 173 = .ok (.aload_n 0, 1) := by decide +kernel
theorem dX8_point_174 : decode cX8_point 174 = .ok (.iload_n 1, 1) := by decide +kernel
theorem dX8_point_175 : decode cX8_point 175 = .ok (.iconst 1, 1) := by decide +kernel
theorem dX8_point_176 : decode cX8_point 176 = .ok (.aload_n 0, 1) := by decide +kernel
theorem dX8_point_177 : decode cX8_point 177 = .ok (.iload_n 1, 1) := by decide +kernel
theorem dX8_point_178 : decode cX8_point 178 = .ok (.iconst 1, 1) := by decide +kernel
theorem dX8_point_179 : decode cX8_point 179 = .ok (.invokevirtual 95, 3) := by decide +kernel
theorem dX8_point_182 : decode cX8_point 182 = .ok (.iconst 1, 1) := by decide +kernel
theorem dX8_point_183 : decode cX8_point 183 = .ok (.iadd, 1) := by decide +kernel
theorem dX8_point_184 : decode cX8_point 184 = .ok (.invokevirtual 56, 3) := by decide +kernel
theorem dX8_point_187 : decode cX8_point 187 = .ok (.aload_n 0, 1) := by decide +kernel
theorem dX8_point_188 : decode cX8_point 188 = .ok (.iload_n 1, 1) := by decide +kernel
theorem dX8_point_189 : decode cX8_point 189 = .ok (.iconst 1, 1) := by decide +kernel
theorem dX8_point_190 : decode cX8_point 190 = .ok (.invokevirtual 95, 3) := by decide +kernel
theorem dX8_point_193 : decode cX8_point 193 = .ok (.aload_n 0, 1) := by decide +kernel
theorem dX8_point_194 : decode cX8_point 194 = .ok (.getfield 16, 3) := by decide +kernel
theorem dX8_point_197 : decode cX8_point 197 = .ok (.iconst 3, 1) := by decide +kernel
theorem dX8_point_198 : decode cX8_point 198 = .ok (.iaload, 1) := by decide +kernel
theorem dX8_point_199 : decode cX8_point 199 = .ok (.if_icmp .ge 5, 3) := by decide +kernel
theorem dX8_point_202 : decode cX8_point 202 = .ok (.iconst 1, 1) := by decide +kernel
theorem dX8_point_203 : decode cX8_point 203 = .ok (.ireturn, 1) := by decide +kernel
theorem dX8_point_204 : decode cX8_point 204 = .ok (.aload_n 0, 1) := by decide +kernel
theorem dX8_point_205 : decode cX8_point 205 = .ok (.getfield 26, 3) := by decide +kernel
theorem dX8_point_208 : decode cX8_point 208 = .ok (.iconst 4, 1) := by decide +kernel
theorem dX8_point_209 : decode cX8_point 209 = .ok (.iload_n 1, 1) := by decide +kernel
theorem dX8_point_210 : decode cX8_point 210 = .ok (.iastore, 1) := by decide +kernel
theorem dX8_point_211 : decode cX8_point 211 = .ok (.iconst 2, 1) := by decide +kernel
theorem dX8_point_212 : decode cX8_point 212 = .ok (.ireturn, 1) := by decide +kernel
theorem dX8_rally_0 : decode cX8_rally 0 = .ok (.aload_n 0, 1) := by decide +kernel
theorem dX8_rally_1 : decode cX8_rally 1 = .ok (.iconst 0, 1) := by decide +kernel
theorem dX8_rally_2 : decode cX8_rally 2 = .ok (.putfield 63, 3) := by decide +kernel
theorem dX8_rally_5 : decode cX8_rally 5 = .ok (.iload_n 1, 1) := by decide +kernel
theorem dX8_rally_6 : decode cX8_rally 6 = .ok (.invokestatic 71, 3) := by decide +kernel
theorem dX8_rally_9 : decode cX8_rally 9 = .ok (.ifCond .eq 18, 3) := by decide +kernel
theorem dX8_rally_12 : decode cX8_rally 12 = .ok (.aload_n 0, 1) := by decide +kernel
theorem dX8_rally_13 : decode cX8_rally 13 = .ok (.invokevirtual 82, 3) := by decide +kernel
theorem dX8_rally_16 : decode cX8_rally 16 = .ok (.ifCond .eq 11, 3) := by decide +kernel
theorem dX8_rally_19 : decode cX8_rally 19 = .ok (.aload_n 0, 1) := by decide +kernel
theorem dX8_rally_20 : decode cX8_rally 20 = .ok (.iload_n 1, 1) := by decide +kernel
theorem dX8_rally_21 : decode cX8_rally 21 = .ok (.invokevirtual 113, 3) := by decide +kernel
theorem dX8_rally_24 : decode cX8_rally 24 = .ok (.goto 4, 3) := by decide +kernel
theorem dX8_rally_27 : decode cX8_rally 27 = .ok (.iconst (-1), 1) := by decide +kernel
theorem dX8_rally_28 : decode cX8_rally 28 = .ok (.ireturn, 1) := by decide +kernel
theorem dX8_placeOf_0 : decode cX8_placeOf 0 = .ok (.iconst 0, 1) := by decide +kernel
theorem dX8_placeOf_1 : decode cX8_placeOf 1 = .ok (.istore_n 3, 1) := by decide +kernel
theorem dX8_placeOf_2 : decode cX8_placeOf 2 = .ok (.iload_n 3, 1) := by decide +kernel
theorem dX8_placeOf_3 : decode cX8_placeOf 3 = .ok (.bipush 6, 2) := by decide +kernel
theorem dX8_placeOf_5 : decode cX8_placeOf 5 = .ok (.if_icmp .ge 24, 3) := by decide +kernel
theorem dX8_placeOf_8 : decode cX8_placeOf 8 = .ok (.aload_n 0, 1) := by decide +kernel
theorem dX8_placeOf_9 : decode cX8_placeOf 9 = .ok (.iload_n 1, 1) := by decide +kernel
theorem dX8_placeOf_10 : decode cX8_placeOf 10 = .ok (.bipush 8, 2) := by decide +kernel
theorem dX8_placeOf_12 : decode cX8_placeOf 12 = .ok (.iload_n 3, 1) := by decide +kernel
theorem dX8_placeOf_13 : decode cX8_placeOf 13 = .ok (.iadd, 1) := by decide +kernel
theorem dX8_placeOf_14 : decode cX8_placeOf 14 = .ok (.invokevirtual 95, 3) := by decide +kernel
theorem dX8_placeOf_17 : decode cX8_placeOf 17 = .ok (.iload_n 2, 1) := by decide +kernel
theorem dX8_placeOf_18 : decode cX8_placeOf 18 = .ok (.if_icmp .ne 5, 3) := by decide +kernel
theorem dX8_placeOf_21 : decode cX8_placeOf 21 = .ok (.iload_n 3, 1) := by decide +kernel
theorem dX8_placeOf_22 : decode cX8_placeOf 22 = .ok (.ireturn, 1) := by decide +kernel
theorem dX8_placeOf_23 : decode cX8_placeOf 23 = .ok (.iinc 3 1, 3) := by decide +kernel
theorem dX8_placeOf_26 : decode cX8_placeOf 26 = .ok (.goto (-24), 3) := by decide +kernel
theorem dX8_placeOf_29 : decode cX8_placeOf 29 = .ok (.iconst (-1), 1) := by decide +kernel
theorem dX8_placeOf_30 : decode cX8_placeOf 30 = .ok (.ireturn, 1) := by decide +kernel
theorem dX8_mayNot_0 : decode cX8_mayNot 0 = .ok (.aload_n 0, 1) := by decide +kernel
theorem dX8_mayNot_1 : decode cX8_mayNot 1 = .ok (.invokevirtual 82, 3) := by decide +kernel
theorem dX8_mayNot_4 : decode cX8_mayNot 4 = .ok (.ifCond .ne 5, 3) := by decide +kernel
theorem dX8_mayNot_7 : decode cX8_mayNot 7 = .ok (.iconst 1, 1) := by decide +kernel
theorem dX8_mayNot_8 : decode cX8_mayNot 8 = .ok (.ireturn, 1) := by decide +kernel
theorem dX8_mayNot_9 : decode cX8_mayNot 9 = .ok (.iload_n 2, 1) := by decide +kernel
theorem dX8_mayNot_10 : decode cX8_mayNot 10 = .ok (.invokestatic 75, 3) := by decide +kernel
theorem dX8_mayNot_13 : decode cX8_mayNot 13 = .ok (.ifCond .eq 15, 3) := by decide +kernel
theorem dX8_mayNot_16 : decode cX8_mayNot 16 = .ok (.iload_n 3, 1) := by decide +kernel
theorem dX8_mayNot_17 : decode cX8_mayNot 17 = .ok (.invokestatic 75, 3) := by decide +kernel
theorem dX8_mayNot_20 : decode cX8_mayNot 20 = .ok (.ifCond .eq 8, 3) := by decide +kernel
theorem dX8_mayNot_23 : decode cX8_mayNot 23 = .ok (.iload_n 2, 1) := by decide +kernel
theorem dX8_mayNot_24 : decode cX8_mayNot 24 = .ok (.iload_n 3, 1) := by decide +kernel
theorem dX8_mayNot_25 : decode cX8_mayNot 25 = .ok (.if_icmp .ne 5, 3) := by decide +kernel
theorem dX8_mayNot_28 : decode cX8_mayNot 28 = .ok (.iconst 2, 1) := by decide +kernel
theorem dX8_mayNot_29 : decode cX8_mayNot 29 = .ok (.ireturn, 1) := by decide +kernel
theorem dX8_mayNot_30 : decode cX8_mayNot 30 = .ok (.aload_n 0, 1) := by decide +kernel
theorem dX8_mayNot_31 : decode cX8_mayNot 31 = .ok (.iload_n 1, 1) := by decide +kernel
theorem dX8_mayNot_32 : decode cX8_mayNot 32 = .ok (.iload_n 2, 1) := by decide +kernel
theorem dX8_mayNot_33 : decode cX8_mayNot 33 = .ok (.invokevirtual 117, 3) := by decide +kernel
theorem dX8_mayNot_36 : decode cX8_mayNot 36 = .ok (.iconst (-1), 1) := by decide +kernel
theorem dX8_mayNot_37 : decode cX8_mayNot 37 = .ok (.if_icmp .eq 13, 3) := by decide +kernel
theorem dX8_mayNot_40 : decode cX8_mayNot 40 = .ok (.iload_n 2, 1) := by decide +kernel
theorem dX8_mayNot_41 : decode cX8_mayNot 41 = .ok (.aload_n 0, 1) := by decide +kernel
theorem dX8_mayNot_42 : decode cX8_mayNot 42 = .ok (.getfield 13, 3) := by decide +kernel
theorem dX8_mayNot_45 : decode cX8_mayNot 45 = .ok (.iload_n 1, 1) := by decide +kernel
theorem dX8_mayNot_46 : decode cX8_mayNot 46 = .ok (.iaload, 1) := by decide +kernel
theorem dX8_mayNot_47 : decode cX8_mayNot 47 = .ok (.if_icmp .ne 5, 3) := by decide +kernel
theorem dX8_mayNot_50 : decode cX8_mayNot 50 = .ok (.iconst 3, 1) := by decide +kernel
theorem dX8_mayNot_51 : decode cX8_mayNot 51 = .ok (.ireturn, 1) := by decide +kernel
theorem dX8_mayNot_52 : decode cX8_mayNot 52 = .ok (.aload_n 0, 1) := by decide +kernel
theorem dX8_mayNot_53 : decode cX8_mayNot 53 = .ok (.iload_n 1, 1) := by decide +kernel
theorem dX8_mayNot_54 : decode cX8_mayNot 54 = .ok (.iload_n 3, 1) := by decide +kernel
theorem dX8_mayNot_55 : decode cX8_mayNot 55 = .ok (.invokevirtual 117, 3) := by decide +kernel
theorem dX8_mayNot_58 : decode cX8_mayNot 58 = .ok (.iconst (-1), 1) := by decide +kernel
theorem dX8_mayNot_59 : decode cX8_mayNot 59 = .ok (.if_icmp .ne 23, 3) := by decide +kernel
theorem dX8_mayNot_62 : decode cX8_mayNot 62 = .ok (.iload_n 3, 1) := by decide +kernel
theorem dX8_mayNot_63 : decode cX8_mayNot 63 = .ok (.aload_n 0, 1) := by decide +kernel
theorem dX8_mayNot_64 : decode cX8_mayNot 64 = .ok (.getfield 13, 3) := by decide +kernel
theorem dX8_mayNot_67 : decode cX8_mayNot 67 = .ok (.iload_n 1, 1) := by decide +kernel
theorem dX8_mayNot_68 : decode cX8_mayNot 68 = .ok (.iaload, 1) := by decide +kernel
theorem dX8_mayNot_69 : decode cX8_mayNot 69 = .ok (.if_icmp .eq 13, 3) := by decide +kernel
theorem dX8_mayNot_72 : decode cX8_mayNot 72 = .ok (.aload_n 0, 1) := by decide +kernel
theorem dX8_mayNot_73 : decode cX8_mayNot 73 = .ok (.iload_n 1, 1) := by decide +kernel
theorem dX8_mayNot_74 : decode cX8_mayNot 74 = .ok (.iconst 4, 1) := by decide +kernel
theorem dX8_mayNot_75 : decode cX8_mayNot 75 = .ok (.invokevirtual 95, 3) := by decide +kernel
theorem dX8_mayNot_78 : decode cX8_mayNot 78 = .ok (.iload_n 3, 1) := by decide +kernel
theorem dX8_mayNot_79 : decode cX8_mayNot 79 = .ok (.if_icmp .ne 5, 3) := by decide +kernel
theorem dX8_mayNot_82 : decode cX8_mayNot 82 = .ok (.iconst 4, 1) := by decide +kernel
theorem dX8_mayNot_83 : decode cX8_mayNot 83 = .ok (.ireturn, 1) := by decide +kernel
theorem dX8_mayNot_84 : decode cX8_mayNot 84 = .ok (.aload_n 0, 1) := by decide +kernel
theorem dX8_mayNot_85 : decode cX8_mayNot 85 = .ok (.iload_n 1, 1) := by decide +kernel
theorem dX8_mayNot_86 : decode cX8_mayNot 86 = .ok (.iconst 2, 1) := by decide +kernel
theorem dX8_mayNot_87 : decode cX8_mayNot 87 = .ok (.invokevirtual 95, 3) := by decide +kernel
theorem dX8_mayNot_90 : decode cX8_mayNot 90 = .ok (.aload_n 0, 1) := by decide +kernel
theorem dX8_mayNot_91 : decode cX8_mayNot 91 = .ok (.getfield 16, 3) := by decide +kernel
theorem dX8_mayNot_94 : decode cX8_mayNot 94 = .ok (.iconst 4, 1) := by decide +kernel
theorem dX8_mayNot_95 : decode cX8_mayNot 95 = .ok (.iaload, 1) := by decide +kernel
theorem dX8_mayNot_96 : decode cX8_mayNot 96 = .ok (.if_icmp .lt 5, 3) := by decide +kernel
theorem dX8_mayNot_99 : decode cX8_mayNot 99 = .ok (.iconst 5, 1) := by decide +kernel
theorem dX8_mayNot_100 : decode cX8_mayNot 100 = .ok (.ireturn, 1) := by decide +kernel
theorem dX8_mayNot_101 : decode cX8_mayNot 101 = .ok (.aload_n 0, 1) := by decide +kernel
theorem dX8_mayNot_102 : decode cX8_mayNot 102 = .ok (.iload_n 1, 1) := by decide +kernel
theorem dX8_mayNot_103 : decode cX8_mayNot 103 = .ok (.bipush 14, 2) := by decide +kernel
theorem dX8_mayNot_105 : decode cX8_mayNot 105 = .ok (.iload_n 2, 1) := by decide +kernel
theorem dX8_mayNot_106 : decode cX8_mayNot 106 = .ok (.iadd, 1) := by decide +kernel
theorem dX8_mayNot_107 : decode cX8_mayNot 107 = .ok (.invokevirtual 95, 3) := by decide +kernel
theorem dX8_mayNot_110 : decode cX8_mayNot 110 = .ok (.istore 4, 2) := by decide +kernel
theorem dX8_mayNot_112 : decode cX8_mayNot 112 = .ok (.aload_n 0, 1) := by decide +kernel
theorem dX8_mayNot_113 : decode cX8_mayNot 113 = .ok (.iload_n 1, 1) := by decide +kernel
theorem dX8_mayNot_114 : decode cX8_mayNot 114 = .ok (.bipush 14, 2) := by decide +kernel
theorem dX8_mayNot_116 : decode cX8_mayNot 116 = .ok (.iload_n 3, 1) := by decide +kernel
theorem dX8_mayNot_117 : decode cX8_mayNot 117 = .ok (.iadd, 1) := by decide +kernel
theorem dX8_mayNot_118 : decode cX8_mayNot 118 = .ok (.invokevirtual 95, 3) := by decide +kernel
theorem dX8_mayNot_121 : decode cX8_mayNot 121 = .ok (.istore 5, 2) := by decide +kernel
theorem dX8_mayNot_123 : decode cX8_mayNot 123 = .ok (.iload 4, 2) := by decide +kernel
theorem dX8_mayNot_125 : decode cX8_mayNot 125 = .ok (.iconst 1, 1) := by decide +kernel
theorem dX8_mayNot_126 : decode cX8_mayNot 126 = .ok (.if_icmp .ne 10, 3) := by decide +kernel
theorem dX8_mayNot_129 : decode cX8_mayNot 129 = .ok (.iload 5, 2) := by decide +kernel
theorem dX8_mayNot_131 : decode cX8_mayNot 131 = .ok (.ifCond .ne 5, 3) := by decide +kernel
theorem dX8_mayNot_134 : decode cX8_mayNot 134 = .ok (.iconst 0, 1) := by decide +kernel
theorem dX8_mayNot_135 : decode cX8_mayNot 135 = .ok (.ireturn, 1) := by decide +kernel
theorem dX8_mayNot_136 : decode cX8_mayNot 136 = .ok (.iload 4, 2) := by decide +kernel
theorem dX8_mayNot_138 : decode cX8_mayNot 138 = .ok (.iconst 3, 1) := by decide +kernel
theorem dX8_mayNot_139 : decode cX8_mayNot 139 = .ok (.if_icmp .ne 26, 3) := by decide +kernel
theorem dX8_mayNot_142 : decode cX8_mayNot 142 = .ok (.iload 5, 2) := by decide +kernel
theorem dX8_mayNot_144 : decode cX8_mayNot 144 = .ok (.iconst 2, 1) := by decide +kernel
theorem dX8_mayNot_145 : decode cX8_mayNot 145 = .ok (.if_icmp .ne 20, 3) := by decide +kernel
theorem dX8_mayNot_148 : decode cX8_mayNot 148 = .ok (.aload_n 0, 1) := by decide +kernel
theorem dX8_mayNot_149 : decode cX8_mayNot 149 = .ok (.iload_n 1, 1) := by decide +kernel
theorem dX8_mayNot_150 : decode cX8_mayNot 150 = .ok (.bipush 26, 2) := by decide +kernel
theorem dX8_mayNot_152 : decode cX8_mayNot 152 = .ok (.iload_n 2, 1) := by decide +kernel
theorem dX8_mayNot_153 : decode cX8_mayNot 153 = .ok (.iadd, 1) := by decide +kernel
theorem dX8_mayNot_154 : decode cX8_mayNot 154 = .ok (.invokevirtual 95, 3) := by decide +kernel
theorem dX8_mayNot_157 : decode cX8_mayNot 157 = .ok (.iload_n 3, 1) := by decide +kernel
theorem dX8_mayNot_158 : decode cX8_mayNot 158 = .ok (.if_icmp .ne 7, 3) := by decide +kernel
theorem dX8_mayNot_161 : decode cX8_mayNot 161 = .ok (.iconst 0, 1) := by decide +kernel
theorem dX8_mayNot_162 : decode cX8_mayNot 162 = .ok (.goto 5, 3) := by decide +kernel
theorem dX8_mayNot_165 : decode cX8_mayNot 165 = .ok (.bipush 6, 2) := by decide +kernel
theorem dX8_mayNot_167 : decode cX8_mayNot 167 = .ok (.ireturn, 1) := by decide +kernel
theorem dX8_may_0 : decode cX8_may 0 = .ok (.aload_n 0, 1) := by decide +kernel
theorem dX8_may_1 : decode cX8_may 1 = .ok (.iconst 0, 1) := by decide +kernel
theorem dX8_may_2 : decode cX8_may 2 = .ok (.putfield 63, 3) := by decide +kernel
theorem dX8_may_5 : decode cX8_may 5 = .ok (.iload_n 1, 1) := by decide +kernel
theorem dX8_may_6 : decode cX8_may 6 = .ok (.invokestatic 71, 3) := by decide +kernel
theorem dX8_may_9 : decode cX8_may 9 = .ok (.ifCond .eq 13, 3) := by decide +kernel
theorem dX8_may_12 : decode cX8_may 12 = .ok (.aload_n 0, 1) := by decide +kernel
theorem dX8_may_13 : decode cX8_may 13 = .ok (.iload_n 1, 1) := by decide +kernel
theorem dX8_may_14 : decode cX8_may 14 = .ok (.iload_n 2, 1) := by decide +kernel
theorem dX8_may_15 : decode cX8_may 15 = .ok (.iload_n 3, 1) := by decide +kernel
theorem dX8_may_16 : decode cX8_may 16 = .ok (.invokevirtual 120, 3) := by decide +kernel
theorem dX8_may_19 : decode cX8_may 19 = .ok (.goto 4, 3) := by decide +kernel
theorem dX8_may_22 : decode cX8_may 22 = .ok (.iconst (-1), 1) := by decide +kernel
theorem dX8_may_23 : decode cX8_may 23 = .ok (.ireturn, 1) := by decide +kernel
theorem dX8_doChange_0 : decode cX8_doChange 0 = .ok (.aload_n 0, 1) := by decide +kernel
theorem dX8_doChange_1 : decode cX8_doChange 1 = .ok (.iload_n 1, 1) := by decide +kernel
theorem dX8_doChange_2 : decode cX8_doChange 2 = .ok (.iload_n 2, 1) := by decide +kernel
theorem dX8_doChange_3 : decode cX8_doChange 3 = .ok (.invokevirtual 117, 3) := by decide +kernel
theorem dX8_doChange_6 : decode cX8_doChange 6 = .ok (.istore 4, 2) := by decide +kernel
theorem dX8_doChange_8 : decode cX8_doChange 8 = .ok (.aload_n 0, 1) := by decide +kernel
theorem dX8_doChange_9 : decode cX8_doChange 9 = .ok (.iload_n 1, 1) := by decide +kernel
theorem dX8_doChange_10 : decode cX8_doChange 10 = .ok (.bipush 14, 2) := by decide +kernel
theorem dX8_doChange_12 : decode cX8_doChange 12 = .ok (.iload_n 2, 1) := by decide +kernel
theorem dX8_doChange_13 : decode cX8_doChange 13 = .ok (.iadd, 1) := by decide +kernel
theorem dX8_doChange_14 : decode cX8_doChange 14 = .ok (.invokevirtual 95, 3) := by decide +kernel
theorem dX8_doChange_17 : decode cX8_doChange 17 = .ok (.iconst 3, 1) := by decide +kernel
theorem dX8_doChange_18 : decode cX8_doChange 18 = .ok (.if_icmp .ne 7, 3) := by decide +kernel
theorem dX8_doChange_21 : decode cX8_doChange 21 = .ok (.iconst 1, 1) := by decide +kernel
theorem dX8_doChange_22 : decode cX8_doChange 22 = .ok (.goto 4, 3) := by decide +kernel
theorem dX8_doChange_25 : decode cX8_doChange 25 = .ok (.iconst 0, 1) := by decide +kernel
theorem dX8_doChange_26 : decode cX8_doChange 26 = .ok (.istore 5, 2) := by decide +kernel
theorem dX8_doChange_28 : decode cX8_doChange 28 = .ok (.aload_n 0, 1) := by decide +kernel
theorem dX8_doChange_29 : decode cX8_doChange 29 = .ok (.iload_n 1, 1) := by decide +kernel
theorem dX8_doChange_30 : decode cX8_doChange 30 = .ok (.bipush 8, 2) := by decide +kernel
theorem dX8_doChange_32 : decode cX8_doChange 32 = .ok (.iload 4, 2) := by decide +kernel
theorem dX8_doChange_34 : decode cX8_doChange 34 = .ok (.iadd, 1) := by decide +kernel
theorem dX8_doChange_35 : decode cX8_doChange 35 = .ok (.iload_n 3, 1) := by decide +kernel
theorem dX8_doChange_36 : decode cX8_doChange 36 = .ok (.invokevirtual 56, 3) := by decide +kernel
theorem dX8_doChange_39 : decode cX8_doChange 39 = .ok (.aload_n 0, 1) := by decide +kernel
theorem dX8_doChange_40 : decode cX8_doChange 40 = .ok (.iload_n 1, 1) := by decide +kernel
theorem dX8_doChange_41 : decode cX8_doChange 41 = .ok (.bipush 14, 2) := by decide +kernel
theorem dX8_doChange_43 : decode cX8_doChange 43 = .ok (.iload_n 2, 1) := by decide +kernel
theorem dX8_doChange_44 : decode cX8_doChange 44 = .ok (.iadd, 1) := by decide +kernel
theorem dX8_doChange_45 : decode cX8_doChange 45 = .ok (.iload 5, 2) := by decide +kernel
theorem dX8_doChange_47 : decode cX8_doChange 47 = .ok (.ifCond .eq 7, 3) := by decide +kernel
theorem dX8_doChange_50 : decode cX8_doChange 50 = .ok (.iconst 4, 1) := by decide +kernel
theorem dX8_doChange_51 : decode cX8_doChange 51 = .ok (.goto 4, 3) := by decide +kernel
theorem dX8_doChange_54 : decode cX8_doChange 54 = .ok (.iconst 2, 1) := by decide +kernel
theorem dX8_doChange_55 : decode cX8_doChange 55 = .ok (.invokevirtual 56, 3) := by decide +kernel
theorem dX8_doChange_58 : decode cX8_doChange 58 = .ok (.aload_n 0, 1) := by decide +kernel
theorem dX8_doChange_59 : decode cX8_doChange 59 = .ok (.iload_n 1, 1) := by decide +kernel
theorem dX8_doChange_60 : decode cX8_doChange 60 = .ok (.bipush 14, 2) := by decide +kernel
theorem dX8_doChange_62 : decode cX8_doChange 62 = .ok (.iload_n 3, 1) := by decide +kernel
theorem dX8_doChange_63 : decode cX8_doChange 63 = .ok (.iadd, 1) := by decide +kernel
theorem dX8_doChange_64 : decode cX8_doChange 64 = .ok (.iload 5, 2) := by decide +kernel
theorem dX8_doChange_66 : decode cX8_doChange 66 = .ok (.ifCond .eq 7, 3) := by decide +kernel
theorem dX8_doChange_69 : decode cX8_doChange 69 = .ok (.iconst 4, 1) := by decide +kernel
theorem dX8_doChange_70 : decode cX8_doChange 70 = .ok (.goto 4, 3) := by decide +kernel
theorem dX8_doChange_73 : decode cX8_doChange 73 = .ok (.iconst 3, 1) := by decide +kernel
theorem dX8_doChange_74 : decode cX8_doChange 74 = .ok (.invokevirtual 56, 3) := by decide +kernel
theorem dX8_doChange_77 : decode cX8_doChange 77 = .ok (.aload_n 0, 1) := by decide +kernel
theorem dX8_doChange_78 : decode cX8_doChange 78 = .ok (.iload_n 1, 1) := by decide +kernel
theorem dX8_doChange_79 : decode cX8_doChange 79 = .ok (.bipush 26, 2) := by decide +kernel
theorem dX8_doChange_81 : decode cX8_doChange 81 = .ok (.iload_n 2, 1) := by decide +kernel
theorem dX8_doChange_82 : decode cX8_doChange 82 = .ok (.iadd, 1) := by decide +kernel
theorem dX8_doChange_83 : decode cX8_doChange 83 = .ok (.iload_n 3, 1) := by decide +kernel
theorem dX8_doChange_84 : decode cX8_doChange 84 = .ok (.invokevirtual 56, 3) := by decide +kernel
theorem dX8_doChange_87 : decode cX8_doChange 87 = .ok (.aload_n 0, 1) := by decide +kernel
theorem dX8_doChange_88 : decode cX8_doChange 88 = .ok (.iload_n 1, 1) := by decide +kernel
theorem dX8_doChange_89 : decode cX8_doChange 89 = .ok (.bipush 26, 2) := by decide +kernel
theorem dX8_doChange_91 : decode cX8_doChange 91 = .ok (.iload_n 3, 1) := by decide +kernel
theorem dX8_doChange_92 : decode cX8_doChange 92 = .ok (.iadd, 1) := by decide +kernel
theorem dX8_doChange_93 : decode cX8_doChange 93 = .ok (.iload_n 2, 1) := by decide +kernel
theorem dX8_doChange_94 : decode cX8_doChange 94 = .ok (.invokevirtual 56, 3) := by decide +kernel
theorem dX8_doChange_97 : decode cX8_doChange 97 = .ok (.aload_n 0, 1) := by decide +kernel
theorem dX8_doChange_98 : decode cX8_doChange 98 = .ok (.iload_n 1, 1) := by decide +kernel
theorem dX8_doChange_99 : decode cX8_doChange 99 = .ok (.iconst 2, 1) := by decide +kernel
theorem dX8_doChange_100 : decode cX8_doChange 100 = .ok (.aload_n 0, 1) := by decide +kernel
theorem dX8_doChange_101 : decode cX8_doChange 101 = .ok (.iload_n 1, 1) := by decide +kernel
theorem dX8_doChange_102 : decode cX8_doChange 102 = .ok (.iconst 2, 1) := by decide +kernel
theorem dX8_doChange_103 : decode cX8_doChange 103 = .ok (.invokevirtual 95, 3) := by decide +kernel
theorem dX8_doChange_106 : decode cX8_doChange 106 = .ok (.iconst 1, 1) := by decide +kernel
theorem dX8_doChange_107 : decode cX8_doChange 107 = .ok (.iadd, 1) := by decide +kernel
theorem dX8_doChange_108 : decode cX8_doChange 108 = .ok (.invokevirtual 56, 3) := by decide +kernel
theorem dX8_doChange_111 : decode cX8_doChange 111 = .ok (.iload 4, 2) := by decide +kernel
theorem dX8_doChange_113 : decode cX8_doChange 113 = .ok (.ireturn, 1) := by decide +kernel
theorem dX8_change_0 : decode cX8_change 0 = .ok (.aload_n 0, 1) := by decide +kernel
theorem dX8_change_1 : decode cX8_change 1 = .ok (.iconst 0, 1) := by decide +kernel
theorem dX8_change_2 : decode cX8_change 2 = .ok (.putfield 63, 3) := by decide +kernel
theorem dX8_change_5 : decode cX8_change 5 = .ok (.iload_n 1, 1) := by decide +kernel
theorem dX8_change_6 : decode cX8_change 6 = .ok (.invokestatic 71, 3) := by decide +kernel
theorem dX8_change_9 : decode cX8_change 9 = .ok (.ifCond .eq 23, 3) := by decide +kernel
theorem dX8_change_12 : decode cX8_change 12 = .ok (.aload_n 0, 1) := by decide +kernel
theorem dX8_change_13 : decode cX8_change 13 = .ok (.iload_n 1, 1) := by decide +kernel
theorem dX8_change_14 : decode cX8_change 14 = .ok (.iload_n 2, 1) := by decide +kernel
theorem dX8_change_15 : decode cX8_change 15 = .ok (.iload_n 3, 1) := by decide +kernel
theorem dX8_change_16 : decode cX8_change 16 = .ok (.invokevirtual 120, 3) := by decide +kernel
theorem dX8_change_19 : decode cX8_change 19 = .ok (.ifCond .ne 13, 3) := by decide +kernel
theorem dX8_change_22 : decode cX8_change 22 = .ok (.aload_n 0, 1) := by decide +kernel
theorem dX8_change_23 : decode cX8_change 23 = .ok (.iload_n 1, 1) := by decide +kernel
theorem dX8_change_24 : decode cX8_change 24 = .ok (.iload_n 2, 1) := by decide +kernel
theorem dX8_change_25 : decode cX8_change 25 = .ok (.iload_n 3, 1) := by decide +kernel
theorem dX8_change_26 : decode cX8_change 26 = .ok (.invokevirtual 123, 3) := by decide +kernel
theorem dX8_change_29 : decode cX8_change 29 = .ok (.goto 4, 3) := by decide +kernel
theorem dX8_change_32 : decode cX8_change 32 = .ok (.iconst (-1), 1) := by decide +kernel
theorem dX8_change_33 : decode cX8_change 33 = .ok (.ireturn, 1) := by decide +kernel
theorem dX8_doFree_0 : decode cX8_doFree 0 = .ok (.aload_n 0, 1) := by decide +kernel
theorem dX8_doFree_1 : decode cX8_doFree 1 = .ok (.invokevirtual 82, 3) := by decide +kernel
theorem dX8_doFree_4 : decode cX8_doFree 4 = .ok (.ifCond .eq 24, 3) := by decide +kernel
theorem dX8_doFree_7 : decode cX8_doFree 7 = .ok (.aload_n 0, 1) := by decide +kernel
theorem dX8_doFree_8 : decode cX8_doFree 8 = .ok (.getfield 13, 3) := by decide +kernel
theorem dX8_doFree_11 : decode cX8_doFree 11 = .ok (.iload_n 1, 1) := by decide +kernel
theorem dX8_doFree_12 : decode cX8_doFree 12 = .ok (.iaload, 1) := by decide +kernel
theorem dX8_doFree_13 : decode cX8_doFree 13 = .ok (.iconst (-1), 1) := by decide +kernel
theorem dX8_doFree_14 : decode cX8_doFree 14 = .ok (.if_icmp .eq 14, 3) := by decide +kernel
theorem dX8_doFree_17 : decode cX8_doFree 17 = .ok (.aload_n 0, 1) := by decide +kernel
theorem dX8_doFree_18 : decode cX8_doFree 18 = .ok (.iload_n 1, 1) := by decide +kernel
theorem dX8_doFree_19 : decode cX8_doFree 19 = .ok (.bipush 7, 2) := by decide +kernel
theorem dX8_doFree_21 : decode cX8_doFree 21 = .ok (.invokevirtual 95, 3) := by decide +kernel
theorem dX8_doFree_24 : decode cX8_doFree 24 = .ok (.iconst 1, 1) := by decide +kernel
theorem dX8_doFree_25 : decode cX8_doFree 25 = .ok (.if_icmp .ne 5, 3) := by decide +kernel
theorem dX8_doFree_28 : decode cX8_doFree 28 = .ok (.iconst (-1), 1) := by decide +kernel
theorem dX8_doFree_29 : decode cX8_doFree 29 = .ok (.ireturn, 1) := by decide +kernel
theorem dX8_doFree_30 : decode cX8_doFree 30 = .ok (.iload_n 2, 1) := by decide +kernel
theorem dX8_doFree_31 : decode cX8_doFree 31 = .ok (.iconst (-1), 1) := by decide +kernel
theorem dX8_doFree_32 : decode cX8_doFree 32 = .ok (.if_icmp .ne 52, 3) := by decide +kernel
theorem dX8_doFree_35 : decode cX8_doFree 35 = .ok (.aload_n 0, 1) := by decide +kernel
theorem dX8_doFree_36 : decode cX8_doFree 36 = .ok (.iload_n 1, 1) := by decide +kernel
theorem dX8_doFree_37 : decode cX8_doFree 37 = .ok (.iconst 4, 1) := by decide +kernel
theorem dX8_doFree_38 : decode cX8_doFree 38 = .ok (.invokevirtual 95, 3) := by decide +kernel
theorem dX8_doFree_41 : decode cX8_doFree 41 = .ok (.iconst (-1), 1) := by decide +kernel
theorem dX8_doFree_42 : decode cX8_doFree 42 = .ok (.if_icmp .ne 5, 3) := by decide +kernel
theorem dX8_doFree_45 : decode cX8_doFree 45 = .ok (.iconst (-1), 1) := by decide +kernel
theorem dX8_doFree_46 : decode cX8_doFree 46 = .ok (.ireturn, 1) := by decide +kernel
theorem dX8_doFree_47 : decode cX8_doFree 47 = .ok (.aload_n 0, 1) := by decide +kernel
theorem dX8_doFree_48 : decode cX8_doFree 48 = .ok (.iload_n 1, 1) := by decide +kernel
theorem dX8_doFree_49 : decode cX8_doFree 49 = .ok (.aload_n 0, 1) := by decide +kernel
theorem dX8_doFree_50 : decode cX8_doFree 50 = .ok (.getfield 13, 3) := by decide +kernel
theorem dX8_doFree_53 : decode cX8_doFree 53 = .ok (.iload_n 1, 1) := by decide +kernel
theorem dX8_doFree_54 : decode cX8_doFree 54 = .ok (.iaload, 1) := by decide +kernel
theorem dX8_doFree_55 : decode cX8_doFree 55 = .ok (.invokevirtual 117, 3) := by decide +kernel
theorem dX8_doFree_58 : decode cX8_doFree 58 = .ok (.istore_n 3, 1) := by decide +kernel
theorem dX8_doFree_59 : decode cX8_doFree 59 = .ok (.aload_n 0, 1) := by decide +kernel
theorem dX8_doFree_60 : decode cX8_doFree 60 = .ok (.iload_n 1, 1) := by decide +kernel
theorem dX8_doFree_61 : decode cX8_doFree 61 = .ok (.bipush 8, 2) := by decide +kernel
theorem dX8_doFree_63 : decode cX8_doFree 63 = .ok (.iload_n 3, 1) := by decide +kernel
theorem dX8_doFree_64 : decode cX8_doFree 64 = .ok (.iadd, 1) := by decide +kernel
theorem dX8_doFree_65 : decode cX8_doFree 65 = .ok (.aload_n 0, 1) := by decide +kernel
theorem dX8_doFree_66 : decode cX8_doFree 66 = .ok (.iload_n 1, 1) := by decide +kernel
theorem dX8_doFree_67 : decode cX8_doFree 67 = .ok (.iconst 4, 1) := by decide +kernel
theorem dX8_doFree_68 : decode cX8_doFree 68 = .ok (.invokevirtual 95, 3) := by decide +kernel
theorem dX8_doFree_71 : decode cX8_doFree 71 = .ok (.invokevirtual 56, 3) := by decide +kernel
theorem dX8_doFree_74 : decode cX8_doFree 74 = .ok (.aload_n 0, 1) := by decide +kernel
theorem dX8_doFree_75 : decode cX8_doFree 75 = .ok (.iload_n 1, 1) := by decide +kernel
theorem dX8_doFree_76 : decode cX8_doFree 76 = .ok (.iconst 4, 1) := by decide +kernel
theorem dX8_doFree_77 : decode cX8_doFree 77 = .ok (.iconst (-1), 1) := by decide +kernel
theorem dX8_doFree_78 : decode cX8_doFree 78 = .ok (.invokevirtual 56, 3) := by decide +kernel
theorem dX8_doFree_81 : decode cX8_doFree 81 = .ok (.goto 63, 3) := by decide +kernel
theorem dX8_doFree_84 : decode cX8_doFree 84 = .ok (.iload_n 2, 1) := by decide +kernel
theorem dX8_doFree_85 : decode cX8_doFree 85 = .ok (.invokestatic 75, 3) := by decide +kernel
theorem dX8_doFree_88 : decode cX8_doFree 88 = .ok (.ifCond .eq 13, 3) := by decide +kernel
theorem dX8_doFree_91 : decode cX8_doFree 91 = .ok (.aload_n 0, 1) := by decide +kernel
theorem dX8_doFree_92 : decode cX8_doFree 92 = .ok (.iload_n 1, 1) := by decide +kernel
theorem dX8_doFree_93 : decode cX8_doFree 93 = .ok (.iconst 4, 1) := by decide +kernel
theorem dX8_doFree_94 : decode cX8_doFree 94 = .ok (.invokevirtual 95, 3) := by decide +kernel
theorem dX8_doFree_97 : decode cX8_doFree 97 = .ok (.iconst (-1), 1) := by decide +kernel
theorem dX8_doFree_98 : decode cX8_doFree 98 = .ok (.if_icmp .eq 5, 3) := by decide +kernel
theorem dX8_doFree_101 : decode cX8_doFree 101 = .ok (.iconst (-1), 1) := by decide +kernel
theorem dX8_doFree_102 : decode cX8_doFree 102 = .ok (.ireturn, 1) := by decide +kernel
theorem dX8_doFree_103 : decode cX8_doFree 103 = .ok (.aload_n 0, 1) := by decide +kernel
theorem dX8_doFree_104 : decode cX8_doFree 104 = .ok (.iload_n 1, 1) := by decide +kernel
theorem dX8_doFree_105 : decode cX8_doFree 105 = .ok (.iload_n 2, 1) := by decide +kernel
theorem dX8_doFree_106 : decode cX8_doFree 106 = .ok (.invokevirtual 117, 3) := by decide +kernel
theorem dX8_doFree_109 : decode cX8_doFree 109 = .ok (.istore_n 3, 1) := by decide +kernel
theorem dX8_doFree_110 : decode cX8_doFree 110 = .ok (.iload_n 3, 1) := by decide +kernel
theorem dX8_doFree_111 : decode cX8_doFree 111 = .ok (.iconst 4, 1) := by decide +kernel
theorem dX8_doFree_112 : decode cX8_doFree 112 = .ok (.if_icmp .eq 10, 3) := by decide +kernel
theorem dX8_doFree_115 : decode cX8_doFree 115 = .ok (.iload_n 3, 1) := by decide +kernel
theorem dX8_doFree_116 : decode cX8_doFree 116 = .ok (.iconst 5, 1) := by decide +kernel
theorem dX8_doFree_117 : decode cX8_doFree 117 = .ok (.if_icmp .eq 5, 3) := by decide +kernel
theorem dX8_doFree_120 : decode cX8_doFree 120 = .ok (.iconst (-1), 1) := by decide +kernel
theorem dX8_doFree_121 : decode cX8_doFree 121 = .ok (.ireturn, 1) := by decide +kernel
theorem dX8_doFree_122 : decode cX8_doFree 122 = .ok (.aload_n 0, 1) := by decide +kernel
theorem dX8_doFree_123 : decode cX8_doFree 123 = .ok (.iload_n 1, 1) := by decide +kernel
theorem dX8_doFree_124 : decode cX8_doFree 124 = .ok (.bipush 8, 2) := by decide +kernel
theorem dX8_doFree_126 : decode cX8_doFree 126 = .ok (.iload_n 3, 1) := by decide +kernel
theorem dX8_doFree_127 : decode cX8_doFree 127 = .ok (.iadd, 1) := by decide +kernel
theorem dX8_doFree_128 : decode cX8_doFree 128 = .ok (.aload_n 0, 1) := by decide +kernel
theorem dX8_doFree_129 : decode cX8_doFree 129 = .ok (.getfield 13, 3) := by decide +kernel
theorem dX8_doFree_132 : decode cX8_doFree 132 = .ok (.iload_n 1, 1) := by decide +kernel
theorem dX8_doFree_133 : decode cX8_doFree 133 = .ok (.iaload, 1) := by decide +kernel
theorem dX8_doFree_134 : decode cX8_doFree 134 = .ok (.invokevirtual 56, 3) := by decide +kernel
theorem dX8_doFree_137 : decode cX8_doFree 137 = .ok (.aload_n 0, 1) := by decide +kernel
theorem dX8_doFree_138 : decode cX8_doFree 138 = .ok (.iload_n 1, 1) := by decide +kernel
theorem dX8_doFree_139 : decode cX8_doFree 139 = .ok (.iconst 4, 1) := by decide +kernel
theorem dX8_doFree_140 : decode cX8_doFree 140 = .ok (.iload_n 2, 1) := by decide +kernel
theorem dX8_doFree_141 : decode cX8_doFree 141 = .ok (.invokevirtual 56, 3) := by decide +kernel
theorem dX8_doFree_144 : decode cX8_doFree 144 = .ok (.aload_n 0, 1) := by decide +kernel
theorem dX8_doFree_145 : decode cX8_doFree 145 = .ok (.iload_n 1, 1) := by decide +kernel
theorem dX8_doFree_146 : decode cX8_doFree 146 = .ok (.bipush 7, 2) := by decide +kernel
theorem dX8_doFree_148 : decode cX8_doFree 148 = .ok (.iconst 1, 1) := by decide +kernel
theorem dX8_doFree_149 : decode cX8_doFree 149 = .ok (.invokevirtual 56, 3) := by decide +kernel
theorem dX8_doFree_152 : decode cX8_doFree 152 = .ok (.iload_n 3, 1) := by decide +kernel
theorem dX8_doFree_153 : decode cX8_doFree 153 = .ok (.ireturn, 1) := by decide +kernel
theorem dX8_free_0 : decode cX8_free 0 = .ok (.aload_n 0, 1) := by decide +kernel
theorem dX8_free_1 : decode cX8_free 1 = .ok (.iconst 0, 1) := by decide +kernel
theorem dX8_free_2 : decode cX8_free 2 = .ok (.putfield 63, 3) := by decide +kernel
theorem dX8_free_5 : decode cX8_free 5 = .ok (.iload_n 1, 1) := by decide +kernel
theorem dX8_free_6 : decode cX8_free 6 = .ok (.invokestatic 71, 3) := by decide +kernel
theorem dX8_free_9 : decode cX8_free 9 = .ok (.ifCond .eq 12, 3) := by decide +kernel
theorem dX8_free_12 : decode cX8_free 12 = .ok (.aload_n 0, 1) := by decide +kernel
theorem dX8_free_13 : decode cX8_free 13 = .ok (.iload_n 1, 1) := by decide +kernel
theorem dX8_free_14 : decode cX8_free 14 = .ok (.iload_n 2, 1) := by decide +kernel
theorem dX8_free_15 : decode cX8_free 15 = .ok (.invokevirtual 126, 3) := by decide +kernel
theorem dX8_free_18 : decode cX8_free 18 = .ok (.goto 4, 3) := by decide +kernel
theorem dX8_free_21 : decode cX8_free 21 = .ok (.iconst (-1), 1) := by decide +kernel
theorem dX8_free_22 : decode cX8_free 22 = .ok (.ireturn, 1) := by decide +kernel
theorem dX8_doPause_0 : decode cX8_doPause 0 = .ok (.aload_n 0, 1) := by decide +kernel
theorem dX8_doPause_1 : decode cX8_doPause 1 = .ok (.invokevirtual 82, 3) := by decide +kernel
theorem dX8_doPause_4 : decode cX8_doPause 4 = .ok (.ifCond .eq 18, 3) := by decide +kernel
theorem dX8_doPause_7 : decode cX8_doPause 7 = .ok (.aload_n 0, 1) := by decide +kernel
theorem dX8_doPause_8 : decode cX8_doPause 8 = .ok (.iload_n 1, 1) := by decide +kernel
theorem dX8_doPause_9 : decode cX8_doPause 9 = .ok (.iconst 3, 1) := by decide +kernel
theorem dX8_doPause_10 : decode cX8_doPause 10 = .ok (.invokevirtual 95, 3) := by decide +kernel
theorem dX8_doPause_13 : decode cX8_doPause 13 = .ok (.aload_n 0, 1) := by decide +kernel
theorem dX8_doPause_14 : decode cX8_doPause 14 = .ok (.getfield 16, 3) := by decide +kernel
theorem dX8_doPause_17 : decode cX8_doPause 17 = .ok (.iconst 5, 1) := by decide +kernel
theorem dX8_doPause_18 : decode cX8_doPause 18 = .ok (.iaload, 1) := by decide +kernel
theorem dX8_doPause_19 : decode cX8_doPause 19 = .ok (.if_icmp .lt 5, 3) := by decide +kernel
theorem dX8_doPause_22 : decode cX8_doPause 22 = .ok (.iconst (-1), 1) := by decide +kernel
theorem dX8_doPause_23 : decode cX8_doPause 23 = .ok (.ireturn, 1) := by decide +kernel
theorem dX8_doPause_24 : decode cX8_doPause 24 = .ok (.aload_n 0, 1) := by decide +kernel
theorem dX8_doPause_25 : decode cX8_doPause 25 = .ok (.iload_n 1, 1) := by decide +kernel
theorem dX8_doPause_26 : decode cX8_doPause 26 = .ok (.iconst 3, 1) := by decide +kernel
theorem dX8_doPause_27 : decode cX8_doPause 27 = .ok (.aload_n 0, 1) := by decide +kernel
theorem dX8_doPause_28 : decode cX8_doPause 28 = .ok (.iload_n 1, 1) := by decide +kernel
theorem dX8_doPause_29 : decode cX8_doPause 29 = .ok (.iconst 3, 1) := by decide +kernel
theorem dX8_doPause_30 : decode cX8_doPause 30 = .ok (.invokevirtual 95, 3) := by decide +kernel
theorem dX8_doPause_33 : decode cX8_doPause 33 = .ok (.iconst 1, 1) := by decide +kernel
theorem dX8_doPause_34 : decode cX8_doPause 34 = .ok (.iadd, 1) := by decide +kernel
theorem dX8_doPause_35 : decode cX8_doPause 35 = .ok (.invokevirtual 56, 3) := by decide +kernel
theorem dX8_doPause_38 : decode cX8_doPause 38 = .ok (.aload_n 0, 1) := by decide +kernel
theorem dX8_doPause_39 : decode cX8_doPause 39 = .ok (.iload_n 1, 1) := by decide +kernel
theorem dX8_doPause_40 : decode cX8_doPause 40 = .ok (.iconst 3, 1) := by decide +kernel
theorem dX8_doPause_41 : decode cX8_doPause 41 = .ok (.invokevirtual 95, 3) := by decide +kernel
theorem dX8_doPause_44 : decode cX8_doPause 44 = .ok (.ireturn, 1) := by decide +kernel
theorem dX8_pause_0 : decode cX8_pause 0 = .ok (.aload_n 0, 1) := by decide +kernel
theorem dX8_pause_1 : decode cX8_pause 1 = .ok (.iconst 0, 1) := by decide +kernel
theorem dX8_pause_2 : decode cX8_pause 2 = .ok (.putfield 63, 3) := by decide +kernel
theorem dX8_pause_5 : decode cX8_pause 5 = .ok (.iload_n 1, 1) := by decide +kernel
theorem dX8_pause_6 : decode cX8_pause 6 = .ok (.invokestatic 71, 3) := by decide +kernel
theorem dX8_pause_9 : decode cX8_pause 9 = .ok (.ifCond .eq 11, 3) := by decide +kernel
theorem dX8_pause_12 : decode cX8_pause 12 = .ok (.aload_n 0, 1) := by decide +kernel
theorem dX8_pause_13 : decode cX8_pause 13 = .ok (.iload_n 1, 1) := by decide +kernel
theorem dX8_pause_14 : decode cX8_pause 14 = .ok (.invokevirtual 129, 3) := by decide +kernel
theorem dX8_pause_17 : decode cX8_pause 17 = .ok (.goto 4, 3) := by decide +kernel
theorem dX8_pause_20 : decode cX8_pause 20 = .ok (.iconst (-1), 1) := by decide +kernel
theorem dX8_pause_21 : decode cX8_pause 21 = .ok (.ireturn, 1) := by decide +kernel
theorem dX8_wrong_0 : decode cX8_wrong 0 = .ok (.aload_n 0, 1) := by decide +kernel
theorem dX8_wrong_1 : decode cX8_wrong 1 = .ok (.iconst 0, 1) := by decide +kernel
theorem dX8_wrong_2 : decode cX8_wrong 2 = .ok (.putfield 63, 3) := by decide +kernel
theorem dX8_wrong_5 : decode cX8_wrong 5 = .ok (.aload_n 0, 1) := by decide +kernel
theorem dX8_wrong_6 : decode cX8_wrong 6 = .ok (.invokevirtual 82, 3) := by decide +kernel
theorem dX8_wrong_9 : decode cX8_wrong 9 = .ok (.ifCond .ne 5, 3) := by decide +kernel
theorem dX8_wrong_12 : decode cX8_wrong 12 = .ok (.iconst (-1), 1) := by decide +kernel
theorem dX8_wrong_13 : decode cX8_wrong 13 = .ok (.ireturn, 1) := by decide +kernel
theorem dX8_wrong_14 : decode cX8_wrong 14 = .ok (.aload_n 0, 1) := by decide +kernel
theorem dX8_wrong_15 : decode cX8_wrong 15 = .ok (.getfield 26, 3) := by decide +kernel
theorem dX8_wrong_18 : decode cX8_wrong 18 = .ok (.iconst 2, 1) := by decide +kernel
theorem dX8_wrong_19 : decode cX8_wrong 19 = .ok (.iaload, 1) := by decide +kernel
theorem dX8_wrong_20 : decode cX8_wrong 20 = .ok (.istore_n 2, 1) := by decide +kernel
theorem dX8_wrong_21 : decode cX8_wrong 21 = .ok (.iload_n 1, 1) := by decide +kernel
theorem dX8_wrong_22 : decode cX8_wrong 22 = .ok (.iconst 0, 1) := by decide +kernel
theorem dX8_wrong_23 : decode cX8_wrong 23 = .ok (.aload_n 0, 1) := by decide +kernel
theorem dX8_wrong_24 : decode cX8_wrong 24 = .ok (.iload_n 2, 1) := by decide +kernel
theorem dX8_wrong_25 : decode cX8_wrong 25 = .ok (.iconst 5, 1) := by decide +kernel
theorem dX8_wrong_26 : decode cX8_wrong 26 = .ok (.invokevirtual 95, 3) := by decide +kernel
theorem dX8_wrong_29 : decode cX8_wrong 29 = .ok (.invokestatic 67, 3) := by decide +kernel
theorem dX8_wrong_32 : decode cX8_wrong 32 = .ok (.ifCond .ne 5, 3) := by decide +kernel
theorem dX8_wrong_35 : decode cX8_wrong 35 = .ok (.iconst (-1), 1) := by decide +kernel
theorem dX8_wrong_36 : decode cX8_wrong 36 = .ok (.ireturn, 1) := by decide +kernel
theorem dX8_wrong_37 : decode cX8_wrong 37 = .ok (.aload_n 0, 1) := by decide +kernel
theorem dX8_wrong_38 : decode cX8_wrong 38 = .ok (.iload_n 2, 1) := by decide +kernel
theorem dX8_wrong_39 : decode cX8_wrong 39 = .ok (.iconst 0, 1) := by decide +kernel
theorem dX8_wrong_40 : decode cX8_wrong 40 = .ok (.aload_n 0, 1) := by decide +kernel
theorem dX8_wrong_41 : decode cX8_wrong 41 = .ok (.iload_n 2, 1) := by decide +kernel
theorem dX8_wrong_42 : decode cX8_wrong 42 = .ok (.iconst 0, 1) := by decide +kernel
theorem dX8_wrong_43 : decode cX8_wrong 43 = .ok (.invokevirtual 95, 3) := by decide +kernel
theorem dX8_wrong_46 : decode cX8_wrong 46 = .ok (.iload_n 1, 1) := by decide +kernel
theorem dX8_wrong_47 : decode cX8_wrong 47 = .ok (.isub, 1) := by decide +kernel
theorem dX8_wrong_48 : decode cX8_wrong 48 = .ok (.invokevirtual 56, 3) := by decide +kernel
theorem dX8_wrong_51 : decode cX8_wrong 51 = .ok (.aload_n 0, 1) := by decide +kernel
theorem dX8_wrong_52 : decode cX8_wrong 52 = .ok (.iconst 1, 1) := by decide +kernel
theorem dX8_wrong_53 : decode cX8_wrong 53 = .ok (.iload_n 2, 1) := by decide +kernel
theorem dX8_wrong_54 : decode cX8_wrong 54 = .ok (.isub, 1) := by decide +kernel
theorem dX8_wrong_55 : decode cX8_wrong 55 = .ok (.invokevirtual 113, 3) := by decide +kernel
theorem dX8_wrong_58 : decode cX8_wrong 58 = .ok (.ireturn, 1) := by decide +kernel
theorem dX8_at_0 : decode cX8_at 0 = .ok (.aload_n 0, 1) := by decide +kernel
theorem dX8_at_1 : decode cX8_at 1 = .ok (.iconst 0, 1) := by decide +kernel
theorem dX8_at_2 : decode cX8_at 2 = .ok (.putfield 63, 3) := by decide +kernel
theorem dX8_at_5 : decode cX8_at 5 = .ok (.iload_n 1, 1) := by decide +kernel
theorem dX8_at_6 : decode cX8_at 6 = .ok (.invokestatic 71, 3) := by decide +kernel
theorem dX8_at_9 : decode cX8_at 9 = .ok (.ifCond .eq 34, 3) := by decide +kernel
theorem dX8_at_12 : decode cX8_at 12 = .ok (.iload_n 2, 1) := by decide +kernel
theorem dX8_at_13 : decode cX8_at 13 = .ok (.iconst 0, 1) := by decide +kernel
theorem dX8_at_14 : decode cX8_at 14 = .ok (.iconst 5, 1) := by decide +kernel
theorem dX8_at_15 : decode cX8_at 15 = .ok (.invokestatic 67, 3) := by decide +kernel
theorem dX8_at_18 : decode cX8_at 18 = .ok (.ifCond .eq 25, 3) := by decide +kernel
theorem dX8_at_21 : decode cX8_at 21 = .ok (.aload_n 0, 1) := by decide +kernel
theorem dX8_at_22 : decode cX8_at 22 = .ok (.getfield 26, 3) := by decide +kernel
theorem dX8_at_25 : decode cX8_at 25 = .ok (.iconst 0, 1) := by decide +kernel
theorem dX8_at_26 : decode cX8_at 26 = .ok (.iaload, 1) := by decide +kernel
theorem dX8_at_27 : decode cX8_at 27 = .ok (.iconst (-1), 1) := by decide +kernel
theorem dX8_at_28 : decode cX8_at 28 = .ok (.if_icmp .eq 15, 3) := by decide +kernel
theorem dX8_at_31 : decode cX8_at 31 = .ok (.aload_n 0, 1) := by decide +kernel
theorem dX8_at_32 : decode cX8_at 32 = .ok (.iload_n 1, 1) := by decide +kernel
theorem dX8_at_33 : decode cX8_at 33 = .ok (.bipush 8, 2) := by decide +kernel
theorem dX8_at_35 : decode cX8_at 35 = .ok (.iload_n 2, 1) := by decide +kernel
theorem dX8_at_36 : decode cX8_at 36 = .ok (.iadd, 1) := by decide +kernel
theorem dX8_at_37 : decode cX8_at 37 = .ok (.invokevirtual 95, 3) := by decide +kernel
theorem dX8_at_40 : decode cX8_at 40 = .ok (.goto 4, 3) := by decide +kernel
theorem dX8_at_43 : decode cX8_at 43 = .ok (.iconst (-1), 1) := by decide +kernel
theorem dX8_at_44 : decode cX8_at 44 = .ok (.ireturn, 1) := by decide +kernel
theorem dX8_of_0 : decode cX8_of 0 = .ok (.aload_n 0, 1) := by decide +kernel
theorem dX8_of_1 : decode cX8_of 1 = .ok (.iconst 0, 1) := by decide +kernel
theorem dX8_of_2 : decode cX8_of 2 = .ok (.putfield 63, 3) := by decide +kernel
theorem dX8_of_5 : decode cX8_of 5 = .ok (.iload_n 1, 1) := by decide +kernel
theorem dX8_of_6 : decode cX8_of 6 = .ok (.invokestatic 71, 3) := by decide +kernel
theorem dX8_of_9 : decode cX8_of 9 = .ok (.ifCond .eq 22, 3) := by decide +kernel
theorem dX8_of_12 : decode cX8_of 12 = .ok (.iload_n 2, 1) := by decide +kernel
theorem dX8_of_13 : decode cX8_of 13 = .ok (.iconst 0, 1) := by decide +kernel
theorem dX8_of_14 : decode cX8_of 14 = .ok (.bipush 6, 2) := by decide +kernel
theorem dX8_of_16 : decode cX8_of 16 = .ok (.invokestatic 67, 3) := by decide +kernel
theorem dX8_of_19 : decode cX8_of 19 = .ok (.ifCond .eq 12, 3) := by decide +kernel
theorem dX8_of_22 : decode cX8_of 22 = .ok (.aload_n 0, 1) := by decide +kernel
theorem dX8_of_23 : decode cX8_of 23 = .ok (.iload_n 1, 1) := by decide +kernel
theorem dX8_of_24 : decode cX8_of 24 = .ok (.iload_n 2, 1) := by decide +kernel
theorem dX8_of_25 : decode cX8_of 25 = .ok (.invokevirtual 95, 3) := by decide +kernel
theorem dX8_of_28 : decode cX8_of 28 = .ok (.goto 4, 3) := by decide +kernel
theorem dX8_of_31 : decode cX8_of 31 = .ok (.iconst (-1), 1) := by decide +kernel
theorem dX8_of_32 : decode cX8_of 32 = .ok (.ireturn, 1) := by decide +kernel
theorem dX8_count_0 : decode cX8_count 0 = .ok (.aload_n 0, 1) := by decide +kernel
theorem dX8_count_1 : decode cX8_count 1 = .ok (.iconst 0, 1) := by decide +kernel
theorem dX8_count_2 : decode cX8_count 2 = .ok (.putfield 63, 3) := by decide +kernel
theorem dX8_count_5 : decode cX8_count 5 = .ok (.iload_n 1, 1) := by decide +kernel
theorem dX8_count_6 : decode cX8_count 6 = .ok (.tableswitch 98 0 7 #[46, 53, 60, 67, 74, 81, 86, 91], 46) := by decide +kernel
theorem dX8_count_52 : decode cX8_count 52 = .ok (.aload_n 0, 1) := by decide +kernel
theorem dX8_count_53 : decode cX8_count 53 = .ok (.getfield 26, 3) := by decide +kernel
theorem dX8_count_56 : decode cX8_count 56 = .ok (.iconst 0, 1) := by decide +kernel
theorem dX8_count_57 : decode cX8_count 57 = .ok (.iaload, 1) := by decide +kernel
theorem dX8_count_58 : decode cX8_count 58 = .ok (.ireturn, 1) := by decide +kernel
theorem dX8_count_59 : decode cX8_count 59 = .ok (.aload_n 0, 1) := by decide +kernel
theorem dX8_count_60 : decode cX8_count 60 = .ok (.getfield 26, 3) := by decide +kernel
theorem dX8_count_63 : decode cX8_count 63 = .ok (.iconst 1, 1) := by decide +kernel
theorem dX8_count_64 : decode cX8_count 64 = .ok (.iaload, 1) := by decide +kernel
theorem dX8_count_65 : decode cX8_count 65 = .ok (.ireturn, 1) := by decide +kernel
theorem dX8_count_66 : decode cX8_count 66 = .ok (.aload_n 0, 1) := by decide +kernel
theorem dX8_count_67 : decode cX8_count 67 = .ok (.getfield 26, 3) := by decide +kernel
theorem dX8_count_70 : decode cX8_count 70 = .ok (.iconst 2, 1) := by decide +kernel
theorem dX8_count_71 : decode cX8_count 71 = .ok (.iaload, 1) := by decide +kernel
theorem dX8_count_72 : decode cX8_count 72 = .ok (.ireturn, 1) := by decide +kernel
theorem dX8_count_73 : decode cX8_count 73 = .ok (.aload_n 0, 1) := by decide +kernel
theorem dX8_count_74 : decode cX8_count 74 = .ok (.getfield 26, 3) := by decide +kernel
theorem dX8_count_77 : decode cX8_count 77 = .ok (.iconst 3, 1) := by decide +kernel
theorem dX8_count_78 : decode cX8_count 78 = .ok (.iaload, 1) := by decide +kernel
theorem dX8_count_79 : decode cX8_count 79 = .ok (.ireturn, 1) := by decide +kernel
theorem dX8_count_80 : decode cX8_count 80 = .ok (.aload_n 0, 1) := by decide +kernel
theorem dX8_count_81 : decode cX8_count 81 = .ok (.getfield 26, 3) := by decide +kernel
theorem dX8_count_84 : decode cX8_count 84 = .ok (.iconst 4, 1) := by decide +kernel
theorem dX8_count_85 : decode cX8_count 85 = .ok (.iaload, 1) := by decide +kernel
theorem dX8_count_86 : decode cX8_count 86 = .ok (.ireturn, 1) := by decide +kernel
theorem dX8_count_87 : decode cX8_count 87 = .ok (.aload_n 0, 1) := by decide +kernel
theorem dX8_count_88 : decode cX8_count 88 = .ok (.getfield 132, 3) := by decide +kernel
theorem dX8_count_91 : decode cX8_count 91 = .ok (.ireturn, 1) := by decide +kernel
theorem dX8_count_92 : decode cX8_count 92 = .ok (.aload_n 0, 1) := by decide +kernel
theorem dX8_count_93 : decode cX8_count 93 = .ok (.getfield 135, 3) := by decide +kernel
theorem dX8_count_96 : decode cX8_count 96 = .ok (.ireturn, 1) := by decide +kernel
theorem dX8_count_97 : decode cX8_count 97 = .ok (.aload_n 0, 1) := by decide +kernel
theorem dX8_count_98 : decode cX8_count 98 = .ok (.getfield 26, 3) := by decide +kernel
theorem dX8_count_101 : decode cX8_count 101 = .ok (.iconst 5, 1) := by decide +kernel
theorem dX8_count_102 : decode cX8_count 102 = .ok (.iaload, 1) := by decide +kernel
theorem dX8_count_103 : decode cX8_count 103 = .ok (.ireturn, 1) := by decide +kernel
theorem dX8_count_104 : decode cX8_count 104 = .ok (.iconst (-1), 1) := by decide +kernel
theorem dX8_count_105 : decode cX8_count 105 = .ok (.ireturn, 1) := by decide +kernel
theorem dX8_served_0 : decode cX8_served 0 = .ok (.aload_n 0, 1) := by decide +kernel
theorem dX8_served_1 : decode cX8_served 1 = .ok (.iconst 0, 1) := by decide +kernel
theorem dX8_served_2 : decode cX8_served 2 = .ok (.putfield 63, 3) := by decide +kernel
theorem dX8_served_5 : decode cX8_served 5 = .ok (.iload_n 1, 1) := by decide +kernel
theorem dX8_served_6 : decode cX8_served 6 = .ok (.invokestatic 71, 3) := by decide +kernel
theorem dX8_served_9 : decode cX8_served 9 = .ok (.ifCond .eq 22, 3) := by decide +kernel
theorem dX8_served_12 : decode cX8_served 12 = .ok (.iload_n 2, 1) := by decide +kernel
theorem dX8_served_13 : decode cX8_served 13 = .ok (.invokestatic 75, 3) := by decide +kernel
theorem dX8_served_16 : decode cX8_served 16 = .ok (.ifCond .eq 15, 3) := by decide +kernel
theorem dX8_served_19 : decode cX8_served 19 = .ok (.aload_n 0, 1) := by decide +kernel
theorem dX8_served_20 : decode cX8_served 20 = .ok (.iload_n 1, 1) := by decide +kernel
theorem dX8_served_21 : decode cX8_served 21 = .ok (.bipush 38, 2) := by decide +kernel
theorem dX8_served_23 : decode cX8_served 23 = .ok (.iload_n 2, 1) := by decide +kernel
theorem dX8_served_24 : decode cX8_served 24 = .ok (.iadd, 1) := by decide +kernel
theorem dX8_served_25 : decode cX8_served 25 = .ok (.invokevirtual 95, 3) := by decide +kernel
theorem dX8_served_28 : decode cX8_served 28 = .ok (.goto 4, 3) := by decide +kernel
theorem dX8_served_31 : decode cX8_served 31 = .ok (.iconst (-1), 1) := by decide +kernel
theorem dX8_served_32 : decode cX8_served 32 = .ok (.ireturn, 1) := by decide +kernel
theorem dX8_feet_0 : decode cX8_feet 0 = .ok (.aload_n 0, 1) := by decide +kernel
theorem dX8_feet_1 : decode cX8_feet 1 = .ok (.iconst 0, 1) := by decide +kernel
theorem dX8_feet_2 : decode cX8_feet 2 = .ok (.putfield 63, 3) := by decide +kernel
theorem dX8_feet_5 : decode cX8_feet 5 = .ok (.iload_n 1, 1) := by decide +kernel
theorem dX8_feet_6 : decode cX8_feet 6 = .ok (.invokestatic 71, 3) := by decide +kernel
theorem dX8_feet_9 : decode cX8_feet 9 = .ok (.ifCond .eq 42, 3) := by decide +kernel
theorem dX8_feet_12 : decode cX8_feet 12 = .ok (.iload_n 2, 1) := by decide +kernel
theorem dX8_feet_13 : decode cX8_feet 13 = .ok (.iconst 0, 1) := by decide +kernel
theorem dX8_feet_14 : decode cX8_feet 14 = .ok (.iconst 5, 1) := by decide +kernel
theorem dX8_feet_15 : decode cX8_feet 15 = .ok (.invokestatic 67, 3) := by decide +kernel
theorem dX8_feet_18 : decode cX8_feet 18 = .ok (.ifCond .eq 33, 3) := by decide +kernel
theorem dX8_feet_21 : decode cX8_feet 21 = .ok (.iload_n 3, 1) := by decide +kernel
theorem dX8_feet_22 : decode cX8_feet 22 = .ok (.iconst 0, 1) := by decide +kernel
theorem dX8_feet_23 : decode cX8_feet 23 = .ok (.sipush 999, 3) := by decide +kernel
theorem dX8_feet_26 : decode cX8_feet 26 = .ok (.invokestatic 67, 3) := by decide +kernel
theorem dX8_feet_29 : decode cX8_feet 29 = .ok (.ifCond .eq 22, 3) := by decide +kernel
theorem dX8_feet_32 : decode cX8_feet 32 = .ok (.iload 4, 2) := by decide +kernel
theorem dX8_feet_34 : decode cX8_feet 34 = .ok (.iconst 0, 1) := by decide +kernel
theorem dX8_feet_35 : decode cX8_feet 35 = .ok (.sipush 999, 3) := by decide +kernel
theorem dX8_feet_38 : decode cX8_feet 38 = .ok (.invokestatic 67, 3) := by decide +kernel
theorem dX8_feet_41 : decode cX8_feet 41 = .ok (.ifCond .eq 10, 3) := by decide +kernel
theorem dX8_feet_44 : decode cX8_feet 44 = .ok (.aload_n 0, 1) := by decide +kernel
theorem dX8_feet_45 : decode cX8_feet 45 = .ok (.invokevirtual 82, 3) := by decide +kernel
theorem dX8_feet_48 : decode cX8_feet 48 = .ok (.ifCond .ne 5, 3) := by decide +kernel
theorem dX8_feet_51 : decode cX8_feet 51 = .ok (.iconst 0, 1) := by decide +kernel
theorem dX8_feet_52 : decode cX8_feet 52 = .ok (.ireturn, 1) := by decide +kernel
theorem dX8_feet_53 : decode cX8_feet 53 = .ok (.aload_n 0, 1) := by decide +kernel
theorem dX8_feet_54 : decode cX8_feet 54 = .ok (.getfield 32, 3) := by decide +kernel
theorem dX8_feet_57 : decode cX8_feet 57 = .ok (.bipush 6, 2) := by decide +kernel
theorem dX8_feet_59 : decode cX8_feet 59 = .ok (.iload_n 1, 1) := by decide +kernel
theorem dX8_feet_60 : decode cX8_feet 60 = .ok (.imul, 1) := by decide +kernel
theorem dX8_feet_61 : decode cX8_feet 61 = .ok (.iload_n 2, 1) := by decide +kernel
theorem dX8_feet_62 : decode cX8_feet 62 = .ok (.iadd, 1) := by decide +kernel
theorem dX8_feet_63 : decode cX8_feet 63 = .ok (.iload_n 3, 1) := by decide +kernel
theorem dX8_feet_64 : decode cX8_feet 64 = .ok (.iastore, 1) := by decide +kernel
theorem dX8_feet_65 : decode cX8_feet 65 = .ok (.aload_n 0, 1) := by decide +kernel
theorem dX8_feet_66 : decode cX8_feet 66 = .ok (.getfield 35, 3) := by decide +kernel
theorem dX8_feet_69 : decode cX8_feet 69 = .ok (.bipush 6, 2) := by decide +kernel
theorem dX8_feet_71 : decode cX8_feet 71 = .ok (.iload_n 1, 1) := by decide +kernel
theorem dX8_feet_72 : decode cX8_feet 72 = .ok (.imul, 1) := by decide +kernel
theorem dX8_feet_73 : decode cX8_feet 73 = .ok (.iload_n 2, 1) := by decide +kernel
theorem dX8_feet_74 : decode cX8_feet 74 = .ok (.iadd, 1) := by decide +kernel
theorem dX8_feet_75 : decode cX8_feet 75 = .ok (.iload 4, 2) := by decide +kernel
theorem dX8_feet_77 : decode cX8_feet 77 = .ok (.iastore, 1) := by decide +kernel
theorem dX8_feet_78 : decode cX8_feet 78 = .ok (.iconst 1, 1) := by decide +kernel
theorem dX8_feet_79 : decode cX8_feet 79 = .ok (.ireturn, 1) := by decide +kernel
theorem dX8_overlap_0 : decode cX8_overlap 0 = .ok (.aload_n 0, 1) := by decide +kernel
theorem dX8_overlap_1 : decode cX8_overlap 1 = .ok (.iconst 0, 1) := by decide +kernel
theorem dX8_overlap_2 : decode cX8_overlap 2 = .ok (.putfield 63, 3) := by decide +kernel
theorem dX8_overlap_5 : decode cX8_overlap 5 = .ok (.iload_n 1, 1) := by decide +kernel
theorem dX8_overlap_6 : decode cX8_overlap 6 = .ok (.invokestatic 71, 3) := by decide +kernel
theorem dX8_overlap_9 : decode cX8_overlap 9 = .ok (.ifCond .eq 10, 3) := by decide +kernel
theorem dX8_overlap_12 : decode cX8_overlap 12 = .ok (.aload_n 0, 1) := by decide +kernel
theorem dX8_overlap_13 : decode cX8_overlap 13 = .ok (.invokevirtual 82, 3) := by decide +kernel
theorem dX8_overlap_16 : decode cX8_overlap 16 = .ok (.ifCond .ne 5, 3) := by decide +kernel
theorem dX8_overlap_19 : decode cX8_overlap 19 = .ok (.iconst (-1), 1) := by decide +kernel
theorem dX8_overlap_20 : decode cX8_overlap 20 = .ok (.ireturn, 1) := by decide +kernel
theorem dX8_overlap_21 : decode cX8_overlap 21 = .ok (.iconst 0, 1) := by decide +kernel
theorem dX8_overlap_22 : decode cX8_overlap 22 = .ok (.istore_n 2, 1) := by decide +kernel
theorem dX8_overlap_23 : decode cX8_overlap 23 = .ok (.iload_n 2, 1) := by decide +kernel
theorem dX8_overlap_24 : decode cX8_overlap 24 = .ok (.bipush 7, 2) := by decide +kernel
theorem dX8_overlap_26 : decode cX8_overlap 26 = .ok (.if_icmp .ge 76, 3) := by decide +kernel
theorem dX8_overlap_29 : decode cX8_overlap 29 = .ok (.getstatic 138, 3) := by decide +kernel
theorem dX8_overlap_32 : decode cX8_overlap 32 = .ok (.iload_n 2, 1) := by decide +kernel
theorem dX8_overlap_33 : decode cX8_overlap 33 = .ok (.iaload, 1) := by decide +kernel
theorem dX8_overlap_34 : decode cX8_overlap 34 = .ok (.ifCond .ne 16, 3) := by decide +kernel
theorem dX8_overlap_37 : decode cX8_overlap 37 = .ok (.aload_n 0, 1) := by decide +kernel
theorem dX8_overlap_38 : decode cX8_overlap 38 = .ok (.getfield 26, 3) := by decide +kernel
theorem dX8_overlap_41 : decode cX8_overlap 41 = .ok (.iconst 2, 1) := by decide +kernel
theorem dX8_overlap_42 : decode cX8_overlap 42 = .ok (.iaload, 1) := by decide +kernel
theorem dX8_overlap_43 : decode cX8_overlap 43 = .ok (.iload_n 1, 1) := by decide +kernel
theorem dX8_overlap_44 : decode cX8_overlap 44 = .ok (.if_icmp .ne 6, 3) := by decide +kernel
theorem dX8_overlap_47 : decode cX8_overlap 47 = .ok (.goto 49, 3) := by decide +kernel
theorem dX8_overlap_50 : decode cX8_overlap 50 = .ok (.iload_n 2, 1) := by decide +kernel
theorem dX8_overlap_51 : decode cX8_overlap 51 = .ok (.iconst 3, 1) := by decide +kernel
theorem dX8_overlap_52 : decode cX8_overlap 52 = .ok (.if_icmp .ge 10, 3) := by decide +kernel
theorem dX8_overlap_55 : decode cX8_overlap 55 = .ok (.aload_n 0, 1) := by decide +kernel
theorem dX8_overlap_56 : decode cX8_overlap 56 = .ok (.getfield 35, 3) := by decide +kernel
theorem dX8_overlap_59 : decode cX8_overlap 59 = .ok (.goto 7, 3) := by decide +kernel
theorem dX8_overlap_62 : decode cX8_overlap 62 = .ok (.aload_n 0, 1) := by decide +kernel
theorem dX8_overlap_63 : decode cX8_overlap 63 = .ok (.getfield 32, 3) := by decide +kernel
theorem dX8_overlap_66 : decode cX8_overlap 66 = .ok (.astore_n 3, 1) := by decide +kernel
theorem dX8_overlap_67 : decode cX8_overlap 67 = .ok (.aload_n 3, 1) := by decide +kernel
theorem dX8_overlap_68 : decode cX8_overlap 68 = .ok (.bipush 6, 2) := by decide +kernel
theorem dX8_overlap_70 : decode cX8_overlap 70 = .ok (.iload_n 1, 1) := by decide +kernel
theorem dX8_overlap_71 : decode cX8_overlap 71 = .ok (.imul, 1) := by decide +kernel
theorem dX8_overlap_72 : decode cX8_overlap 72 = .ok (.getstatic 141, 3) := by decide +kernel
theorem dX8_overlap_75 : decode cX8_overlap 75 = .ok (.iload_n 2, 1) := by decide +kernel
theorem dX8_overlap_76 : decode cX8_overlap 76 = .ok (.iaload, 1) := by decide +kernel
theorem dX8_overlap_77 : decode cX8_overlap 77 = .ok (.iadd, 1) := by decide +kernel
theorem dX8_overlap_78 : decode cX8_overlap 78 = .ok (.iaload, 1) := by decide +kernel
theorem dX8_overlap_79 : decode cX8_overlap 79 = .ok (.aload_n 3, 1) := by decide +kernel
theorem dX8_overlap_80 : decode cX8_overlap 80 = .ok (.bipush 6, 2) := by decide +kernel
theorem dX8_overlap_82 : decode cX8_overlap 82 = .ok (.iload_n 1, 1) := by decide +kernel
theorem dX8_overlap_83 : decode cX8_overlap 83 = .ok (.imul, 1) := by decide +kernel
theorem dX8_overlap_84 : decode cX8_overlap 84 = .ok (.getstatic 138, 3) := by decide +kernel
theorem dX8_overlap_87 : decode cX8_overlap 87 = .ok (.iload_n 2, 1) := by decide +kernel
theorem dX8_overlap_88 : decode cX8_overlap 88 = .ok (.iaload, 1) := by decide +kernel
theorem dX8_overlap_89 : decode cX8_overlap 89 = .ok (.iadd, 1) := by decide +kernel
theorem dX8_overlap_90 : decode cX8_overlap 90 = .ok (.iaload, 1) := by decide +kernel
theorem dX8_overlap_91 : decode cX8_overlap 91 = .ok (.if_icmp .lt 5, 3) := by decide +kernel
theorem dX8_overlap_94 : decode cX8_overlap 94 = .ok (.iload_n 2, 1) := by decide +kernel
theorem dX8_overlap_95 : decode cX8_overlap 95 = .ok (.ireturn, 1) := by decide +kernel
theorem dX8_overlap_96 : decode cX8_overlap 96 = .ok (.iinc 2 1, 3) := by decide +kernel
theorem dX8_overlap_99 : decode cX8_overlap 99 = .ok (.goto (-76), 3) := by decide +kernel
theorem dX8_overlap_102 : decode cX8_overlap 102 = .ok (.bipush (-2), 2) := by decide +kernel
theorem dX8_overlap_104 : decode cX8_overlap 104 = .ok (.ireturn, 1) := by decide +kernel
theorem dX8_sign_0 : decode cX8_sign 0 = .ok (.aload_n 0, 1) := by decide +kernel
theorem dX8_sign_1 : decode cX8_sign 1 = .ok (.iconst 0, 1) := by decide +kernel
theorem dX8_sign_2 : decode cX8_sign 2 = .ok (.putfield 63, 3) := by decide +kernel
theorem dX8_sign_5 : decode cX8_sign 5 = .ok (.aload_n 0, 1) := by decide +kernel
theorem dX8_sign_6 : decode cX8_sign 6 = .ok (.getfield 135, 3) := by decide +kernel
theorem dX8_sign_9 : decode cX8_sign 9 = .ok (.iconst 4, 1) := by decide +kernel
theorem dX8_sign_10 : decode cX8_sign 10 = .ok (.iadd, 1) := by decide +kernel
theorem dX8_sign_11 : decode cX8_sign 11 = .ok (.bipush 100, 2) := by decide +kernel
theorem dX8_sign_13 : decode cX8_sign 13 = .ok (.if_icmp .le 5, 3) := by decide +kernel
theorem dX8_sign_16 : decode cX8_sign 16 = .ok (.iconst (-1), 1) := by decide +kernel
theorem dX8_sign_17 : decode cX8_sign 17 = .ok (.ireturn, 1) := by decide +kernel
theorem dX8_sign_18 : decode cX8_sign 18 = .ok (.iconst 3, 1) := by decide +kernel
theorem dX8_sign_19 : decode cX8_sign 19 = .ok (.istore_n 2, 1) := by decide +kernel
theorem dX8_sign_20 : decode cX8_sign 20 = .ok (.iload_n 2, 1) := by decide +kernel
theorem dX8_sign_21 : decode cX8_sign 21 = .ok (.ifCond .lt 32, 3) := by decide +kernel
theorem dX8_sign_24 : decode cX8_sign 24 = .ok (.aload_n 0, 1) := by decide +kernel
theorem dX8_sign_25 : decode cX8_sign 25 = .ok (.getfield 38, 3) := by decide +kernel
theorem dX8_sign_28 : decode cX8_sign 28 = .ok (.aload_n 0, 1) := by decide +kernel
theorem dX8_sign_29 : decode cX8_sign 29 = .ok (.dup, 1) := by decide +kernel
theorem dX8_sign_30 : decode cX8_sign 30 = .ok (.getfield 135, 3) := by decide +kernel
theorem dX8_sign_33 : decode cX8_sign 33 = .ok (.dup_x1, 1) := by decide +kernel
theorem dX8_sign_34 : decode cX8_sign 34 = .ok (.iconst 1, 1) := by decide +kernel
theorem dX8_sign_35 : decode cX8_sign 35 = .ok (.iadd, 1) := by decide +kernel
theorem dX8_sign_36 : decode cX8_sign 36 = .ok (.putfield 135, 3) := by decide +kernel
theorem dX8_sign_39 : decode cX8_sign 39 = .ok (.iload_n 1, 1) := by decide +kernel
theorem dX8_sign_40 : decode cX8_sign 40 = .ok (.bipush 8, 2) := by decide +kernel
theorem dX8_sign_42 : decode cX8_sign 42 = .ok (.iload_n 2, 1) := by decide +kernel
theorem dX8_sign_43 : decode cX8_sign 43 = .ok (.imul, 1) := by decide +kernel
theorem dX8_sign_44 : decode cX8_sign 44 = .ok (.ishr, 1) := by decide +kernel
theorem dX8_sign_45 : decode cX8_sign 45 = .ok (.i2b, 1) := by decide +kernel
theorem dX8_sign_46 : decode cX8_sign 46 = .ok (.bastore, 1) := by decide +kernel
theorem dX8_sign_47 : decode cX8_sign 47 = .ok (.iinc 2 (-1), 3) := by decide +kernel
theorem dX8_sign_50 : decode cX8_sign 50 = .ok (.goto (-30), 3) := by decide +kernel
theorem dX8_sign_53 : decode cX8_sign 53 = .ok (.aload_n 0, 1) := by decide +kernel
theorem dX8_sign_54 : decode cX8_sign 54 = .ok (.getfield 135, 3) := by decide +kernel
theorem dX8_sign_57 : decode cX8_sign 57 = .ok (.ireturn, 1) := by decide +kernel
theorem dX8_end_0 : decode cX8_end 0 = .ok (.aload_n 0, 1) := by decide +kernel
theorem dX8_end_1 : decode cX8_end 1 = .ok (.iconst 0, 1) := by decide +kernel
theorem dX8_end_2 : decode cX8_end 2 = .ok (.putfield 63, 3) := by decide +kernel
theorem dX8_end_5 : decode cX8_end 5 = .ok (.iload_n 1, 1) := by decide +kernel
theorem dX8_end_6 : decode cX8_end 6 = .ok (.iconst 0, 1) := by decide +kernel
theorem dX8_end_7 : decode cX8_end 7 = .ok (.aload_n 0, 1) := by decide +kernel
theorem dX8_end_8 : decode cX8_end 8 = .ok (.getfield 135, 3) := by decide +kernel
theorem dX8_end_11 : decode cX8_end 11 = .ok (.invokestatic 67, 3) := by decide +kernel
theorem dX8_end_14 : decode cX8_end 14 = .ok (.ifCond .ne 5, 3) := by decide +kernel
theorem dX8_end_17 : decode cX8_end 17 = .ok (.iconst 0, 1) := by decide +kernel
theorem dX8_end_18 : decode cX8_end 18 = .ok (.ireturn, 1) := by decide +kernel
theorem dX8_end_19 : decode cX8_end 19 = .ok (.aload_n 0, 1) := by decide +kernel
theorem dX8_end_20 : decode cX8_end 20 = .ok (.iload_n 1, 1) := by decide +kernel
theorem dX8_end_21 : decode cX8_end 21 = .ok (.putfield 135, 3) := by decide +kernel
theorem dX8_end_24 : decode cX8_end 24 = .ok (.iconst 1, 1) := by decide +kernel
theorem dX8_end_25 : decode cX8_end 25 = .ok (.ireturn, 1) := by decide +kernel
theorem dX8_playerOf_0 : decode cX8_playerOf 0 = .ok (.iload_n 0, 1) := by decide +kernel
theorem dX8_playerOf_1 : decode cX8_playerOf 1 = .ok (.bipush 48, 2) := by decide +kernel
theorem dX8_playerOf_3 : decode cX8_playerOf 3 = .ok (.if_icmp .lt 16, 3) := by decide +kernel
theorem dX8_playerOf_6 : decode cX8_playerOf 6 = .ok (.iload_n 0, 1) := by decide +kernel
theorem dX8_playerOf_7 : decode cX8_playerOf 7 = .ok (.bipush 57, 2) := by decide +kernel
theorem dX8_playerOf_9 : decode cX8_playerOf 9 = .ok (.if_icmp .gt 10, 3) := by decide +kernel
theorem dX8_playerOf_12 : decode cX8_playerOf 12 = .ok (.iload_n 0, 1) := by decide +kernel
theorem dX8_playerOf_13 : decode cX8_playerOf 13 = .ok (.bipush 48, 2) := by decide +kernel
theorem dX8_playerOf_15 : decode cX8_playerOf 15 = .ok (.isub, 1) := by decide +kernel
theorem dX8_playerOf_16 : decode cX8_playerOf 16 = .ok (.goto 26, 3) := by decide +kernel
theorem dX8_playerOf_19 : decode cX8_playerOf 19 = .ok (.iload_n 0, 1) := by decide +kernel
theorem dX8_playerOf_20 : decode cX8_playerOf 20 = .ok (.bipush 120, 2) := by decide +kernel
theorem dX8_playerOf_22 : decode cX8_playerOf 22 = .ok (.if_icmp .ne 8, 3) := by decide +kernel
theorem dX8_playerOf_25 : decode cX8_playerOf 25 = .ok (.bipush 10, 2) := by decide +kernel
theorem dX8_playerOf_27 : decode cX8_playerOf 27 = .ok (.goto 15, 3) := by decide +kernel
theorem dX8_playerOf_30 : decode cX8_playerOf 30 = .ok (.iload_n 0, 1) := by decide +kernel
theorem dX8_playerOf_31 : decode cX8_playerOf 31 = .ok (.bipush 121, 2) := by decide +kernel
theorem dX8_playerOf_33 : decode cX8_playerOf 33 = .ok (.if_icmp .ne 8, 3) := by decide +kernel
theorem dX8_playerOf_36 : decode cX8_playerOf 36 = .ok (.bipush 11, 2) := by decide +kernel
theorem dX8_playerOf_38 : decode cX8_playerOf 38 = .ok (.goto 4, 3) := by decide +kernel
theorem dX8_playerOf_41 : decode cX8_playerOf 41 = .ok (.iconst (-1), 1) := by decide +kernel
theorem dX8_playerOf_42 : decode cX8_playerOf 42 = .ok (.ireturn, 1) := by decide +kernel
theorem dX8_reads_0 : decode cX8_reads 0 = .ok (.aload_n 0, 1) := by decide +kernel
theorem dX8_reads_1 : decode cX8_reads 1 = .ok (.getfield 38, 3) := by decide +kernel
theorem dX8_reads_4 : decode cX8_reads 4 = .ok (.iload_n 1, 1) := by decide +kernel
theorem dX8_reads_5 : decode cX8_reads 5 = .ok (.baload, 1) := by decide +kernel
theorem dX8_reads_6 : decode cX8_reads 6 = .ok (.istore_n 3, 1) := by decide +kernel
theorem dX8_reads_7 : decode cX8_reads 7 = .ok (.iload_n 3, 1) := by decide +kernel
theorem dX8_reads_8 : decode cX8_reads 8 = .ok (.bipush 65, 2) := by decide +kernel
theorem dX8_reads_10 : decode cX8_reads 10 = .ok (.if_icmp .eq 9, 3) := by decide +kernel
theorem dX8_reads_13 : decode cX8_reads 13 = .ok (.iload_n 3, 1) := by decide +kernel
theorem dX8_reads_14 : decode cX8_reads 14 = .ok (.bipush 66, 2) := by decide +kernel
theorem dX8_reads_16 : decode cX8_reads 16 = .ok (.if_icmp .ne 5, 3) := by decide +kernel
theorem dX8_reads_19 : decode cX8_reads 19 = .ok (.iconst 1, 1) := by decide +kernel
theorem dX8_reads_20 : decode cX8_reads 20 = .ok (.ireturn, 1) := by decide +kernel
theorem dX8_reads_21 : decode cX8_reads 21 = .ok (.iload_n 3, 1) := by decide +kernel
theorem dX8_reads_22 : decode cX8_reads 22 = .ok (.bipush 97, 2) := by decide +kernel
theorem dX8_reads_24 : decode cX8_reads 24 = .ok (.if_icmp .eq 13, 3) := by decide +kernel
theorem dX8_reads_27 : decode cX8_reads 27 = .ok (.iload_n 3, 1) := by decide +kernel
theorem dX8_reads_28 : decode cX8_reads 28 = .ok (.bipush 98, 2) := by decide +kernel
theorem dX8_reads_30 : decode cX8_reads 30 = .ok (.if_icmp .eq 7, 3) := by decide +kernel
theorem dX8_reads_33 : decode cX8_reads 33 = .ok (.iconst (-1), 1) := by decide +kernel
theorem dX8_reads_34 : decode cX8_reads 34 = .ok (.iload_n 1, 1) := by decide +kernel
theorem dX8_reads_35 : decode cX8_reads 35 = .ok (.isub, 1) := by decide +kernel
theorem dX8_reads_36 : decode cX8_reads 36 = .ok (.ireturn, 1) := by decide +kernel
theorem dX8_reads_37 : decode cX8_reads 37 = .ok (.iload_n 1, 1) := by decide +kernel
theorem dX8_reads_38 : decode cX8_reads 38 = .ok (.iconst 1, 1) := by decide +kernel
theorem dX8_reads_39 : decode cX8_reads 39 = .ok (.iadd, 1) := by decide +kernel
theorem dX8_reads_40 : decode cX8_reads 40 = .ok (.iload_n 2, 1) := by decide +kernel
theorem dX8_reads_41 : decode cX8_reads 41 = .ok (.if_icmp .ge 14, 3) := by decide +kernel
theorem dX8_reads_44 : decode cX8_reads 44 = .ok (.aload_n 0, 1) := by decide +kernel
theorem dX8_reads_45 : decode cX8_reads 45 = .ok (.getfield 38, 3) := by decide +kernel
theorem dX8_reads_48 : decode cX8_reads 48 = .ok (.iload_n 1, 1) := by decide +kernel
theorem dX8_reads_49 : decode cX8_reads 49 = .ok (.iconst 1, 1) := by decide +kernel
theorem dX8_reads_50 : decode cX8_reads 50 = .ok (.iadd, 1) := by decide +kernel
theorem dX8_reads_51 : decode cX8_reads 51 = .ok (.baload, 1) := by decide +kernel
theorem dX8_reads_52 : decode cX8_reads 52 = .ok (.goto 4, 3) := by decide +kernel
theorem dX8_reads_55 : decode cX8_reads 55 = .ok (.iconst (-1), 1) := by decide +kernel
theorem dX8_reads_56 : decode cX8_reads 56 = .ok (.istore 4, 2) := by decide +kernel
theorem dX8_reads_58 : decode cX8_reads 58 = .ok (.iload 4, 2) := by decide +kernel
theorem dX8_reads_60 : decode cX8_reads 60 = .ok (.bipush 33, 2) := by decide +kernel
theorem dX8_reads_62 : decode cX8_reads 62 = .ok (.if_icmp .eq 10, 3) := by decide +kernel
theorem dX8_reads_65 : decode cX8_reads 65 = .ok (.iload 4, 2) := by decide +kernel
theorem dX8_reads_67 : decode cX8_reads 67 = .ok (.bipush 45, 2) := by decide +kernel
theorem dX8_reads_69 : decode cX8_reads 69 = .ok (.if_icmp .ne 5, 3) := by decide +kernel
theorem dX8_reads_72 : decode cX8_reads 72 = .ok (.iconst 2, 1) := by decide +kernel
theorem dX8_reads_73 : decode cX8_reads 73 = .ok (.ireturn, 1) := by decide +kernel
theorem dX8_reads_74 : decode cX8_reads 74 = .ok (.iload 4, 2) := by decide +kernel
theorem dX8_reads_76 : decode cX8_reads 76 = .ok (.bipush 42, 2) := by decide +kernel
theorem dX8_reads_78 : decode cX8_reads 78 = .ok (.if_icmp .eq 17, 3) := by decide +kernel
theorem dX8_reads_81 : decode cX8_reads 81 = .ok (.iload 4, 2) := by decide +kernel
theorem dX8_reads_83 : decode cX8_reads 83 = .ok (.invokestatic 144, 3) := by decide +kernel
theorem dX8_reads_86 : decode cX8_reads 86 = .ok (.iconst (-1), 1) := by decide +kernel
theorem dX8_reads_87 : decode cX8_reads 87 = .ok (.if_icmp .ne 8, 3) := by decide +kernel
theorem dX8_reads_90 : decode cX8_reads 90 = .ok (.bipush (-2), 2) := by decide +kernel
theorem dX8_reads_92 : decode cX8_reads 92 = .ok (.iload_n 1, 1) := by decide +kernel
theorem dX8_reads_93 : decode cX8_reads 93 = .ok (.isub, 1) := by decide +kernel
theorem dX8_reads_94 : decode cX8_reads 94 = .ok (.ireturn, 1) := by decide +kernel
theorem dX8_reads_95 : decode cX8_reads 95 = .ok (.iload_n 1, 1) := by decide +kernel
theorem dX8_reads_96 : decode cX8_reads 96 = .ok (.iconst 2, 1) := by decide +kernel
theorem dX8_reads_97 : decode cX8_reads 97 = .ok (.iadd, 1) := by decide +kernel
theorem dX8_reads_98 : decode cX8_reads 98 = .ok (.iload_n 2, 1) := by decide +kernel
theorem dX8_reads_99 : decode cX8_reads 99 = .ok (.if_icmp .ge 14, 3) := by decide +kernel
theorem dX8_reads_102 : decode cX8_reads 102 = .ok (.aload_n 0, 1) := by decide +kernel
theorem dX8_reads_103 : decode cX8_reads 103 = .ok (.getfield 38, 3) := by decide +kernel
theorem dX8_reads_106 : decode cX8_reads 106 = .ok (.iload_n 1, 1) := by decide +kernel
theorem dX8_reads_107 : decode cX8_reads 107 = .ok (.iconst 2, 1) := by decide +kernel
theorem dX8_reads_108 : decode cX8_reads 108 = .ok (.iadd, 1) := by decide +kernel
theorem dX8_reads_109 : decode cX8_reads 109 = .ok (.baload, 1) := by decide +kernel
theorem dX8_reads_110 : decode cX8_reads 110 = .ok (.goto 4, 3) := by decide +kernel
theorem dX8_reads_113 : decode cX8_reads 113 = .ok (.iconst (-1), 1) := by decide +kernel
theorem dX8_reads_114 : decode cX8_reads 114 = .ok (.istore 5, 2) := by decide +kernel
theorem dX8_reads_116 : decode cX8_reads 116 = .ok (.iload 5, 2) := by decide +kernel
theorem dX8_reads_118 : decode cX8_reads 118 = .ok (.invokestatic 144, 3) := by decide +kernel
theorem dX8_reads_121 : decode cX8_reads 121 = .ok (.iconst (-1), 1) := by decide +kernel
theorem dX8_reads_122 : decode cX8_reads 122 = .ok (.if_icmp .ne 10, 3) := by decide +kernel
theorem dX8_reads_125 : decode cX8_reads 125 = .ok (.bipush (-3), 2) := by decide +kernel
theorem dX8_reads_127 : decode cX8_reads 127 = .ok (.iload_n 1, 1) := by decide +kernel
theorem dX8_reads_128 : decode cX8_reads 128 = .ok (.isub, 1) := by decide +kernel
theorem dX8_reads_129 : decode cX8_reads 129 = .ok (.goto 4, 3) := by decide +kernel
theorem dX8_reads_132 : decode cX8_reads 132 = .ok (.iconst 3, 1) := by decide +kernel
theorem dX8_reads_133 : decode cX8_reads 133 = .ok (.ireturn, 1) := by decide +kernel
theorem dX8_doItem_0 : decode cX8_doItem 0 = .ok (.aload_n 0, 1) := by decide +kernel
theorem dX8_doItem_1 : decode cX8_doItem 1 = .ok (.getfield 38, 3) := by decide +kernel
theorem dX8_doItem_4 : decode cX8_doItem 4 = .ok (.iload_n 1, 1) := by decide +kernel
theorem dX8_doItem_5 : decode cX8_doItem 5 = .ok (.baload, 1) := by decide +kernel
theorem dX8_doItem_6 : decode cX8_doItem 6 = .ok (.istore_n 2, 1) := by decide +kernel
theorem dX8_doItem_7 : decode cX8_doItem 7 = .ok (.aload_n 0, 1) := by decide +kernel
theorem dX8_doItem_8 : decode cX8_doItem 8 = .ok (.invokevirtual 82, 3) := by decide +kernel
theorem dX8_doItem_11 : decode cX8_doItem 11 = .ok (.ifCond .ne 5, 3) := by decide +kernel
theorem dX8_doItem_14 : decode cX8_doItem 14 = .ok (.iconst 0, 1) := by decide +kernel
theorem dX8_doItem_15 : decode cX8_doItem 15 = .ok (.ireturn, 1) := by decide +kernel
theorem dX8_doItem_16 : decode cX8_doItem 16 = .ok (.iload_n 2, 1) := by decide +kernel
theorem dX8_doItem_17 : decode cX8_doItem 17 = .ok (.bipush 65, 2) := by decide +kernel
theorem dX8_doItem_19 : decode cX8_doItem 19 = .ok (.if_icmp .eq 9, 3) := by decide +kernel
theorem dX8_doItem_22 : decode cX8_doItem 22 = .ok (.iload_n 2, 1) := by decide +kernel
theorem dX8_doItem_23 : decode cX8_doItem 23 = .ok (.bipush 66, 2) := by decide +kernel
theorem dX8_doItem_25 : decode cX8_doItem 25 = .ok (.if_icmp .ne 14, 3) := by decide +kernel
theorem dX8_doItem_28 : decode cX8_doItem 28 = .ok (.aload_n 0, 1) := by decide +kernel
theorem dX8_doItem_29 : decode cX8_doItem 29 = .ok (.iload_n 2, 1) := by decide +kernel
theorem dX8_doItem_30 : decode cX8_doItem 30 = .ok (.bipush 65, 2) := by decide +kernel
theorem dX8_doItem_32 : decode cX8_doItem 32 = .ok (.isub, 1) := by decide +kernel
theorem dX8_doItem_33 : decode cX8_doItem 33 = .ok (.invokevirtual 113, 3) := by decide +kernel
theorem dX8_doItem_36 : decode cX8_doItem 36 = .ok (.pop, 1) := by decide +kernel
theorem dX8_doItem_37 : decode cX8_doItem 37 = .ok (.iconst 1, 1) := by decide +kernel
theorem dX8_doItem_38 : decode cX8_doItem 38 = .ok (.ireturn, 1) := by decide +kernel
theorem dX8_doItem_39 : decode cX8_doItem 39 = .ok (.iload_n 2, 1) := by decide +kernel
theorem dX8_doItem_40 : decode cX8_doItem 40 = .ok (.bipush 97, 2) := by decide +kernel
theorem dX8_doItem_42 : decode cX8_doItem 42 = .ok (.isub, 1) := by decide +kernel
theorem dX8_doItem_43 : decode cX8_doItem 43 = .ok (.istore_n 3, 1) := by decide +kernel
theorem dX8_doItem_44 : decode cX8_doItem 44 = .ok (.aload_n 0, 1) := by decide +kernel
theorem dX8_doItem_45 : decode cX8_doItem 45 = .ok (.getfield 38, 3) := by decide +kernel
theorem dX8_doItem_48 : decode cX8_doItem 48 = .ok (.iload_n 1, 1) := by decide +kernel
theorem dX8_doItem_49 : decode cX8_doItem 49 = .ok (.iconst 1, 1) := by decide +kernel
theorem dX8_doItem_50 : decode cX8_doItem 50 = .ok (.iadd, 1) := by decide +kernel
theorem dX8_doItem_51 : decode cX8_doItem 51 = .ok (.baload, 1) := by decide +kernel
theorem dX8_doItem_52 : decode cX8_doItem 52 = .ok (.istore 4, 2) := by decide +kernel
theorem dX8_doItem_54 : decode cX8_doItem 54 = .ok (.iload 4, 2) := by decide +kernel
theorem dX8_doItem_56 : decode cX8_doItem 56 = .ok (.bipush 33, 2) := by decide +kernel
theorem dX8_doItem_58 : decode cX8_doItem 58 = .ok (.if_icmp .ne 18, 3) := by decide +kernel
theorem dX8_doItem_61 : decode cX8_doItem 61 = .ok (.aload_n 0, 1) := by decide +kernel
theorem dX8_doItem_62 : decode cX8_doItem 62 = .ok (.iload_n 3, 1) := by decide +kernel
theorem dX8_doItem_63 : decode cX8_doItem 63 = .ok (.invokevirtual 129, 3) := by decide +kernel
theorem dX8_doItem_66 : decode cX8_doItem 66 = .ok (.iconst (-1), 1) := by decide +kernel
theorem dX8_doItem_67 : decode cX8_doItem 67 = .ok (.if_icmp .eq 7, 3) := by decide +kernel
theorem dX8_doItem_70 : decode cX8_doItem 70 = .ok (.iconst 1, 1) := by decide +kernel
theorem dX8_doItem_71 : decode cX8_doItem 71 = .ok (.goto 4, 3) := by decide +kernel
theorem dX8_doItem_74 : decode cX8_doItem 74 = .ok (.iconst 0, 1) := by decide +kernel
theorem dX8_doItem_75 : decode cX8_doItem 75 = .ok (.ireturn, 1) := by decide +kernel
theorem dX8_doItem_76 : decode cX8_doItem 76 = .ok (.iload 4, 2) := by decide +kernel
theorem dX8_doItem_78 : decode cX8_doItem 78 = .ok (.bipush 45, 2) := by decide +kernel
theorem dX8_doItem_80 : decode cX8_doItem 80 = .ok (.if_icmp .ne 19, 3) := by decide +kernel
theorem dX8_doItem_83 : decode cX8_doItem 83 = .ok (.aload_n 0, 1) := by decide +kernel
theorem dX8_doItem_84 : decode cX8_doItem 84 = .ok (.iload_n 3, 1) := by decide +kernel
theorem dX8_doItem_85 : decode cX8_doItem 85 = .ok (.iconst (-1), 1) := by decide +kernel
theorem dX8_doItem_86 : decode cX8_doItem 86 = .ok (.invokevirtual 126, 3) := by decide +kernel
theorem dX8_doItem_89 : decode cX8_doItem 89 = .ok (.iconst (-1), 1) := by decide +kernel
theorem dX8_doItem_90 : decode cX8_doItem 90 = .ok (.if_icmp .eq 7, 3) := by decide +kernel
theorem dX8_doItem_93 : decode cX8_doItem 93 = .ok (.iconst 1, 1) := by decide +kernel
theorem dX8_doItem_94 : decode cX8_doItem 94 = .ok (.goto 4, 3) := by decide +kernel
theorem dX8_doItem_97 : decode cX8_doItem 97 = .ok (.iconst 0, 1) := by decide +kernel
theorem dX8_doItem_98 : decode cX8_doItem 98 = .ok (.ireturn, 1) := by decide +kernel
theorem dX8_doItem_99 : decode cX8_doItem 99 = .ok (.aload_n 0, 1) := by decide +kernel
theorem dX8_doItem_100 : decode cX8_doItem 100 = .ok (.getfield 38, 3) := by decide +kernel
theorem dX8_doItem_103 : decode cX8_doItem 103 = .ok (.iload_n 1, 1) := by decide +kernel
theorem dX8_doItem_104 : decode cX8_doItem 104 = .ok (.iconst 2, 1) := by decide +kernel
theorem dX8_doItem_105 : decode cX8_doItem 105 = .ok (.iadd, 1) := by decide +kernel
theorem dX8_doItem_106 : decode cX8_doItem 106 = .ok (.baload, 1) := by decide +kernel
theorem dX8_doItem_107 : decode cX8_doItem 107 = .ok (.invokestatic 144, 3) := by decide +kernel
theorem dX8_doItem_110 : decode cX8_doItem 110 = .ok (.istore 5, 2) := by decide +kernel
theorem dX8_doItem_112 : decode cX8_doItem 112 = .ok (.iload 4, 2) := by decide +kernel
theorem dX8_doItem_114 : decode cX8_doItem 114 = .ok (.bipush 42, 2) := by decide +kernel
theorem dX8_doItem_116 : decode cX8_doItem 116 = .ok (.if_icmp .ne 20, 3) := by decide +kernel
theorem dX8_doItem_119 : decode cX8_doItem 119 = .ok (.aload_n 0, 1) := by decide +kernel
theorem dX8_doItem_120 : decode cX8_doItem 120 = .ok (.iload_n 3, 1) := by decide +kernel
theorem dX8_doItem_121 : decode cX8_doItem 121 = .ok (.iload 5, 2) := by decide +kernel
theorem dX8_doItem_123 : decode cX8_doItem 123 = .ok (.invokevirtual 126, 3) := by decide +kernel
theorem dX8_doItem_126 : decode cX8_doItem 126 = .ok (.iconst (-1), 1) := by decide +kernel
theorem dX8_doItem_127 : decode cX8_doItem 127 = .ok (.if_icmp .eq 7, 3) := by decide +kernel
theorem dX8_doItem_130 : decode cX8_doItem 130 = .ok (.iconst 1, 1) := by decide +kernel
theorem dX8_doItem_131 : decode cX8_doItem 131 = .ok (.goto 4, 3) := by decide +kernel
theorem dX8_doItem_134 : decode cX8_doItem 134 = .ok (.iconst 0, 1) := by decide +kernel
theorem dX8_doItem_135 : decode cX8_doItem 135 = .ok (.ireturn, 1) := by decide +kernel
theorem dX8_doItem_136 : decode cX8_doItem 136 = .ok (.aload_n 0, 1) := by decide +kernel
theorem dX8_doItem_137 : decode cX8_doItem 137 = .ok (.iload_n 3, 1) := by decide +kernel
theorem dX8_doItem_138 : decode cX8_doItem 138 = .ok (.iload 4, 2) := by decide +kernel
theorem dX8_doItem_140 : decode cX8_doItem 140 = .ok (.invokestatic 144, 3) := by decide +kernel
theorem dX8_doItem_143 : decode cX8_doItem 143 = .ok (.iload 5, 2) := by decide +kernel
theorem dX8_doItem_145 : decode cX8_doItem 145 = .ok (.invokevirtual 120, 3) := by decide +kernel
theorem dX8_doItem_148 : decode cX8_doItem 148 = .ok (.ifCond .eq 5, 3) := by decide +kernel
theorem dX8_doItem_151 : decode cX8_doItem 151 = .ok (.iconst 0, 1) := by decide +kernel
theorem dX8_doItem_152 : decode cX8_doItem 152 = .ok (.ireturn, 1) := by decide +kernel
theorem dX8_doItem_153 : decode cX8_doItem 153 = .ok (.aload_n 0, 1) := by decide +kernel
theorem dX8_doItem_154 : decode cX8_doItem 154 = .ok (.iload_n 3, 1) := by decide +kernel
theorem dX8_doItem_155 : decode cX8_doItem 155 = .ok (.iload 4, 2) := by decide +kernel
theorem dX8_doItem_157 : decode cX8_doItem 157 = .ok (.invokestatic 144, 3) := by decide +kernel
theorem dX8_doItem_160 : decode cX8_doItem 160 = .ok (.iload 5, 2) := by decide +kernel
theorem dX8_doItem_162 : decode cX8_doItem 162 = .ok (.invokevirtual 123, 3) := by decide +kernel
theorem dX8_doItem_165 : decode cX8_doItem 165 = .ok (.pop, 1) := by decide +kernel
theorem dX8_doItem_166 : decode cX8_doItem 166 = .ok (.iconst 1, 1) := by decide +kernel
theorem dX8_doItem_167 : decode cX8_doItem 167 = .ok (.ireturn, 1) := by decide +kernel
theorem dX8_sheet_0 : decode cX8_sheet 0 = .ok (.aload_n 0, 1) := by decide +kernel
theorem dX8_sheet_1 : decode cX8_sheet 1 = .ok (.iconst 0, 1) := by decide +kernel
theorem dX8_sheet_2 : decode cX8_sheet 2 = .ok (.putfield 63, 3) := by decide +kernel
theorem dX8_sheet_5 : decode cX8_sheet 5 = .ok (.aload_n 0, 1) := by decide +kernel
theorem dX8_sheet_6 : decode cX8_sheet 6 = .ok (.getfield 135, 3) := by decide +kernel
theorem dX8_sheet_9 : decode cX8_sheet 9 = .ok (.istore_n 1, 1) := by decide +kernel
theorem dX8_sheet_10 : decode cX8_sheet 10 = .ok (.aload_n 0, 1) := by decide +kernel
theorem dX8_sheet_11 : decode cX8_sheet 11 = .ok (.iconst 0, 1) := by decide +kernel
theorem dX8_sheet_12 : decode cX8_sheet 12 = .ok (.putfield 135, 3) := by decide +kernel
theorem dX8_sheet_15 : decode cX8_sheet 15 = .ok (.aload_n 0, 1) := by decide +kernel
theorem dX8_sheet_16 : decode cX8_sheet 16 = .ok (.invokevirtual 82, 3) := by decide +kernel
theorem dX8_sheet_19 : decode cX8_sheet 19 = .ok (.ifCond .ne 6, 3) := by decide +kernel
theorem dX8_sheet_22 : decode cX8_sheet 22 = .ok (.bipush (-100), 2) := by decide +kernel
theorem dX8_sheet_24 : decode cX8_sheet 24 = .ok (.ireturn, 1) := by decide +kernel
theorem dX8_sheet_25 : decode cX8_sheet 25 = .ok (.iload_n 1, 1) := by decide +kernel
theorem dX8_sheet_26 : decode cX8_sheet 26 = .ok (.bipush 80, 2) := by decide +kernel
theorem dX8_sheet_28 : decode cX8_sheet 28 = .ok (.invokestatic 147, 3) := by decide +kernel
theorem dX8_sheet_31 : decode cX8_sheet 31 = .ok (.istore_n 2, 1) := by decide +kernel
theorem dX8_sheet_32 : decode cX8_sheet 32 = .ok (.iconst 0, 1) := by decide +kernel
theorem dX8_sheet_33 : decode cX8_sheet 33 = .ok (.istore_n 3, 1) := by decide +kernel
theorem dX8_sheet_34 : decode cX8_sheet 34 = .ok (.iload_n 3, 1) := by decide +kernel
theorem dX8_sheet_35 : decode cX8_sheet 35 = .ok (.iload_n 2, 1) := by decide +kernel
theorem dX8_sheet_36 : decode cX8_sheet 36 = .ok (.if_icmp .ge 27, 3) := by decide +kernel
theorem dX8_sheet_39 : decode cX8_sheet 39 = .ok (.aload_n 0, 1) := by decide +kernel
theorem dX8_sheet_40 : decode cX8_sheet 40 = .ok (.iload_n 3, 1) := by decide +kernel
theorem dX8_sheet_41 : decode cX8_sheet 41 = .ok (.iload_n 2, 1) := by decide +kernel
theorem dX8_sheet_42 : decode cX8_sheet 42 = .ok (.invokevirtual 152, 3) := by decide +kernel
theorem dX8_sheet_45 : decode cX8_sheet 45 = .ok (.istore 4, 2) := by decide +kernel
theorem dX8_sheet_47 : decode cX8_sheet 47 = .ok (.iload 4, 2) := by decide +kernel
theorem dX8_sheet_49 : decode cX8_sheet 49 = .ok (.ifCond .ge 6, 3) := by decide +kernel
theorem dX8_sheet_52 : decode cX8_sheet 52 = .ok (.iload 4, 2) := by decide +kernel
theorem dX8_sheet_54 : decode cX8_sheet 54 = .ok (.ireturn, 1) := by decide +kernel
theorem dX8_sheet_55 : decode cX8_sheet 55 = .ok (.iload_n 3, 1) := by decide +kernel
theorem dX8_sheet_56 : decode cX8_sheet 56 = .ok (.iload 4, 2) := by decide +kernel
theorem dX8_sheet_58 : decode cX8_sheet 58 = .ok (.iadd, 1) := by decide +kernel
theorem dX8_sheet_59 : decode cX8_sheet 59 = .ok (.istore_n 3, 1) := by decide +kernel
theorem dX8_sheet_60 : decode cX8_sheet 60 = .ok (.goto (-26), 3) := by decide +kernel
theorem dX8_sheet_63 : decode cX8_sheet 63 = .ok (.iload_n 1, 1) := by decide +kernel
theorem dX8_sheet_64 : decode cX8_sheet 64 = .ok (.bipush 80, 2) := by decide +kernel
theorem dX8_sheet_66 : decode cX8_sheet 66 = .ok (.if_icmp .le 6, 3) := by decide +kernel
theorem dX8_sheet_69 : decode cX8_sheet 69 = .ok (.bipush (-81), 2) := by decide +kernel
theorem dX8_sheet_71 : decode cX8_sheet 71 = .ok (.ireturn, 1) := by decide +kernel
theorem dX8_sheet_72 : decode cX8_sheet 72 = .ok (.aload_n 0, 1) := by decide +kernel
theorem dX8_sheet_73 : decode cX8_sheet 73 = .ok (.invokevirtual 155, 3) := by decide +kernel
theorem dX8_sheet_76 : decode cX8_sheet 76 = .ok (.iconst 0, 1) := by decide +kernel
theorem dX8_sheet_77 : decode cX8_sheet 77 = .ok (.istore_n 3, 1) := by decide +kernel
theorem dX8_sheet_78 : decode cX8_sheet 78 = .ok (.iconst 0, 1) := by decide +kernel
theorem dX8_sheet_79 : decode cX8_sheet 79 = .ok (.istore 4, 2) := by decide +kernel
theorem dX8_sheet_81 : decode cX8_sheet 81 = .ok (.iload 4, 2) := by decide +kernel
theorem dX8_sheet_83 : decode cX8_sheet 83 = .ok (.iload_n 1, 1) := by decide +kernel
theorem dX8_sheet_84 : decode cX8_sheet 84 = .ok (.if_icmp .ge 41, 3) := by decide +kernel
theorem dX8_sheet_87 : decode cX8_sheet 87 = .ok (.aload_n 0, 1) := by decide +kernel
theorem dX8_sheet_88 : decode cX8_sheet 88 = .ok (.iload 4, 2) := by decide +kernel
theorem dX8_sheet_90 : decode cX8_sheet 90 = .ok (.invokevirtual 158, 3) := by decide +kernel
theorem dX8_sheet_93 : decode cX8_sheet 93 = .ok (.ifCond .ne 14, 3) := by decide +kernel
theorem dX8_sheet_96 : decode cX8_sheet 96 = .ok (.aload_n 0, 1) := by decide +kernel
theorem dX8_sheet_97 : decode cX8_sheet 97 = .ok (.invokevirtual 161, 3) := by decide +kernel
theorem dX8_sheet_100 : decode cX8_sheet 100 = .ok (.sipush (-1001), 3) := by decide +kernel
theorem dX8_sheet_103 : decode cX8_sheet 103 = .ok (.iload 4, 2) := by decide +kernel
theorem dX8_sheet_105 : decode cX8_sheet 105 = .ok (.isub, 1) := by decide +kernel
theorem dX8_sheet_106 : decode cX8_sheet 106 = .ok (.ireturn, 1) := by decide +kernel
theorem dX8_sheet_107 : decode cX8_sheet 107 = .ok (.iinc 3 1, 3) := by decide +kernel
theorem dX8_sheet_110 : decode cX8_sheet 110 = .ok (.iload 4, 2) := by decide +kernel
theorem dX8_sheet_112 : decode cX8_sheet 112 = .ok (.aload_n 0, 1) := by decide +kernel
theorem dX8_sheet_113 : decode cX8_sheet 113 = .ok (.iload 4, 2) := by decide +kernel
theorem dX8_sheet_115 : decode cX8_sheet 115 = .ok (.iload_n 1, 1) := by decide +kernel
theorem dX8_sheet_116 : decode cX8_sheet 116 = .ok (.invokevirtual 152, 3) := by decide +kernel
theorem dX8_sheet_119 : decode cX8_sheet 119 = .ok (.iadd, 1) := by decide +kernel
theorem dX8_sheet_120 : decode cX8_sheet 120 = .ok (.istore 4, 2) := by decide +kernel
theorem dX8_sheet_122 : decode cX8_sheet 122 = .ok (.goto (-41), 3) := by decide +kernel
theorem dX8_sheet_125 : decode cX8_sheet 125 = .ok (.iload_n 3, 1) := by decide +kernel
theorem dX8_sheet_126 : decode cX8_sheet 126 = .ok (.ireturn, 1) := by decide +kernel
theorem dX8_putAside_0 : decode cX8_putAside 0 = .ok (.iconst 0, 1) := by decide +kernel
theorem dX8_putAside_1 : decode cX8_putAside 1 = .ok (.istore_n 1, 1) := by decide +kernel
theorem dX8_putAside_2 : decode cX8_putAside 2 = .ok (.iload_n 1, 1) := by decide +kernel
theorem dX8_putAside_3 : decode cX8_putAside 3 = .ok (.bipush 106, 2) := by decide +kernel
theorem dX8_putAside_5 : decode cX8_putAside 5 = .ok (.if_icmp .ge 21, 3) := by decide +kernel
theorem dX8_putAside_8 : decode cX8_putAside 8 = .ok (.aload_n 0, 1) := by decide +kernel
theorem dX8_putAside_9 : decode cX8_putAside 9 = .ok (.getfield 29, 3) := by decide +kernel
theorem dX8_putAside_12 : decode cX8_putAside 12 = .ok (.iload_n 1, 1) := by decide +kernel
theorem dX8_putAside_13 : decode cX8_putAside 13 = .ok (.aload_n 0, 1) := by decide +kernel
theorem dX8_putAside_14 : decode cX8_putAside 14 = .ok (.getfield 26, 3) := by decide +kernel
theorem dX8_putAside_17 : decode cX8_putAside 17 = .ok (.iload_n 1, 1) := by decide +kernel
theorem dX8_putAside_18 : decode cX8_putAside 18 = .ok (.iaload, 1) := by decide +kernel
theorem dX8_putAside_19 : decode cX8_putAside 19 = .ok (.iastore, 1) := by decide +kernel
theorem dX8_putAside_20 : decode cX8_putAside 20 = .ok (.iinc 1 1, 3) := by decide +kernel
theorem dX8_putAside_23 : decode cX8_putAside 23 = .ok (.goto (-21), 3) := by decide +kernel
theorem dX8_putAside_26 : decode cX8_putAside 26 = .ok (.return_, 1) := by decide +kernel
theorem dX8_putBack_0 : decode cX8_putBack 0 = .ok (.iconst 0, 1) := by decide +kernel
theorem dX8_putBack_1 : decode cX8_putBack 1 = .ok (.istore_n 1, 1) := by decide +kernel
theorem dX8_putBack_2 : decode cX8_putBack 2 = .ok (.iload_n 1, 1) := by decide +kernel
theorem dX8_putBack_3 : decode cX8_putBack 3 = .ok (.bipush 106, 2) := by decide +kernel
theorem dX8_putBack_5 : decode cX8_putBack 5 = .ok (.if_icmp .ge 21, 3) := by decide +kernel
theorem dX8_putBack_8 : decode cX8_putBack 8 = .ok (.aload_n 0, 1) := by decide +kernel
theorem dX8_putBack_9 : decode cX8_putBack 9 = .ok (.getfield 26, 3) := by decide +kernel
theorem dX8_putBack_12 : decode cX8_putBack 12 = .ok (.iload_n 1, 1) := by decide +kernel
theorem dX8_putBack_13 : decode cX8_putBack 13 = .ok (.aload_n 0, 1) := by decide +kernel
theorem dX8_putBack_14 : decode cX8_putBack 14 = .ok (.getfield 29, 3) := by decide +kernel
theorem dX8_putBack_17 : decode cX8_putBack 17 = .ok (.iload_n 1, 1) := by decide +kernel
theorem dX8_putBack_18 : decode cX8_putBack 18 = .ok (.iaload, 1) := by decide +kernel
theorem dX8_putBack_19 : decode cX8_putBack 19 = .ok (.iastore, 1) := by decide +kernel
theorem dX8_putBack_20 : decode cX8_putBack 20 = .ok (.iinc 1 1, 3) := by decide +kernel
theorem dX8_putBack_23 : decode cX8_putBack 23 = .ok (.goto (-21), 3) := by decide +kernel
theorem dX8_putBack_26 : decode cX8_putBack 26 = .ok (.return_, 1) := by decide +kernel
theorem dX8_countNow_0 : decode cX8_countNow 0 = .ok (.iconst 0, 1) := by decide +kernel
theorem dX8_countNow_1 : decode cX8_countNow 1 = .ok (.istore_n 1, 1) := by decide +kernel
theorem dX8_countNow_2 : decode cX8_countNow 2 = .ok (.iload_n 1, 1) := by decide +kernel
theorem dX8_countNow_3 : decode cX8_countNow 3 = .ok (.iconst 2, 1) := by decide +kernel
theorem dX8_countNow_4 : decode cX8_countNow 4 = .ok (.if_icmp .ge 74, 3) := by decide +kernel
theorem dX8_countNow_7 : decode cX8_countNow 7 = .ok (.iconst 0, 1) := by decide +kernel
theorem dX8_countNow_8 : decode cX8_countNow 8 = .ok (.istore_n 2, 1) := by decide +kernel
theorem dX8_countNow_9 : decode cX8_countNow 9 = .ok (.iload_n 2, 1) := by decide +kernel
theorem dX8_countNow_10 : decode cX8_countNow 10 = .ok (.bipush 6, 2) := by decide +kernel
theorem dX8_countNow_12 : decode cX8_countNow 12 = .ok (.if_icmp .ge 60, 3) := by decide +kernel
theorem dX8_countNow_15 : decode cX8_countNow 15 = .ok (.aload_n 0, 1) := by decide +kernel
theorem dX8_countNow_16 : decode cX8_countNow 16 = .ok (.iload_n 1, 1) := by decide +kernel
theorem dX8_countNow_17 : decode cX8_countNow 17 = .ok (.bipush 8, 2) := by decide +kernel
theorem dX8_countNow_19 : decode cX8_countNow 19 = .ok (.iload_n 2, 1) := by decide +kernel
theorem dX8_countNow_20 : decode cX8_countNow 20 = .ok (.iadd, 1) := by decide +kernel
theorem dX8_countNow_21 : decode cX8_countNow 21 = .ok (.invokevirtual 95, 3) := by decide +kernel
theorem dX8_countNow_24 : decode cX8_countNow 24 = .ok (.istore_n 3, 1) := by decide +kernel
theorem dX8_countNow_25 : decode cX8_countNow 25 = .ok (.aload_n 0, 1) := by decide +kernel
theorem dX8_countNow_26 : decode cX8_countNow 26 = .ok (.getfield 45, 3) := by decide +kernel
theorem dX8_countNow_29 : decode cX8_countNow 29 = .ok (.bipush 6, 2) := by decide +kernel
theorem dX8_countNow_31 : decode cX8_countNow 31 = .ok (.iload_n 1, 1) := by decide +kernel
theorem dX8_countNow_32 : decode cX8_countNow 32 = .ok (.imul, 1) := by decide +kernel
theorem dX8_countNow_33 : decode cX8_countNow 33 = .ok (.iload_n 2, 1) := by decide +kernel
theorem dX8_countNow_34 : decode cX8_countNow 34 = .ok (.iadd, 1) := by decide +kernel
theorem dX8_countNow_35 : decode cX8_countNow 35 = .ok (.aload_n 0, 1) := by decide +kernel
theorem dX8_countNow_36 : decode cX8_countNow 36 = .ok (.iload_n 1, 1) := by decide +kernel
theorem dX8_countNow_37 : decode cX8_countNow 37 = .ok (.iconst 4, 1) := by decide +kernel
theorem dX8_countNow_38 : decode cX8_countNow 38 = .ok (.invokevirtual 95, 3) := by decide +kernel
theorem dX8_countNow_41 : decode cX8_countNow 41 = .ok (.iconst (-1), 1) := by decide +kernel
theorem dX8_countNow_42 : decode cX8_countNow 42 = .ok (.if_icmp .eq 22, 3) := by decide +kernel
theorem dX8_countNow_45 : decode cX8_countNow 45 = .ok (.iload_n 3, 1) := by decide +kernel
theorem dX8_countNow_46 : decode cX8_countNow 46 = .ok (.aload_n 0, 1) := by decide +kernel
theorem dX8_countNow_47 : decode cX8_countNow 47 = .ok (.getfield 13, 3) := by decide +kernel
theorem dX8_countNow_50 : decode cX8_countNow 50 = .ok (.iload_n 1, 1) := by decide +kernel
theorem dX8_countNow_51 : decode cX8_countNow 51 = .ok (.iaload, 1) := by decide +kernel
theorem dX8_countNow_52 : decode cX8_countNow 52 = .ok (.if_icmp .ne 12, 3) := by decide +kernel
theorem dX8_countNow_55 : decode cX8_countNow 55 = .ok (.aload_n 0, 1) := by decide +kernel
theorem dX8_countNow_56 : decode cX8_countNow 56 = .ok (.iload_n 1, 1) := by decide +kernel
theorem dX8_countNow_57 : decode cX8_countNow 57 = .ok (.iconst 4, 1) := by decide +kernel
theorem dX8_countNow_58 : decode cX8_countNow 58 = .ok (.invokevirtual 95, 3) := by decide +kernel
theorem dX8_countNow_61 : decode cX8_countNow 61 = .ok (.goto 4, 3) := by decide +kernel
theorem dX8_countNow_64 : decode cX8_countNow 64 = .ok (.iload_n 3, 1) := by decide +kernel
theorem dX8_countNow_65 : decode cX8_countNow 65 = .ok (.iastore, 1) := by decide +kernel
theorem dX8_countNow_66 : decode cX8_countNow 66 = .ok (.iinc 2 1, 3) := by decide +kernel
theorem dX8_countNow_69 : decode cX8_countNow 69 = .ok (.goto (-60), 3) := by decide +kernel
theorem dX8_countNow_72 : decode cX8_countNow 72 = .ok (.iinc 1 1, 3) := by decide +kernel
theorem dX8_countNow_75 : decode cX8_countNow 75 = .ok (.goto (-73), 3) := by decide +kernel
theorem dX8_countNow_78 : decode cX8_countNow 78 = .ok (.return_, 1) := by decide +kernel
theorem dX8_later_0 : decode cX8_later 0 = .ok (.aload_n 0, 1) := by decide +kernel
theorem dX8_later_1 : decode cX8_later 1 = .ok (.getfield 45, 3) := by decide +kernel
theorem dX8_later_4 : decode cX8_later 4 = .ok (.bipush 6, 2) := by decide +kernel
theorem dX8_later_6 : decode cX8_later 6 = .ok (.iload_n 1, 1) := by decide +kernel
theorem dX8_later_7 : decode cX8_later 7 = .ok (.imul, 1) := by decide +kernel
theorem dX8_later_8 : decode cX8_later 8 = .ok (.iload_n 2, 1) := by decide +kernel
theorem dX8_later_9 : decode cX8_later 9 = .ok (.iload_n 3, 1) := by decide +kernel
theorem dX8_later_10 : decode cX8_later 10 = .ok (.iadd, 1) := by decide +kernel
theorem dX8_later_11 : decode cX8_later 11 = .ok (.bipush 6, 2) := by decide +kernel
theorem dX8_later_13 : decode cX8_later 13 = .ok (.irem, 1) := by decide +kernel
theorem dX8_later_14 : decode cX8_later 14 = .ok (.iadd, 1) := by decide +kernel
theorem dX8_later_15 : decode cX8_later 15 = .ok (.iaload, 1) := by decide +kernel
theorem dX8_later_16 : decode cX8_later 16 = .ok (.ireturn, 1) := by decide +kernel
theorem dX8_sum_0 : decode cX8_sum 0 = .ok (.aload_n 0, 1) := by decide +kernel
theorem dX8_sum_1 : decode cX8_sum 1 = .ok (.iload_n 1, 1) := by decide +kernel
theorem dX8_sum_2 : decode cX8_sum 2 = .ok (.aload_n 0, 1) := by decide +kernel
theorem dX8_sum_3 : decode cX8_sum 3 = .ok (.iload_n 1, 1) := by decide +kernel
theorem dX8_sum_4 : decode cX8_sum 4 = .ok (.iload 4, 2) := by decide +kernel
theorem dX8_sum_6 : decode cX8_sum 6 = .ok (.iload_n 2, 1) := by decide +kernel
theorem dX8_sum_7 : decode cX8_sum 7 = .ok (.invokevirtual 164, 3) := by decide +kernel
theorem dX8_sum_10 : decode cX8_sum 10 = .ok (.iload_n 3, 1) := by decide +kernel
theorem dX8_sum_11 : decode cX8_sum 11 = .ok (.invokevirtual 78, 3) := by decide +kernel
theorem dX8_sum_14 : decode cX8_sum 14 = .ok (.aload_n 0, 1) := by decide +kernel
theorem dX8_sum_15 : decode cX8_sum 15 = .ok (.iload_n 1, 1) := by decide +kernel
theorem dX8_sum_16 : decode cX8_sum 16 = .ok (.aload_n 0, 1) := by decide +kernel
theorem dX8_sum_17 : decode cX8_sum 17 = .ok (.iload_n 1, 1) := by decide +kernel
theorem dX8_sum_18 : decode cX8_sum 18 = .ok (.iload 5, 2) := by decide +kernel
theorem dX8_sum_20 : decode cX8_sum 20 = .ok (.iload_n 2, 1) := by decide +kernel
theorem dX8_sum_21 : decode cX8_sum 21 = .ok (.invokevirtual 164, 3) := by decide +kernel
theorem dX8_sum_24 : decode cX8_sum 24 = .ok (.iload_n 3, 1) := by decide +kernel
theorem dX8_sum_25 : decode cX8_sum 25 = .ok (.invokevirtual 78, 3) := by decide +kernel
theorem dX8_sum_28 : decode cX8_sum 28 = .ok (.iadd, 1) := by decide +kernel
theorem dX8_sum_29 : decode cX8_sum 29 = .ok (.aload_n 0, 1) := by decide +kernel
theorem dX8_sum_30 : decode cX8_sum 30 = .ok (.iload_n 1, 1) := by decide +kernel
theorem dX8_sum_31 : decode cX8_sum 31 = .ok (.aload_n 0, 1) := by decide +kernel
theorem dX8_sum_32 : decode cX8_sum 32 = .ok (.iload_n 1, 1) := by decide +kernel
theorem dX8_sum_33 : decode cX8_sum 33 = .ok (.iload 6, 2) := by decide +kernel
theorem dX8_sum_35 : decode cX8_sum 35 = .ok (.iload_n 2, 1) := by decide +kernel
theorem dX8_sum_36 : decode cX8_sum 36 = .ok (.invokevirtual 164, 3) := by decide +kernel
theorem dX8_sum_39 : decode cX8_sum 39 = .ok (.iload_n 3, 1) := by decide +kernel
theorem dX8_sum_40 : decode cX8_sum 40 = .ok (.invokevirtual 78, 3) := by decide +kernel
theorem dX8_sum_43 : decode cX8_sum 43 = .ok (.iadd, 1) := by decide +kernel
theorem dX8_sum_44 : decode cX8_sum 44 = .ok (.ireturn, 1) := by decide +kernel
theorem dX8_oddsOf_0 : decode cX8_oddsOf 0 = .ok (.iload_n 3, 1) := by decide +kernel
theorem dX8_oddsOf_1 : decode cX8_oddsOf 1 = .ok (.ifCond .ne 7, 3) := by decide +kernel
theorem dX8_oddsOf_4 : decode cX8_oddsOf 4 = .ok (.iload_n 1, 1) := by decide +kernel
theorem dX8_oddsOf_5 : decode cX8_oddsOf 5 = .ok (.goto 4, 3) := by decide +kernel
theorem dX8_oddsOf_8 : decode cX8_oddsOf 8 = .ok (.iload_n 2, 1) := by decide +kernel
theorem dX8_oddsOf_9 : decode cX8_oddsOf 9 = .ok (.istore 4, 2) := by decide +kernel
theorem dX8_oddsOf_11 : decode cX8_oddsOf 11 = .ok (.iload_n 3, 1) := by decide +kernel
theorem dX8_oddsOf_12 : decode cX8_oddsOf 12 = .ok (.ifCond .ne 7, 3) := by decide +kernel
theorem dX8_oddsOf_15 : decode cX8_oddsOf 15 = .ok (.iload_n 2, 1) := by decide +kernel
theorem dX8_oddsOf_16 : decode cX8_oddsOf 16 = .ok (.goto 4, 3) := by decide +kernel
theorem dX8_oddsOf_19 : decode cX8_oddsOf 19 = .ok (.iload_n 1, 1) := by decide +kernel
theorem dX8_oddsOf_20 : decode cX8_oddsOf 20 = .ok (.istore 5, 2) := by decide +kernel
theorem dX8_oddsOf_22 : decode cX8_oddsOf 22 = .ok (.sipush 380, 3) := by decide +kernel
theorem dX8_oddsOf_25 : decode cX8_oddsOf 25 = .ok (.aload_n 0, 1) := by decide +kernel
theorem dX8_oddsOf_26 : decode cX8_oddsOf 26 = .ok (.iload_n 3, 1) := by decide +kernel
theorem dX8_oddsOf_27 : decode cX8_oddsOf 27 = .ok (.aload_n 0, 1) := by decide +kernel
theorem dX8_oddsOf_28 : decode cX8_oddsOf 28 = .ok (.iload_n 3, 1) := by decide +kernel
theorem dX8_oddsOf_29 : decode cX8_oddsOf 29 = .ok (.iconst 0, 1) := by decide +kernel
theorem dX8_oddsOf_30 : decode cX8_oddsOf 30 = .ok (.iload 4, 2) := by decide +kernel
theorem dX8_oddsOf_32 : decode cX8_oddsOf 32 = .ok (.invokevirtual 164, 3) := by decide +kernel
theorem dX8_oddsOf_35 : decode cX8_oddsOf 35 = .ok (.iconst 0, 1) := by decide +kernel
theorem dX8_oddsOf_36 : decode cX8_oddsOf 36 = .ok (.invokevirtual 78, 3) := by decide +kernel
theorem dX8_oddsOf_39 : decode cX8_oddsOf 39 = .ok (.iadd, 1) := by decide +kernel
theorem dX8_oddsOf_40 : decode cX8_oddsOf 40 = .ok (.aload_n 0, 1) := by decide +kernel
theorem dX8_oddsOf_41 : decode cX8_oddsOf 41 = .ok (.iconst 1, 1) := by decide +kernel
theorem dX8_oddsOf_42 : decode cX8_oddsOf 42 = .ok (.iload_n 3, 1) := by decide +kernel
theorem dX8_oddsOf_43 : decode cX8_oddsOf 43 = .ok (.isub, 1) := by decide +kernel
theorem dX8_oddsOf_44 : decode cX8_oddsOf 44 = .ok (.iload 5, 2) := by decide +kernel
theorem dX8_oddsOf_46 : decode cX8_oddsOf 46 = .ok (.iconst 1, 1) := by decide +kernel
theorem dX8_oddsOf_47 : decode cX8_oddsOf 47 = .ok (.iconst 0, 1) := by decide +kernel
theorem dX8_oddsOf_48 : decode cX8_oddsOf 48 = .ok (.iconst 4, 1) := by decide +kernel
theorem dX8_oddsOf_49 : decode cX8_oddsOf 49 = .ok (.iconst 5, 1) := by decide +kernel
theorem dX8_oddsOf_50 : decode cX8_oddsOf 50 = .ok (.invokevirtual 167, 3) := by decide +kernel
theorem dX8_oddsOf_53 : decode cX8_oddsOf 53 = .ok (.iconst 3, 1) := by decide +kernel
theorem dX8_oddsOf_54 : decode cX8_oddsOf 54 = .ok (.idiv, 1) := by decide +kernel
theorem dX8_oddsOf_55 : decode cX8_oddsOf 55 = .ok (.isub, 1) := by decide +kernel
theorem dX8_oddsOf_56 : decode cX8_oddsOf 56 = .ok (.aload_n 0, 1) := by decide +kernel
theorem dX8_oddsOf_57 : decode cX8_oddsOf 57 = .ok (.iload_n 3, 1) := by decide +kernel
theorem dX8_oddsOf_58 : decode cX8_oddsOf 58 = .ok (.iload 4, 2) := by decide +kernel
theorem dX8_oddsOf_60 : decode cX8_oddsOf 60 = .ok (.iconst 3, 1) := by decide +kernel
theorem dX8_oddsOf_61 : decode cX8_oddsOf 61 = .ok (.iconst 1, 1) := by decide +kernel
theorem dX8_oddsOf_62 : decode cX8_oddsOf 62 = .ok (.iconst 2, 1) := by decide +kernel
theorem dX8_oddsOf_63 : decode cX8_oddsOf 63 = .ok (.iconst 3, 1) := by decide +kernel
theorem dX8_oddsOf_64 : decode cX8_oddsOf 64 = .ok (.invokevirtual 167, 3) := by decide +kernel
theorem dX8_oddsOf_67 : decode cX8_oddsOf 67 = .ok (.iconst 3, 1) := by decide +kernel
theorem dX8_oddsOf_68 : decode cX8_oddsOf 68 = .ok (.idiv, 1) := by decide +kernel
theorem dX8_oddsOf_69 : decode cX8_oddsOf 69 = .ok (.iadd, 1) := by decide +kernel
theorem dX8_oddsOf_70 : decode cX8_oddsOf 70 = .ok (.aload_n 0, 1) := by decide +kernel
theorem dX8_oddsOf_71 : decode cX8_oddsOf 71 = .ok (.iconst 1, 1) := by decide +kernel
theorem dX8_oddsOf_72 : decode cX8_oddsOf 72 = .ok (.iload_n 3, 1) := by decide +kernel
theorem dX8_oddsOf_73 : decode cX8_oddsOf 73 = .ok (.isub, 1) := by decide +kernel
theorem dX8_oddsOf_74 : decode cX8_oddsOf 74 = .ok (.iload 5, 2) := by decide +kernel
theorem dX8_oddsOf_76 : decode cX8_oddsOf 76 = .ok (.iconst 2, 1) := by decide +kernel
theorem dX8_oddsOf_77 : decode cX8_oddsOf 77 = .ok (.iconst 1, 1) := by decide +kernel
theorem dX8_oddsOf_78 : decode cX8_oddsOf 78 = .ok (.iconst 2, 1) := by decide +kernel
theorem dX8_oddsOf_79 : decode cX8_oddsOf 79 = .ok (.iconst 3, 1) := by decide +kernel
theorem dX8_oddsOf_80 : decode cX8_oddsOf 80 = .ok (.invokevirtual 167, 3) := by decide +kernel
theorem dX8_oddsOf_83 : decode cX8_oddsOf 83 = .ok (.iconst 3, 1) := by decide +kernel
theorem dX8_oddsOf_84 : decode cX8_oddsOf 84 = .ok (.idiv, 1) := by decide +kernel
theorem dX8_oddsOf_85 : decode cX8_oddsOf 85 = .ok (.isub, 1) := by decide +kernel
theorem dX8_oddsOf_86 : decode cX8_oddsOf 86 = .ok (.istore 6, 2) := by decide +kernel
theorem dX8_oddsOf_88 : decode cX8_oddsOf 88 = .ok (.bipush 50, 2) := by decide +kernel
theorem dX8_oddsOf_90 : decode cX8_oddsOf 90 = .ok (.sipush 950, 3) := by decide +kernel
theorem dX8_oddsOf_93 : decode cX8_oddsOf 93 = .ok (.iload 6, 2) := by decide +kernel
theorem dX8_oddsOf_95 : decode cX8_oddsOf 95 = .ok (.invokestatic 147, 3) := by decide +kernel
theorem dX8_oddsOf_98 : decode cX8_oddsOf 98 = .ok (.invokestatic 171, 3) := by decide +kernel
theorem dX8_oddsOf_101 : decode cX8_oddsOf 101 = .ok (.ireturn, 1) := by decide +kernel
theorem dX8_odds_0 : decode cX8_odds 0 = .ok (.aload_n 0, 1) := by decide +kernel
theorem dX8_odds_1 : decode cX8_odds 1 = .ok (.iconst 0, 1) := by decide +kernel
theorem dX8_odds_2 : decode cX8_odds 2 = .ok (.putfield 63, 3) := by decide +kernel
theorem dX8_odds_5 : decode cX8_odds 5 = .ok (.aload_n 0, 1) := by decide +kernel
theorem dX8_odds_6 : decode cX8_odds 6 = .ok (.invokevirtual 82, 3) := by decide +kernel
theorem dX8_odds_9 : decode cX8_odds 9 = .ok (.ifCond .eq 28, 3) := by decide +kernel
theorem dX8_odds_12 : decode cX8_odds 12 = .ok (.iload_n 1, 1) := by decide +kernel
theorem dX8_odds_13 : decode cX8_odds 13 = .ok (.iconst 0, 1) := by decide +kernel
theorem dX8_odds_14 : decode cX8_odds 14 = .ok (.iconst 5, 1) := by decide +kernel
theorem dX8_odds_15 : decode cX8_odds 15 = .ok (.invokestatic 67, 3) := by decide +kernel
theorem dX8_odds_18 : decode cX8_odds 18 = .ok (.ifCond .eq 19, 3) := by decide +kernel
theorem dX8_odds_21 : decode cX8_odds 21 = .ok (.iload_n 2, 1) := by decide +kernel
theorem dX8_odds_22 : decode cX8_odds 22 = .ok (.iconst 0, 1) := by decide +kernel
theorem dX8_odds_23 : decode cX8_odds 23 = .ok (.iconst 5, 1) := by decide +kernel
theorem dX8_odds_24 : decode cX8_odds 24 = .ok (.invokestatic 67, 3) := by decide +kernel
theorem dX8_odds_27 : decode cX8_odds 27 = .ok (.ifCond .eq 10, 3) := by decide +kernel
theorem dX8_odds_30 : decode cX8_odds 30 = .ok (.iload_n 3, 1) := by decide +kernel
theorem dX8_odds_31 : decode cX8_odds 31 = .ok (.invokestatic 71, 3) := by decide +kernel
theorem dX8_odds_34 : decode cX8_odds 34 = .ok (.ifCond .ne 5, 3) := by decide +kernel
theorem dX8_odds_37 : decode cX8_odds 37 = .ok (.iconst (-1), 1) := by decide +kernel
theorem dX8_odds_38 : decode cX8_odds 38 = .ok (.ireturn, 1) := by decide +kernel
theorem dX8_odds_39 : decode cX8_odds 39 = .ok (.aload_n 0, 1) := by decide +kernel
theorem dX8_odds_40 : decode cX8_odds 40 = .ok (.invokevirtual 174, 3) := by decide +kernel
theorem dX8_odds_43 : decode cX8_odds 43 = .ok (.aload_n 0, 1) := by decide +kernel
theorem dX8_odds_44 : decode cX8_odds 44 = .ok (.iload_n 1, 1) := by decide +kernel
theorem dX8_odds_45 : decode cX8_odds 45 = .ok (.iload_n 2, 1) := by decide +kernel
theorem dX8_odds_46 : decode cX8_odds 46 = .ok (.iload_n 3, 1) := by decide +kernel
theorem dX8_odds_47 : decode cX8_odds 47 = .ok (.invokevirtual 177, 3) := by decide +kernel
theorem dX8_odds_50 : decode cX8_odds 50 = .ok (.ireturn, 1) := by decide +kernel
theorem dX8_cell_0 : decode cX8_cell 0 = .ok (.iload_n 0, 1) := by decide +kernel
theorem dX8_cell_1 : decode cX8_cell 1 = .ok (.bipush 31, 2) := by decide +kernel
theorem dX8_cell_3 : decode cX8_cell 3 = .ok (.imul, 1) := by decide +kernel
theorem dX8_cell_4 : decode cX8_cell 4 = .ok (.iload_n 1, 1) := by decide +kernel
theorem dX8_cell_5 : decode cX8_cell 5 = .ok (.iadd, 1) := by decide +kernel
theorem dX8_cell_6 : decode cX8_cell 6 = .ok (.iconst 2, 1) := by decide +kernel
theorem dX8_cell_7 : decode cX8_cell 7 = .ok (.imul, 1) := by decide +kernel
theorem dX8_cell_8 : decode cX8_cell 8 = .ok (.iload_n 2, 1) := by decide +kernel
theorem dX8_cell_9 : decode cX8_cell 9 = .ok (.iadd, 1) := by decide +kernel
theorem dX8_cell_10 : decode cX8_cell 10 = .ok (.bipush 6, 2) := by decide +kernel
theorem dX8_cell_12 : decode cX8_cell 12 = .ok (.imul, 1) := by decide +kernel
theorem dX8_cell_13 : decode cX8_cell 13 = .ok (.iload_n 3, 1) := by decide +kernel
theorem dX8_cell_14 : decode cX8_cell 14 = .ok (.iadd, 1) := by decide +kernel
theorem dX8_cell_15 : decode cX8_cell 15 = .ok (.bipush 6, 2) := by decide +kernel
theorem dX8_cell_17 : decode cX8_cell 17 = .ok (.imul, 1) := by decide +kernel
theorem dX8_cell_18 : decode cX8_cell 18 = .ok (.iload 4, 2) := by decide +kernel
theorem dX8_cell_20 : decode cX8_cell 20 = .ok (.iadd, 1) := by decide +kernel
theorem dX8_cell_21 : decode cX8_cell 21 = .ok (.ireturn, 1) := by decide +kernel
theorem dX8_fill_0 : decode cX8_fill 0 = .ok (.iconst 0, 1) := by decide +kernel
theorem dX8_fill_1 : decode cX8_fill 1 = .ok (.istore_n 2, 1) := by decide +kernel
theorem dX8_fill_2 : decode cX8_fill 2 = .ok (.iload_n 2, 1) := by decide +kernel
theorem dX8_fill_3 : decode cX8_fill 3 = .ok (.bipush 6, 2) := by decide +kernel
theorem dX8_fill_5 : decode cX8_fill 5 = .ok (.if_icmp .ge 63, 3) := by decide +kernel
theorem dX8_fill_8 : decode cX8_fill 8 = .ok (.iconst 0, 1) := by decide +kernel
theorem dX8_fill_9 : decode cX8_fill 9 = .ok (.istore_n 3, 1) := by decide +kernel
theorem dX8_fill_10 : decode cX8_fill 10 = .ok (.iload_n 3, 1) := by decide +kernel
theorem dX8_fill_11 : decode cX8_fill 11 = .ok (.bipush 6, 2) := by decide +kernel
theorem dX8_fill_13 : decode cX8_fill 13 = .ok (.if_icmp .ge 49, 3) := by decide +kernel
theorem dX8_fill_16 : decode cX8_fill 16 = .ok (.iconst 0, 1) := by decide +kernel
theorem dX8_fill_17 : decode cX8_fill 17 = .ok (.istore 4, 2) := by decide +kernel
theorem dX8_fill_19 : decode cX8_fill 19 = .ok (.iload 4, 2) := by decide +kernel
theorem dX8_fill_21 : decode cX8_fill 21 = .ok (.iconst 2, 1) := by decide +kernel
theorem dX8_fill_22 : decode cX8_fill 22 = .ok (.if_icmp .ge 34, 3) := by decide +kernel
theorem dX8_fill_25 : decode cX8_fill 25 = .ok (.aload_n 0, 1) := by decide +kernel
theorem dX8_fill_26 : decode cX8_fill 26 = .ok (.getfield 48, 3) := by decide +kernel
theorem dX8_fill_29 : decode cX8_fill 29 = .ok (.iload 4, 2) := by decide +kernel
theorem dX8_fill_31 : decode cX8_fill 31 = .ok (.bipush 6, 2) := by decide +kernel
theorem dX8_fill_33 : decode cX8_fill 33 = .ok (.imul, 1) := by decide +kernel
theorem dX8_fill_34 : decode cX8_fill 34 = .ok (.iload_n 2, 1) := by decide +kernel
theorem dX8_fill_35 : decode cX8_fill 35 = .ok (.iadd, 1) := by decide +kernel
theorem dX8_fill_36 : decode cX8_fill 36 = .ok (.bipush 6, 2) := by decide +kernel
theorem dX8_fill_38 : decode cX8_fill 38 = .ok (.imul, 1) := by decide +kernel
theorem dX8_fill_39 : decode cX8_fill 39 = .ok (.iload_n 3, 1) := by decide +kernel
theorem dX8_fill_40 : decode cX8_fill 40 = .ok (.iadd, 1) := by decide +kernel
theorem dX8_fill_41 : decode cX8_fill 41 = .ok (.aload_n 0, 1) := by decide +kernel
theorem dX8_fill_42 : decode cX8_fill 42 = .ok (.iload_n 2, 1) := by decide +kernel
theorem dX8_fill_43 : decode cX8_fill 43 = .ok (.iload_n 3, 1) := by decide +kernel
theorem dX8_fill_44 : decode cX8_fill 44 = .ok (.iload 4, 2) := by decide +kernel
theorem dX8_fill_46 : decode cX8_fill 46 = .ok (.invokevirtual 177, 3) := by decide +kernel
theorem dX8_fill_49 : decode cX8_fill 49 = .ok (.iastore, 1) := by decide +kernel
theorem dX8_fill_50 : decode cX8_fill 50 = .ok (.iinc 4 1, 3) := by decide +kernel
theorem dX8_fill_53 : decode cX8_fill 53 = .ok (.goto (-34), 3) := by decide +kernel
theorem dX8_fill_56 : decode cX8_fill 56 = .ok (.iinc 3 1, 3) := by decide +kernel
theorem dX8_fill_59 : decode cX8_fill 59 = .ok (.goto (-49), 3) := by decide +kernel
theorem dX8_fill_62 : decode cX8_fill 62 = .ok (.iinc 2 1, 3) := by decide +kernel
theorem dX8_fill_65 : decode cX8_fill 65 = .ok (.goto (-63), 3) := by decide +kernel
theorem dX8_fill_68 : decode cX8_fill 68 = .ok (.aload_n 0, 1) := by decide +kernel
theorem dX8_fill_69 : decode cX8_fill 69 = .ok (.getfield 16, 3) := by decide +kernel
theorem dX8_fill_72 : decode cX8_fill 72 = .ok (.iconst 1, 1) := by decide +kernel
theorem dX8_fill_73 : decode cX8_fill 73 = .ok (.iaload, 1) := by decide +kernel
theorem dX8_fill_74 : decode cX8_fill 74 = .ok (.istore_n 2, 1) := by decide +kernel
theorem dX8_fill_75 : decode cX8_fill 75 = .ok (.iconst 2, 1) := by decide +kernel
theorem dX8_fill_76 : decode cX8_fill 76 = .ok (.iload_n 2, 1) := by decide +kernel
theorem dX8_fill_77 : decode cX8_fill 77 = .ok (.imul, 1) := by decide +kernel
theorem dX8_fill_78 : decode cX8_fill 78 = .ok (.istore_n 3, 1) := by decide +kernel
theorem dX8_fill_79 : decode cX8_fill 79 = .ok (.iload_n 3, 1) := by decide +kernel
theorem dX8_fill_80 : decode cX8_fill 80 = .ok (.ifCond .lt 294, 3) := by decide +kernel
theorem dX8_fill_83 : decode cX8_fill 83 = .ok (.iconst 0, 1) := by decide +kernel
theorem dX8_fill_84 : decode cX8_fill 84 = .ok (.iload_n 3, 1) := by decide +kernel
theorem dX8_fill_85 : decode cX8_fill 85 = .ok (.iload_n 2, 1) := by decide +kernel
theorem dX8_fill_86 : decode cX8_fill 86 = .ok (.isub, 1) := by decide +kernel
theorem dX8_fill_87 : decode cX8_fill 87 = .ok (.invokestatic 171, 3) := by decide +kernel
theorem dX8_fill_90 : decode cX8_fill 90 = .ok (.istore 4, 2) := by decide +kernel
theorem dX8_fill_92 : decode cX8_fill 92 = .ok (.iload 4, 2) := by decide +kernel
theorem dX8_fill_94 : decode cX8_fill 94 = .ok (.iload_n 2, 1) := by decide +kernel
theorem dX8_fill_95 : decode cX8_fill 95 = .ok (.iload_n 3, 1) := by decide +kernel
theorem dX8_fill_96 : decode cX8_fill 96 = .ok (.invokestatic 147, 3) := by decide +kernel
theorem dX8_fill_99 : decode cX8_fill 99 = .ok (.if_icmp .gt 269, 3) := by decide +kernel
theorem dX8_fill_102 : decode cX8_fill 102 = .ok (.iload_n 3, 1) := by decide +kernel
theorem dX8_fill_103 : decode cX8_fill 103 = .ok (.iload 4, 2) := by decide +kernel
theorem dX8_fill_105 : decode cX8_fill 105 = .ok (.isub, 1) := by decide +kernel
theorem dX8_fill_106 : decode cX8_fill 106 = .ok (.istore 5, 2) := by decide +kernel
theorem dX8_fill_108 : decode cX8_fill 108 = .ok (.aload_n 0, 1) := by decide +kernel
theorem dX8_fill_109 : decode cX8_fill 109 = .ok (.iload 4, 2) := by decide +kernel
theorem dX8_fill_111 : decode cX8_fill 111 = .ok (.iload 5, 2) := by decide +kernel
theorem dX8_fill_113 : decode cX8_fill 113 = .ok (.iload_n 1, 1) := by decide +kernel
theorem dX8_fill_114 : decode cX8_fill 114 = .ok (.invokevirtual 110, 3) := by decide +kernel
theorem dX8_fill_117 : decode cX8_fill 117 = .ok (.ifCond .eq 9, 3) := by decide +kernel
theorem dX8_fill_120 : decode cX8_fill 120 = .ok (.ldc2_w 180, 3) := by decide +kernel
theorem dX8_fill_123 : decode cX8_fill 123 = .ok (.goto 22, 3) := by decide +kernel
theorem dX8_fill_126 : decode cX8_fill 126 = .ok (.aload_n 0, 1) := by decide +kernel
theorem dX8_fill_127 : decode cX8_fill 127 = .ok (.iload 5, 2) := by decide +kernel
theorem dX8_fill_129 : decode cX8_fill 129 = .ok (.iload 4, 2) := by decide +kernel
theorem dX8_fill_131 : decode cX8_fill 131 = .ok (.iload_n 1, 1) := by decide +kernel
theorem dX8_fill_132 : decode cX8_fill 132 = .ok (.invokevirtual 110, 3) := by decide +kernel
theorem dX8_fill_135 : decode cX8_fill 135 = .ok (.ifCond .eq 7, 3) := by decide +kernel
theorem dX8_fill_138 : decode cX8_fill 138 = .ok (.lconst 0, 1) := by decide +kernel
theorem dX8_fill_139 : decode cX8_fill 139 = .ok (.goto 6, 3) := by decide +kernel
theorem dX8_fill_142 : decode cX8_fill 142 = .ok (.ldc2_w 182, 3) := by decide +kernel
theorem dX8_fill_145 : decode cX8_fill 145 = .ok (.lstore 6, 2) := by decide +kernel
theorem dX8_fill_147 : decode cX8_fill 147 = .ok (.iconst 0, 1) := by decide +kernel
theorem dX8_fill_148 : decode cX8_fill 148 = .ok (.istore 8, 2) := by decide +kernel
theorem dX8_fill_150 : decode cX8_fill 150 = .ok (.iload 8, 2) := by decide +kernel
theorem dX8_fill_152 : decode cX8_fill 152 = .ok (.bipush 6, 2) := by decide +kernel
theorem dX8_fill_154 : decode cX8_fill 154 = .ok (.if_icmp .ge 208, 3) := by decide +kernel
theorem dX8_fill_157 : decode cX8_fill 157 = .ok (.iconst 0, 1) := by decide +kernel
theorem dX8_fill_158 : decode cX8_fill 158 = .ok (.istore 9, 2) := by decide +kernel
theorem dX8_fill_160 : decode cX8_fill 160 = .ok (.iload 9, 2) := by decide +kernel
theorem dX8_fill_162 : decode cX8_fill 162 = .ok (.bipush 6, 2) := by decide +kernel
theorem dX8_fill_164 : decode cX8_fill 164 = .ok (.if_icmp .ge 192, 3) := by decide +kernel
theorem dX8_fill_167 : decode cX8_fill 167 = .ok (.aload_n 0, 1) := by decide +kernel
theorem dX8_fill_168 : decode cX8_fill 168 = .ok (.getfield 52, 3) := by decide +kernel
theorem dX8_fill_171 : decode cX8_fill 171 = .ok (.iload 4, 2) := by decide +kernel
theorem dX8_fill_173 : decode cX8_fill 173 = .ok (.iload 5, 2) := by decide +kernel
theorem dX8_fill_175 : decode cX8_fill 175 = .ok (.iconst 0, 1) := by decide +kernel
theorem dX8_fill_176 : decode cX8_fill 176 = .ok (.iload 8, 2) := by decide +kernel
theorem dX8_fill_178 : decode cX8_fill 178 = .ok (.iload 9, 2) := by decide +kernel
theorem dX8_fill_180 : decode cX8_fill 180 = .ok (.invokestatic 184, 3) := by decide +kernel
theorem dX8_fill_183 : decode cX8_fill 183 = .ok (.lload 6, 2) := by decide +kernel
theorem dX8_fill_185 : decode cX8_fill 185 = .ok (.ldc2_w 182, 3) := by decide +kernel
theorem dX8_fill_188 : decode cX8_fill 188 = .ok (.lcmp, 1) := by decide +kernel
theorem dX8_fill_189 : decode cX8_fill 189 = .ok (.ifCond .eq 8, 3) := by decide +kernel
theorem dX8_fill_192 : decode cX8_fill 192 = .ok (.lload 6, 2) := by decide +kernel
theorem dX8_fill_194 : decode cX8_fill 194 = .ok (.goto 62, 3) := by decide +kernel
theorem dX8_fill_197 : decode cX8_fill 197 = .ok (.aload_n 0, 1) := by decide +kernel
theorem dX8_fill_198 : decode cX8_fill 198 = .ok (.getfield 48, 3) := by decide +kernel
theorem dX8_fill_201 : decode cX8_fill 201 = .ok (.iload 8, 2) := by decide +kernel
theorem dX8_fill_203 : decode cX8_fill 203 = .ok (.bipush 6, 2) := by decide +kernel
theorem dX8_fill_205 : decode cX8_fill 205 = .ok (.imul, 1) := by decide +kernel
theorem dX8_fill_206 : decode cX8_fill 206 = .ok (.iload 9, 2) := by decide +kernel
theorem dX8_fill_208 : decode cX8_fill 208 = .ok (.iadd, 1) := by decide +kernel
theorem dX8_fill_209 : decode cX8_fill 209 = .ok (.iaload, 1) := by decide +kernel
theorem dX8_fill_210 : decode cX8_fill 210 = .ok (.aload_n 0, 1) := by decide +kernel
theorem dX8_fill_211 : decode cX8_fill 211 = .ok (.getfield 52, 3) := by decide +kernel
theorem dX8_fill_214 : decode cX8_fill 214 = .ok (.iload 4, 2) := by decide +kernel
theorem dX8_fill_216 : decode cX8_fill 216 = .ok (.iconst 1, 1) := by decide +kernel
theorem dX8_fill_217 : decode cX8_fill 217 = .ok (.iadd, 1) := by decide +kernel
theorem dX8_fill_218 : decode cX8_fill 218 = .ok (.iload 5, 2) := by decide +kernel
theorem dX8_fill_220 : decode cX8_fill 220 = .ok (.iconst 0, 1) := by decide +kernel
theorem dX8_fill_221 : decode cX8_fill 221 = .ok (.iload 8, 2) := by decide +kernel
theorem dX8_fill_223 : decode cX8_fill 223 = .ok (.iload 9, 2) := by decide +kernel
theorem dX8_fill_225 : decode cX8_fill 225 = .ok (.invokestatic 184, 3) := by decide +kernel
theorem dX8_fill_228 : decode cX8_fill 228 = .ok (.laload, 1) := by decide +kernel
theorem dX8_fill_229 : decode cX8_fill 229 = .ok (.aload_n 0, 1) := by decide +kernel
theorem dX8_fill_230 : decode cX8_fill 230 = .ok (.getfield 52, 3) := by decide +kernel
theorem dX8_fill_233 : decode cX8_fill 233 = .ok (.iload 4, 2) := by decide +kernel
theorem dX8_fill_235 : decode cX8_fill 235 = .ok (.iload 5, 2) := by decide +kernel
theorem dX8_fill_237 : decode cX8_fill 237 = .ok (.iconst 1, 1) := by decide +kernel
theorem dX8_fill_238 : decode cX8_fill 238 = .ok (.iadd, 1) := by decide +kernel
theorem dX8_fill_239 : decode cX8_fill 239 = .ok (.iconst 1, 1) := by decide +kernel
theorem dX8_fill_240 : decode cX8_fill 240 = .ok (.iload 8, 2) := by decide +kernel
theorem dX8_fill_242 : decode cX8_fill 242 = .ok (.iload 9, 2) := by decide +kernel
theorem dX8_fill_244 : decode cX8_fill 244 = .ok (.iconst 1, 1) := by decide +kernel
theorem dX8_fill_245 : decode cX8_fill 245 = .ok (.iadd, 1) := by decide +kernel
theorem dX8_fill_246 : decode cX8_fill 246 = .ok (.bipush 6, 2) := by decide +kernel
theorem dX8_fill_248 : decode cX8_fill 248 = .ok (.irem, 1) := by decide +kernel
theorem dX8_fill_249 : decode cX8_fill 249 = .ok (.invokestatic 184, 3) := by decide +kernel
theorem dX8_fill_252 : decode cX8_fill 252 = .ok (.laload, 1) := by decide +kernel
theorem dX8_fill_253 : decode cX8_fill 253 = .ok (.invokestatic 188, 3) := by decide +kernel
theorem dX8_fill_256 : decode cX8_fill 256 = .ok (.lastore, 1) := by decide +kernel
theorem dX8_fill_257 : decode cX8_fill 257 = .ok (.aload_n 0, 1) := by decide +kernel
theorem dX8_fill_258 : decode cX8_fill 258 = .ok (.getfield 52, 3) := by decide +kernel
theorem dX8_fill_261 : decode cX8_fill 261 = .ok (.iload 4, 2) := by decide +kernel
theorem dX8_fill_263 : decode cX8_fill 263 = .ok (.iload 5, 2) := by decide +kernel
theorem dX8_fill_265 : decode cX8_fill 265 = .ok (.iconst 1, 1) := by decide +kernel
theorem dX8_fill_266 : decode cX8_fill 266 = .ok (.iload 8, 2) := by decide +kernel
theorem dX8_fill_268 : decode cX8_fill 268 = .ok (.iload 9, 2) := by decide +kernel
theorem dX8_fill_270 : decode cX8_fill 270 = .ok (.invokestatic 184, 3) := by decide +kernel
theorem dX8_fill_273 : decode cX8_fill 273 = .ok (.lload 6, 2) := by decide +kernel
theorem dX8_fill_275 : decode cX8_fill 275 = .ok (.ldc2_w 182, 3) := by decide +kernel
theorem dX8_fill_278 : decode cX8_fill 278 = .ok (.lcmp, 1) := by decide +kernel
theorem dX8_fill_279 : decode cX8_fill 279 = .ok (.ifCond .eq 8, 3) := by decide +kernel
theorem dX8_fill_282 : decode cX8_fill 282 = .ok (.lload 6, 2) := by decide +kernel
theorem dX8_fill_284 : decode cX8_fill 284 = .ok (.goto 65, 3) := by decide +kernel
theorem dX8_fill_287 : decode cX8_fill 287 = .ok (.aload_n 0, 1) := by decide +kernel
theorem dX8_fill_288 : decode cX8_fill 288 = .ok (.getfield 48, 3) := by decide +kernel
theorem dX8_fill_291 : decode cX8_fill 291 = .ok (.bipush 6, 2) := by decide +kernel
theorem dX8_fill_293 : decode cX8_fill 293 = .ok (.iload 8, 2) := by decide +kernel
theorem dX8_fill_295 : decode cX8_fill 295 = .ok (.iadd, 1) := by decide +kernel
theorem dX8_fill_296 : decode cX8_fill 296 = .ok (.bipush 6, 2) := by decide +kernel
theorem dX8_fill_298 : decode cX8_fill 298 = .ok (.imul, 1) := by decide +kernel
theorem dX8_fill_299 : decode cX8_fill 299 = .ok (.iload 9, 2) := by decide +kernel
theorem dX8_fill_301 : decode cX8_fill 301 = .ok (.iadd, 1) := by decide +kernel
theorem dX8_fill_302 : decode cX8_fill 302 = .ok (.iaload, 1) := by decide +kernel
theorem dX8_fill_303 : decode cX8_fill 303 = .ok (.aload_n 0, 1) := by decide +kernel
theorem dX8_fill_304 : decode cX8_fill 304 = .ok (.getfield 52, 3) := by decide +kernel
theorem dX8_fill_307 : decode cX8_fill 307 = .ok (.iload 4, 2) := by decide +kernel
theorem dX8_fill_309 : decode cX8_fill 309 = .ok (.iload 5, 2) := by decide +kernel
theorem dX8_fill_311 : decode cX8_fill 311 = .ok (.iconst 1, 1) := by decide +kernel
theorem dX8_fill_312 : decode cX8_fill 312 = .ok (.iadd, 1) := by decide +kernel
theorem dX8_fill_313 : decode cX8_fill 313 = .ok (.iconst 1, 1) := by decide +kernel
theorem dX8_fill_314 : decode cX8_fill 314 = .ok (.iload 8, 2) := by decide +kernel
theorem dX8_fill_316 : decode cX8_fill 316 = .ok (.iload 9, 2) := by decide +kernel
theorem dX8_fill_318 : decode cX8_fill 318 = .ok (.invokestatic 184, 3) := by decide +kernel
theorem dX8_fill_321 : decode cX8_fill 321 = .ok (.laload, 1) := by decide +kernel
theorem dX8_fill_322 : decode cX8_fill 322 = .ok (.aload_n 0, 1) := by decide +kernel
theorem dX8_fill_323 : decode cX8_fill 323 = .ok (.getfield 52, 3) := by decide +kernel
theorem dX8_fill_326 : decode cX8_fill 326 = .ok (.iload 4, 2) := by decide +kernel
theorem dX8_fill_328 : decode cX8_fill 328 = .ok (.iconst 1, 1) := by decide +kernel
theorem dX8_fill_329 : decode cX8_fill 329 = .ok (.iadd, 1) := by decide +kernel
theorem dX8_fill_330 : decode cX8_fill 330 = .ok (.iload 5, 2) := by decide +kernel
theorem dX8_fill_332 : decode cX8_fill 332 = .ok (.iconst 0, 1) := by decide +kernel
theorem dX8_fill_333 : decode cX8_fill 333 = .ok (.iload 8, 2) := by decide +kernel
theorem dX8_fill_335 : decode cX8_fill 335 = .ok (.iconst 1, 1) := by decide +kernel
theorem dX8_fill_336 : decode cX8_fill 336 = .ok (.iadd, 1) := by decide +kernel
theorem dX8_fill_337 : decode cX8_fill 337 = .ok (.bipush 6, 2) := by decide +kernel
theorem dX8_fill_339 : decode cX8_fill 339 = .ok (.irem, 1) := by decide +kernel
theorem dX8_fill_340 : decode cX8_fill 340 = .ok (.iload 9, 2) := by decide +kernel
theorem dX8_fill_342 : decode cX8_fill 342 = .ok (.invokestatic 184, 3) := by decide +kernel
theorem dX8_fill_345 : decode cX8_fill 345 = .ok (.laload, 1) := by decide +kernel
theorem dX8_fill_346 : decode cX8_fill 346 = .ok (.invokestatic 188, 3) := by decide +kernel
theorem dX8_fill_349 : decode cX8_fill 349 = .ok (.lastore, 1) := by decide +kernel
theorem dX8_fill_350 : decode cX8_fill 350 = .ok (.iinc 9 1, 3) := by decide +kernel
theorem dX8_fill_353 : decode cX8_fill 353 = .ok (.goto (-193), 3) := by decide +kernel
theorem dX8_fill_356 : decode cX8_fill 356 = .ok (.iinc 8 1, 3) := by decide +kernel
theorem dX8_fill_359 : decode cX8_fill 359 = .ok (.goto (-209), 3) := by decide +kernel
theorem dX8_fill_362 : decode cX8_fill 362 = .ok (.iinc 4 1, 3) := by decide +kernel
theorem dX8_fill_365 : decode cX8_fill 365 = .ok (.goto (-273), 3) := by decide +kernel
theorem dX8_fill_368 : decode cX8_fill 368 = .ok (.iinc 3 (-1), 3) := by decide +kernel
theorem dX8_fill_371 : decode cX8_fill 371 = .ok (.goto (-292), 3) := by decide +kernel
theorem dX8_fill_374 : decode cX8_fill 374 = .ok (.return_, 1) := by decide +kernel
theorem dX8_mean_0 : decode cX8_mean 0 = .ok (.iload_n 0, 1) := by decide +kernel
theorem dX8_mean_1 : decode cX8_mean 1 = .ok (.i2l, 1) := by decide +kernel
theorem dX8_mean_2 : decode cX8_mean 2 = .ok (.lload_n 1, 1) := by decide +kernel
theorem dX8_mean_3 : decode cX8_mean 3 = .ok (.lmul, 1) := by decide +kernel
theorem dX8_mean_4 : decode cX8_mean 4 = .ok (.sipush 1000, 3) := by decide +kernel
theorem dX8_mean_7 : decode cX8_mean 7 = .ok (.iload_n 0, 1) := by decide +kernel
theorem dX8_mean_8 : decode cX8_mean 8 = .ok (.isub, 1) := by decide +kernel
theorem dX8_mean_9 : decode cX8_mean 9 = .ok (.i2l, 1) := by decide +kernel
theorem dX8_mean_10 : decode cX8_mean 10 = .ok (.lload_n 3, 1) := by decide +kernel
theorem dX8_mean_11 : decode cX8_mean 11 = .ok (.lmul, 1) := by decide +kernel
theorem dX8_mean_12 : decode cX8_mean 12 = .ok (.ladd, 1) := by decide +kernel
theorem dX8_mean_13 : decode cX8_mean 13 = .ok (.ldc2_w 192, 3) := by decide +kernel
theorem dX8_mean_16 : decode cX8_mean 16 = .ok (.ldiv, 1) := by decide +kernel
theorem dX8_mean_17 : decode cX8_mean 17 = .ok (.lreturn, 1) := by decide +kernel
theorem dX8_now_0 : decode cX8_now 0 = .ok (.aload_n 0, 1) := by decide +kernel
theorem dX8_now_1 : decode cX8_now 1 = .ok (.getfield 52, 3) := by decide +kernel
theorem dX8_now_4 : decode cX8_now 4 = .ok (.aload_n 0, 1) := by decide +kernel
theorem dX8_now_5 : decode cX8_now 5 = .ok (.iconst 0, 1) := by decide +kernel
theorem dX8_now_6 : decode cX8_now 6 = .ok (.iconst 0, 1) := by decide +kernel
theorem dX8_now_7 : decode cX8_now 7 = .ok (.invokevirtual 95, 3) := by decide +kernel
theorem dX8_now_10 : decode cX8_now 10 = .ok (.aload_n 0, 1) := by decide +kernel
theorem dX8_now_11 : decode cX8_now 11 = .ok (.iconst 1, 1) := by decide +kernel
theorem dX8_now_12 : decode cX8_now 12 = .ok (.iconst 0, 1) := by decide +kernel
theorem dX8_now_13 : decode cX8_now 13 = .ok (.invokevirtual 95, 3) := by decide +kernel
theorem dX8_now_16 : decode cX8_now 16 = .ok (.aload_n 0, 1) := by decide +kernel
theorem dX8_now_17 : decode cX8_now 17 = .ok (.getfield 26, 3) := by decide +kernel
theorem dX8_now_20 : decode cX8_now 20 = .ok (.iconst 2, 1) := by decide +kernel
theorem dX8_now_21 : decode cX8_now 21 = .ok (.iaload, 1) := by decide +kernel
theorem dX8_now_22 : decode cX8_now 22 = .ok (.iconst 0, 1) := by decide +kernel
theorem dX8_now_23 : decode cX8_now 23 = .ok (.iconst 0, 1) := by decide +kernel
theorem dX8_now_24 : decode cX8_now 24 = .ok (.invokestatic 184, 3) := by decide +kernel
theorem dX8_now_27 : decode cX8_now 27 = .ok (.laload, 1) := by decide +kernel
theorem dX8_now_28 : decode cX8_now 28 = .ok (.l2i, 1) := by decide +kernel
theorem dX8_now_29 : decode cX8_now 29 = .ok (.ireturn, 1) := by decide +kernel
theorem dX8_chance_0 : decode cX8_chance 0 = .ok (.aload_n 0, 1) := by decide +kernel
theorem dX8_chance_1 : decode cX8_chance 1 = .ok (.iconst 0, 1) := by decide +kernel
theorem dX8_chance_2 : decode cX8_chance 2 = .ok (.putfield 63, 3) := by decide +kernel
theorem dX8_chance_5 : decode cX8_chance 5 = .ok (.aload_n 0, 1) := by decide +kernel
theorem dX8_chance_6 : decode cX8_chance 6 = .ok (.invokevirtual 82, 3) := by decide +kernel
theorem dX8_chance_9 : decode cX8_chance 9 = .ok (.ifCond .ne 5, 3) := by decide +kernel
theorem dX8_chance_12 : decode cX8_chance 12 = .ok (.iconst (-1), 1) := by decide +kernel
theorem dX8_chance_13 : decode cX8_chance 13 = .ok (.ireturn, 1) := by decide +kernel
theorem dX8_chance_14 : decode cX8_chance 14 = .ok (.aload_n 0, 1) := by decide +kernel
theorem dX8_chance_15 : decode cX8_chance 15 = .ok (.invokevirtual 174, 3) := by decide +kernel
theorem dX8_chance_18 : decode cX8_chance 18 = .ok (.aload_n 0, 1) := by decide +kernel
theorem dX8_chance_19 : decode cX8_chance 19 = .ok (.aload_n 0, 1) := by decide +kernel
theorem dX8_chance_20 : decode cX8_chance 20 = .ok (.invokevirtual 102, 3) := by decide +kernel
theorem dX8_chance_23 : decode cX8_chance 23 = .ok (.invokevirtual 194, 3) := by decide +kernel
theorem dX8_chance_26 : decode cX8_chance 26 = .ok (.aload_n 0, 1) := by decide +kernel
theorem dX8_chance_27 : decode cX8_chance 27 = .ok (.invokevirtual 197, 3) := by decide +kernel
theorem dX8_chance_30 : decode cX8_chance 30 = .ok (.ireturn, 1) := by decide +kernel
theorem dX8_weight_0 : decode cX8_weight 0 = .ok (.aload_n 0, 1) := by decide +kernel
theorem dX8_weight_1 : decode cX8_weight 1 = .ok (.iconst 0, 1) := by decide +kernel
theorem dX8_weight_2 : decode cX8_weight 2 = .ok (.putfield 63, 3) := by decide +kernel
theorem dX8_weight_5 : decode cX8_weight 5 = .ok (.aload_n 0, 1) := by decide +kernel
theorem dX8_weight_6 : decode cX8_weight 6 = .ok (.invokevirtual 82, 3) := by decide +kernel
theorem dX8_weight_9 : decode cX8_weight 9 = .ok (.ifCond .ne 5, 3) := by decide +kernel
theorem dX8_weight_12 : decode cX8_weight 12 = .ok (.iconst (-1), 1) := by decide +kernel
theorem dX8_weight_13 : decode cX8_weight 13 = .ok (.ireturn, 1) := by decide +kernel
theorem dX8_weight_14 : decode cX8_weight 14 = .ok (.aload_n 0, 1) := by decide +kernel
theorem dX8_weight_15 : decode cX8_weight 15 = .ok (.invokevirtual 174, 3) := by decide +kernel
theorem dX8_weight_18 : decode cX8_weight 18 = .ok (.aload_n 0, 1) := by decide +kernel
theorem dX8_weight_19 : decode cX8_weight 19 = .ok (.aload_n 0, 1) := by decide +kernel
theorem dX8_weight_20 : decode cX8_weight 20 = .ok (.invokevirtual 102, 3) := by decide +kernel
theorem dX8_weight_23 : decode cX8_weight 23 = .ok (.invokevirtual 194, 3) := by decide +kernel
theorem dX8_weight_26 : decode cX8_weight 26 = .ok (.aload_n 0, 1) := by decide +kernel
theorem dX8_weight_27 : decode cX8_weight 27 = .ok (.iconst 0, 1) := by decide +kernel
theorem dX8_weight_28 : decode cX8_weight 28 = .ok (.iconst 0, 1) := by decide +kernel
theorem dX8_weight_29 : decode cX8_weight 29 = .ok (.invokevirtual 95, 3) := by decide +kernel
theorem dX8_weight_32 : decode cX8_weight 32 = .ok (.istore_n 1, 1) := by decide +kernel
theorem dX8_weight_33 : decode cX8_weight 33 = .ok (.aload_n 0, 1) := by decide +kernel
theorem dX8_weight_34 : decode cX8_weight 34 = .ok (.iconst 1, 1) := by decide +kernel
theorem dX8_weight_35 : decode cX8_weight 35 = .ok (.iconst 0, 1) := by decide +kernel
theorem dX8_weight_36 : decode cX8_weight 36 = .ok (.invokevirtual 95, 3) := by decide +kernel
theorem dX8_weight_39 : decode cX8_weight 39 = .ok (.istore_n 2, 1) := by decide +kernel
theorem dX8_weight_40 : decode cX8_weight 40 = .ok (.aload_n 0, 1) := by decide +kernel
theorem dX8_weight_41 : decode cX8_weight 41 = .ok (.getfield 26, 3) := by decide +kernel
theorem dX8_weight_44 : decode cX8_weight 44 = .ok (.iconst 2, 1) := by decide +kernel
theorem dX8_weight_45 : decode cX8_weight 45 = .ok (.iaload, 1) := by decide +kernel
theorem dX8_weight_46 : decode cX8_weight 46 = .ok (.ifCond .ne 7, 3) := by decide +kernel
theorem dX8_weight_49 : decode cX8_weight 49 = .ok (.iconst 1, 1) := by decide +kernel
theorem dX8_weight_50 : decode cX8_weight 50 = .ok (.goto 4, 3) := by decide +kernel
theorem dX8_weight_53 : decode cX8_weight 53 = .ok (.iconst 0, 1) := by decide +kernel
theorem dX8_weight_54 : decode cX8_weight 54 = .ok (.istore_n 3, 1) := by decide +kernel
theorem dX8_weight_55 : decode cX8_weight 55 = .ok (.aload_n 0, 1) := by decide +kernel
theorem dX8_weight_56 : decode cX8_weight 56 = .ok (.getfield 52, 3) := by decide +kernel
theorem dX8_weight_59 : decode cX8_weight 59 = .ok (.iload_n 1, 1) := by decide +kernel
theorem dX8_weight_60 : decode cX8_weight 60 = .ok (.iconst 1, 1) := by decide +kernel
theorem dX8_weight_61 : decode cX8_weight 61 = .ok (.iadd, 1) := by decide +kernel
theorem dX8_weight_62 : decode cX8_weight 62 = .ok (.iload_n 2, 1) := by decide +kernel
theorem dX8_weight_63 : decode cX8_weight 63 = .ok (.iconst 0, 1) := by decide +kernel
theorem dX8_weight_64 : decode cX8_weight 64 = .ok (.iload_n 3, 1) := by decide +kernel
theorem dX8_weight_65 : decode cX8_weight 65 = .ok (.ifCond .eq 7, 3) := by decide +kernel
theorem dX8_weight_68 : decode cX8_weight 68 = .ok (.iconst 0, 1) := by decide +kernel
theorem dX8_weight_69 : decode cX8_weight 69 = .ok (.goto 4, 3) := by decide +kernel
theorem dX8_weight_72 : decode cX8_weight 72 = .ok (.iconst 1, 1) := by decide +kernel
theorem dX8_weight_73 : decode cX8_weight 73 = .ok (.iconst 0, 1) := by decide +kernel
theorem dX8_weight_74 : decode cX8_weight 74 = .ok (.invokestatic 184, 3) := by decide +kernel
theorem dX8_weight_77 : decode cX8_weight 77 = .ok (.laload, 1) := by decide +kernel
theorem dX8_weight_78 : decode cX8_weight 78 = .ok (.lstore 4, 2) := by decide +kernel
theorem dX8_weight_80 : decode cX8_weight 80 = .ok (.aload_n 0, 1) := by decide +kernel
theorem dX8_weight_81 : decode cX8_weight 81 = .ok (.getfield 52, 3) := by decide +kernel
theorem dX8_weight_84 : decode cX8_weight 84 = .ok (.iload_n 1, 1) := by decide +kernel
theorem dX8_weight_85 : decode cX8_weight 85 = .ok (.iload_n 2, 1) := by decide +kernel
theorem dX8_weight_86 : decode cX8_weight 86 = .ok (.iconst 1, 1) := by decide +kernel
theorem dX8_weight_87 : decode cX8_weight 87 = .ok (.iadd, 1) := by decide +kernel
theorem dX8_weight_88 : decode cX8_weight 88 = .ok (.iconst 1, 1) := by decide +kernel
theorem dX8_weight_89 : decode cX8_weight 89 = .ok (.iconst 0, 1) := by decide +kernel
theorem dX8_weight_90 : decode cX8_weight 90 = .ok (.iload_n 3, 1) := by decide +kernel
theorem dX8_weight_91 : decode cX8_weight 91 = .ok (.ifCond .eq 7, 3) := by decide +kernel
theorem dX8_weight_94 : decode cX8_weight 94 = .ok (.iconst 1, 1) := by decide +kernel
theorem dX8_weight_95 : decode cX8_weight 95 = .ok (.goto 4, 3) := by decide +kernel
theorem dX8_weight_98 : decode cX8_weight 98 = .ok (.iconst 0, 1) := by decide +kernel
theorem dX8_weight_99 : decode cX8_weight 99 = .ok (.invokestatic 184, 3) := by decide +kernel
theorem dX8_weight_102 : decode cX8_weight 102 = .ok (.laload, 1) := by decide +kernel
theorem dX8_weight_103 : decode cX8_weight 103 = .ok (.lstore 6, 2) := by decide +kernel
theorem dX8_weight_105 : decode cX8_weight 105 = .ok (.lload 4, 2) := by decide +kernel
theorem dX8_weight_107 : decode cX8_weight 107 = .ok (.lload 6, 2) := by decide +kernel
theorem dX8_weight_109 : decode cX8_weight 109 = .ok (.lsub, 1) := by decide +kernel
theorem dX8_weight_110 : decode cX8_weight 110 = .ok (.l2i, 1) := by decide +kernel
theorem dX8_weight_111 : decode cX8_weight 111 = .ok (.ireturn, 1) := by decide +kernel
theorem dX8_turn__0 : decode cX8_turn_ 0 = .ok (.aload_n 0, 1) := by decide +kernel
theorem dX8_turn__1 : decode cX8_turn_ 1 = .ok (.iconst 0, 1) := by decide +kernel
theorem dX8_turn__2 : decode cX8_turn_ 2 = .ok (.putfield 63, 3) := by decide +kernel
theorem dX8_turn__5 : decode cX8_turn_ 5 = .ok (.iload_n 1, 1) := by decide +kernel
theorem dX8_turn__6 : decode cX8_turn_ 6 = .ok (.invokestatic 71, 3) := by decide +kernel
theorem dX8_turn__9 : decode cX8_turn_ 9 = .ok (.ifCond .eq 35, 3) := by decide +kernel
theorem dX8_turn__12 : decode cX8_turn_ 12 = .ok (.iload_n 2, 1) := by decide +kernel
theorem dX8_turn__13 : decode cX8_turn_ 13 = .ok (.invokestatic 71, 3) := by decide +kernel
theorem dX8_turn__16 : decode cX8_turn_ 16 = .ok (.ifCond .eq 28, 3) := by decide +kernel
theorem dX8_turn__19 : decode cX8_turn_ 19 = .ok (.aload_n 0, 1) := by decide +kernel
theorem dX8_turn__20 : decode cX8_turn_ 20 = .ok (.invokevirtual 82, 3) := by decide +kernel
theorem dX8_turn__23 : decode cX8_turn_ 23 = .ok (.ifCond .ne 21, 3) := by decide +kernel
theorem dX8_turn__26 : decode cX8_turn_ 26 = .ok (.aload_n 0, 1) := by decide +kernel
theorem dX8_turn__27 : decode cX8_turn_ 27 = .ok (.getfield 22, 3) := by decide +kernel
theorem dX8_turn__30 : decode cX8_turn_ 30 = .ok (.iconst 0, 1) := by decide +kernel
theorem dX8_turn__31 : decode cX8_turn_ 31 = .ok (.baload, 1) := by decide +kernel
theorem dX8_turn__32 : decode cX8_turn_ 32 = .ok (.ifCond .eq 12, 3) := by decide +kernel
theorem dX8_turn__35 : decode cX8_turn_ 35 = .ok (.aload_n 0, 1) := by decide +kernel
theorem dX8_turn__36 : decode cX8_turn_ 36 = .ok (.getfield 22, 3) := by decide +kernel
theorem dX8_turn__39 : decode cX8_turn_ 39 = .ok (.iconst 1, 1) := by decide +kernel
theorem dX8_turn__40 : decode cX8_turn_ 40 = .ok (.baload, 1) := by decide +kernel
theorem dX8_turn__41 : decode cX8_turn_ 41 = .ok (.ifCond .ne 5, 3) := by decide +kernel
theorem dX8_turn__44 : decode cX8_turn_ 44 = .ok (.iconst (-1), 1) := by decide +kernel
theorem dX8_turn__45 : decode cX8_turn_ 45 = .ok (.ireturn, 1) := by decide +kernel
theorem dX8_turn__46 : decode cX8_turn_ 46 = .ok (.iconst (-1), 1) := by decide +kernel
theorem dX8_turn__47 : decode cX8_turn_ 47 = .ok (.istore_n 3, 1) := by decide +kernel
theorem dX8_turn__48 : decode cX8_turn_ 48 = .ok (.lconst 0, 1) := by decide +kernel
theorem dX8_turn__49 : decode cX8_turn_ 49 = .ok (.lstore 4, 2) := by decide +kernel
theorem dX8_turn__51 : decode cX8_turn_ 51 = .ok (.iconst 0, 1) := by decide +kernel
theorem dX8_turn__52 : decode cX8_turn_ 52 = .ok (.istore 6, 2) := by decide +kernel
theorem dX8_turn__54 : decode cX8_turn_ 54 = .ok (.iload 6, 2) := by decide +kernel
theorem dX8_turn__56 : decode cX8_turn_ 56 = .ok (.bipush 6, 2) := by decide +kernel
theorem dX8_turn__58 : decode cX8_turn_ 58 = .ok (.if_icmp .ge 144, 3) := by decide +kernel
theorem dX8_turn__61 : decode cX8_turn_ 61 = .ok (.iconst 0, 1) := by decide +kernel
theorem dX8_turn__62 : decode cX8_turn_ 62 = .ok (.istore 7, 2) := by decide +kernel
theorem dX8_turn__64 : decode cX8_turn_ 64 = .ok (.iload 7, 2) := by decide +kernel
theorem dX8_turn__66 : decode cX8_turn_ 66 = .ok (.iconst 2, 1) := by decide +kernel
theorem dX8_turn__67 : decode cX8_turn_ 67 = .ok (.if_icmp .ge 68, 3) := by decide +kernel
theorem dX8_turn__70 : decode cX8_turn_ 70 = .ok (.iconst 0, 1) := by decide +kernel
theorem dX8_turn__71 : decode cX8_turn_ 71 = .ok (.istore 8, 2) := by decide +kernel
theorem dX8_turn__73 : decode cX8_turn_ 73 = .ok (.iload 8, 2) := by decide +kernel
theorem dX8_turn__75 : decode cX8_turn_ 75 = .ok (.bipush 6, 2) := by decide +kernel
theorem dX8_turn__77 : decode cX8_turn_ 77 = .ok (.if_icmp .ge 52, 3) := by decide +kernel
theorem dX8_turn__80 : decode cX8_turn_ 80 = .ok (.aload_n 0, 1) := by decide +kernel
theorem dX8_turn__81 : decode cX8_turn_ 81 = .ok (.getfield 45, 3) := by decide +kernel
theorem dX8_turn__84 : decode cX8_turn_ 84 = .ok (.bipush 6, 2) := by decide +kernel
theorem dX8_turn__86 : decode cX8_turn_ 86 = .ok (.iload 7, 2) := by decide +kernel
theorem dX8_turn__88 : decode cX8_turn_ 88 = .ok (.imul, 1) := by decide +kernel
theorem dX8_turn__89 : decode cX8_turn_ 89 = .ok (.iload 8, 2) := by decide +kernel
theorem dX8_turn__91 : decode cX8_turn_ 91 = .ok (.iadd, 1) := by decide +kernel
theorem dX8_turn__92 : decode cX8_turn_ 92 = .ok (.aload_n 0, 1) := by decide +kernel
theorem dX8_turn__93 : decode cX8_turn_ 93 = .ok (.getfield 19, 3) := by decide +kernel
theorem dX8_turn__96 : decode cX8_turn_ 96 = .ok (.bipush 6, 2) := by decide +kernel
theorem dX8_turn__98 : decode cX8_turn_ 98 = .ok (.iload 7, 2) := by decide +kernel
theorem dX8_turn__100 : decode cX8_turn_ 100 = .ok (.imul, 1) := by decide +kernel
theorem dX8_turn__101 : decode cX8_turn_ 101 = .ok (.iload 7, 2) := by decide +kernel
theorem dX8_turn__103 : decode cX8_turn_ 103 = .ok (.iload_n 1, 1) := by decide +kernel
theorem dX8_turn__104 : decode cX8_turn_ 104 = .ok (.if_icmp .ne 14, 3) := by decide +kernel
theorem dX8_turn__107 : decode cX8_turn_ 107 = .ok (.iload 8, 2) := by decide +kernel
theorem dX8_turn__109 : decode cX8_turn_ 109 = .ok (.iload 6, 2) := by decide +kernel
theorem dX8_turn__111 : decode cX8_turn_ 111 = .ok (.iadd, 1) := by decide +kernel
theorem dX8_turn__112 : decode cX8_turn_ 112 = .ok (.bipush 6, 2) := by decide +kernel
theorem dX8_turn__114 : decode cX8_turn_ 114 = .ok (.irem, 1) := by decide +kernel
theorem dX8_turn__115 : decode cX8_turn_ 115 = .ok (.goto 5, 3) := by decide +kernel
theorem dX8_turn__118 : decode cX8_turn_ 118 = .ok (.iload 8, 2) := by decide +kernel
theorem dX8_turn__120 : decode cX8_turn_ 120 = .ok (.iadd, 1) := by decide +kernel
theorem dX8_turn__121 : decode cX8_turn_ 121 = .ok (.iaload, 1) := by decide +kernel
theorem dX8_turn__122 : decode cX8_turn_ 122 = .ok (.iastore, 1) := by decide +kernel
theorem dX8_turn__123 : decode cX8_turn_ 123 = .ok (.iinc 8 1, 3) := by decide +kernel
theorem dX8_turn__126 : decode cX8_turn_ 126 = .ok (.goto (-53), 3) := by decide +kernel
theorem dX8_turn__129 : decode cX8_turn_ 129 = .ok (.iinc 7 1, 3) := by decide +kernel
theorem dX8_turn__132 : decode cX8_turn_ 132 = .ok (.goto (-68), 3) := by decide +kernel
theorem dX8_turn__135 : decode cX8_turn_ 135 = .ok (.aload_n 0, 1) := by decide +kernel
theorem dX8_turn__136 : decode cX8_turn_ 136 = .ok (.aload_n 0, 1) := by decide +kernel
theorem dX8_turn__137 : decode cX8_turn_ 137 = .ok (.invokevirtual 102, 3) := by decide +kernel
theorem dX8_turn__140 : decode cX8_turn_ 140 = .ok (.invokevirtual 194, 3) := by decide +kernel
theorem dX8_turn__143 : decode cX8_turn_ 143 = .ok (.aload_n 0, 1) := by decide +kernel
theorem dX8_turn__144 : decode cX8_turn_ 144 = .ok (.getfield 52, 3) := by decide +kernel
theorem dX8_turn__147 : decode cX8_turn_ 147 = .ok (.iconst 0, 1) := by decide +kernel
theorem dX8_turn__148 : decode cX8_turn_ 148 = .ok (.iconst 0, 1) := by decide +kernel
theorem dX8_turn__149 : decode cX8_turn_ 149 = .ok (.iload_n 2, 1) := by decide +kernel
theorem dX8_turn__150 : decode cX8_turn_ 150 = .ok (.iconst 0, 1) := by decide +kernel
theorem dX8_turn__151 : decode cX8_turn_ 151 = .ok (.iconst 0, 1) := by decide +kernel
theorem dX8_turn__152 : decode cX8_turn_ 152 = .ok (.invokestatic 184, 3) := by decide +kernel
theorem dX8_turn__155 : decode cX8_turn_ 155 = .ok (.laload, 1) := by decide +kernel
theorem dX8_turn__156 : decode cX8_turn_ 156 = .ok (.lstore 7, 2) := by decide +kernel
theorem dX8_turn__158 : decode cX8_turn_ 158 = .ok (.iload_n 3, 1) := by decide +kernel
theorem dX8_turn__159 : decode cX8_turn_ 159 = .ok (.iconst (-1), 1) := by decide +kernel
theorem dX8_turn__160 : decode cX8_turn_ 160 = .ok (.if_icmp .eq 29, 3) := by decide +kernel
theorem dX8_turn__163 : decode cX8_turn_ 163 = .ok (.iload_n 1, 1) := by decide +kernel
theorem dX8_turn__164 : decode cX8_turn_ 164 = .ok (.ifCond .ne 14, 3) := by decide +kernel
theorem dX8_turn__167 : decode cX8_turn_ 167 = .ok (.lload 7, 2) := by decide +kernel
theorem dX8_turn__169 : decode cX8_turn_ 169 = .ok (.lload 4, 2) := by decide +kernel
theorem dX8_turn__171 : decode cX8_turn_ 171 = .ok (.lcmp, 1) := by decide +kernel
theorem dX8_turn__172 : decode cX8_turn_ 172 = .ok (.ifCond .gt 17, 3) := by decide +kernel
theorem dX8_turn__175 : decode cX8_turn_ 175 = .ok (.goto 21, 3) := by decide +kernel
theorem dX8_turn__178 : decode cX8_turn_ 178 = .ok (.lload 7, 2) := by decide +kernel
theorem dX8_turn__180 : decode cX8_turn_ 180 = .ok (.lload 4, 2) := by decide +kernel
theorem dX8_turn__182 : decode cX8_turn_ 182 = .ok (.lcmp, 1) := by decide +kernel
theorem dX8_turn__183 : decode cX8_turn_ 183 = .ok (.ifCond .lt 6, 3) := by decide +kernel
theorem dX8_turn__186 : decode cX8_turn_ 186 = .ok (.goto 10, 3) := by decide +kernel
theorem dX8_turn__189 : decode cX8_turn_ 189 = .ok (.iload 6, 2) := by decide +kernel
theorem dX8_turn__191 : decode cX8_turn_ 191 = .ok (.istore_n 3, 1) := by decide +kernel
theorem dX8_turn__192 : decode cX8_turn_ 192 = .ok (.lload 7, 2) := by decide +kernel
theorem dX8_turn__194 : decode cX8_turn_ 194 = .ok (.lstore 4, 2) := by decide +kernel
theorem dX8_turn__196 : decode cX8_turn_ 196 = .ok (.iinc 6 1, 3) := by decide +kernel
theorem dX8_turn__199 : decode cX8_turn_ 199 = .ok (.goto (-145), 3) := by decide +kernel
theorem dX8_turn__202 : decode cX8_turn_ 202 = .ok (.aload_n 0, 1) := by decide +kernel
theorem dX8_turn__203 : decode cX8_turn_ 203 = .ok (.lload 4, 2) := by decide +kernel
theorem dX8_turn__205 : decode cX8_turn_ 205 = .ok (.l2i, 1) := by decide +kernel
theorem dX8_turn__206 : decode cX8_turn_ 206 = .ok (.putfield 200, 3) := by decide +kernel
theorem dX8_turn__209 : decode cX8_turn_ 209 = .ok (.aload_n 0, 1) := by decide +kernel
theorem dX8_turn__210 : decode cX8_turn_ 210 = .ok (.iconst 1, 1) := by decide +kernel
theorem dX8_turn__211 : decode cX8_turn_ 211 = .ok (.putfield 132, 3) := by decide +kernel
theorem dX8_turn__214 : decode cX8_turn_ 214 = .ok (.iload_n 3, 1) := by decide +kernel
theorem dX8_turn__215 : decode cX8_turn_ 215 = .ok (.ireturn, 1) := by decide +kernel
theorem dX8_advice_0 : decode cX8_advice 0 = .ok (.aload_n 0, 1) := by decide +kernel
theorem dX8_advice_1 : decode cX8_advice 1 = .ok (.iconst 0, 1) := by decide +kernel
theorem dX8_advice_2 : decode cX8_advice 2 = .ok (.putfield 63, 3) := by decide +kernel
theorem dX8_advice_5 : decode cX8_advice 5 = .ok (.iload_n 1, 1) := by decide +kernel
theorem dX8_advice_6 : decode cX8_advice 6 = .ok (.invokestatic 71, 3) := by decide +kernel
theorem dX8_advice_9 : decode cX8_advice 9 = .ok (.ifCond .eq 10, 3) := by decide +kernel
theorem dX8_advice_12 : decode cX8_advice 12 = .ok (.aload_n 0, 1) := by decide +kernel
theorem dX8_advice_13 : decode cX8_advice 13 = .ok (.invokevirtual 82, 3) := by decide +kernel
theorem dX8_advice_16 : decode cX8_advice 16 = .ok (.ifCond .ne 5, 3) := by decide +kernel
theorem dX8_advice_19 : decode cX8_advice 19 = .ok (.iconst (-1), 1) := by decide +kernel
theorem dX8_advice_20 : decode cX8_advice 20 = .ok (.ireturn, 1) := by decide +kernel
theorem dX8_advice_21 : decode cX8_advice 21 = .ok (.aload_n 0, 1) := by decide +kernel
theorem dX8_advice_22 : decode cX8_advice 22 = .ok (.invokevirtual 174, 3) := by decide +kernel
theorem dX8_advice_25 : decode cX8_advice 25 = .ok (.aload_n 0, 1) := by decide +kernel
theorem dX8_advice_26 : decode cX8_advice 26 = .ok (.aload_n 0, 1) := by decide +kernel
theorem dX8_advice_27 : decode cX8_advice 27 = .ok (.invokevirtual 102, 3) := by decide +kernel
theorem dX8_advice_30 : decode cX8_advice 30 = .ok (.invokevirtual 194, 3) := by decide +kernel
theorem dX8_advice_33 : decode cX8_advice 33 = .ok (.bipush (-2), 2) := by decide +kernel
theorem dX8_advice_35 : decode cX8_advice 35 = .ok (.istore_n 2, 1) := by decide +kernel
theorem dX8_advice_36 : decode cX8_advice 36 = .ok (.aload_n 0, 1) := by decide +kernel
theorem dX8_advice_37 : decode cX8_advice 37 = .ok (.invokevirtual 197, 3) := by decide +kernel
theorem dX8_advice_40 : decode cX8_advice 40 = .ok (.istore_n 3, 1) := by decide +kernel
theorem dX8_advice_41 : decode cX8_advice 41 = .ok (.iconst 0, 1) := by decide +kernel
theorem dX8_advice_42 : decode cX8_advice 42 = .ok (.istore 4, 2) := by decide +kernel
theorem dX8_advice_44 : decode cX8_advice 44 = .ok (.iload 4, 2) := by decide +kernel
theorem dX8_advice_46 : decode cX8_advice 46 = .ok (.bipush 12, 2) := by decide +kernel
theorem dX8_advice_48 : decode cX8_advice 48 = .ok (.if_icmp .ge 111, 3) := by decide +kernel
theorem dX8_advice_51 : decode cX8_advice 51 = .ok (.iconst 0, 1) := by decide +kernel
theorem dX8_advice_52 : decode cX8_advice 52 = .ok (.istore 5, 2) := by decide +kernel
theorem dX8_advice_54 : decode cX8_advice 54 = .ok (.iload 5, 2) := by decide +kernel
theorem dX8_advice_56 : decode cX8_advice 56 = .ok (.bipush 12, 2) := by decide +kernel
theorem dX8_advice_58 : decode cX8_advice 58 = .ok (.if_icmp .ge 95, 3) := by decide +kernel
theorem dX8_advice_61 : decode cX8_advice 61 = .ok (.aload_n 0, 1) := by decide +kernel
theorem dX8_advice_62 : decode cX8_advice 62 = .ok (.iload_n 1, 1) := by decide +kernel
theorem dX8_advice_63 : decode cX8_advice 63 = .ok (.iload 4, 2) := by decide +kernel
theorem dX8_advice_65 : decode cX8_advice 65 = .ok (.iload 5, 2) := by decide +kernel
theorem dX8_advice_67 : decode cX8_advice 67 = .ok (.invokevirtual 120, 3) := by decide +kernel
theorem dX8_advice_70 : decode cX8_advice 70 = .ok (.ifCond .eq 6, 3) := by decide +kernel
theorem dX8_advice_73 : decode cX8_advice 73 = .ok (.goto 74, 3) := by decide +kernel
theorem dX8_advice_76 : decode cX8_advice 76 = .ok (.aload_n 0, 1) := by decide +kernel
theorem dX8_advice_77 : decode cX8_advice 77 = .ok (.invokevirtual 174, 3) := by decide +kernel
theorem dX8_advice_80 : decode cX8_advice 80 = .ok (.aload_n 0, 1) := by decide +kernel
theorem dX8_advice_81 : decode cX8_advice 81 = .ok (.getfield 45, 3) := by decide +kernel
theorem dX8_advice_84 : decode cX8_advice 84 = .ok (.bipush 6, 2) := by decide +kernel
theorem dX8_advice_86 : decode cX8_advice 86 = .ok (.iload_n 1, 1) := by decide +kernel
theorem dX8_advice_87 : decode cX8_advice 87 = .ok (.imul, 1) := by decide +kernel
theorem dX8_advice_88 : decode cX8_advice 88 = .ok (.aload_n 0, 1) := by decide +kernel
theorem dX8_advice_89 : decode cX8_advice 89 = .ok (.iload_n 1, 1) := by decide +kernel
theorem dX8_advice_90 : decode cX8_advice 90 = .ok (.iload 4, 2) := by decide +kernel
theorem dX8_advice_92 : decode cX8_advice 92 = .ok (.invokevirtual 117, 3) := by decide +kernel
theorem dX8_advice_95 : decode cX8_advice 95 = .ok (.iadd, 1) := by decide +kernel
theorem dX8_advice_96 : decode cX8_advice 96 = .ok (.iload 5, 2) := by decide +kernel
theorem dX8_advice_98 : decode cX8_advice 98 = .ok (.iastore, 1) := by decide +kernel
theorem dX8_advice_99 : decode cX8_advice 99 = .ok (.aload_n 0, 1) := by decide +kernel
theorem dX8_advice_100 : decode cX8_advice 100 = .ok (.aload_n 0, 1) := by decide +kernel
theorem dX8_advice_101 : decode cX8_advice 101 = .ok (.invokevirtual 102, 3) := by decide +kernel
theorem dX8_advice_104 : decode cX8_advice 104 = .ok (.invokevirtual 194, 3) := by decide +kernel
theorem dX8_advice_107 : decode cX8_advice 107 = .ok (.aload_n 0, 1) := by decide +kernel
theorem dX8_advice_108 : decode cX8_advice 108 = .ok (.invokevirtual 197, 3) := by decide +kernel
theorem dX8_advice_111 : decode cX8_advice 111 = .ok (.istore 6, 2) := by decide +kernel
theorem dX8_advice_113 : decode cX8_advice 113 = .ok (.iload_n 1, 1) := by decide +kernel
theorem dX8_advice_114 : decode cX8_advice 114 = .ok (.ifCond .ne 12, 3) := by decide +kernel
theorem dX8_advice_117 : decode cX8_advice 117 = .ok (.iload 6, 2) := by decide +kernel
theorem dX8_advice_119 : decode cX8_advice 119 = .ok (.iload_n 3, 1) := by decide +kernel
theorem dX8_advice_120 : decode cX8_advice 120 = .ok (.if_icmp .gt 15, 3) := by decide +kernel
theorem dX8_advice_123 : decode cX8_advice 123 = .ok (.goto 24, 3) := by decide +kernel
theorem dX8_advice_126 : decode cX8_advice 126 = .ok (.iload 6, 2) := by decide +kernel
theorem dX8_advice_128 : decode cX8_advice 128 = .ok (.iload_n 3, 1) := by decide +kernel
theorem dX8_advice_129 : decode cX8_advice 129 = .ok (.if_icmp .lt 6, 3) := by decide +kernel
theorem dX8_advice_132 : decode cX8_advice 132 = .ok (.goto 15, 3) := by decide +kernel
theorem dX8_advice_135 : decode cX8_advice 135 = .ok (.bipush 12, 2) := by decide +kernel
theorem dX8_advice_137 : decode cX8_advice 137 = .ok (.iload 4, 2) := by decide +kernel
theorem dX8_advice_139 : decode cX8_advice 139 = .ok (.imul, 1) := by decide +kernel
theorem dX8_advice_140 : decode cX8_advice 140 = .ok (.iload 5, 2) := by decide +kernel
theorem dX8_advice_142 : decode cX8_advice 142 = .ok (.iadd, 1) := by decide +kernel
theorem dX8_advice_143 : decode cX8_advice 143 = .ok (.istore_n 2, 1) := by decide +kernel
theorem dX8_advice_144 : decode cX8_advice 144 = .ok (.iload 6, 2) := by decide +kernel
theorem dX8_advice_146 : decode cX8_advice 146 = .ok (.istore_n 3, 1) := by decide +kernel
theorem dX8_advice_147 : decode cX8_advice 147 = .ok (.iinc 5 1, 3) := by decide +kernel
theorem dX8_advice_150 : decode cX8_advice 150 = .ok (.goto (-96), 3) := by decide +kernel
theorem dX8_advice_153 : decode cX8_advice 153 = .ok (.iinc 4 1, 3) := by decide +kernel
theorem dX8_advice_156 : decode cX8_advice 156 = .ok (.goto (-112), 3) := by decide +kernel
theorem dX8_advice_159 : decode cX8_advice 159 = .ok (.iload_n 2, 1) := by decide +kernel
theorem dX8_advice_160 : decode cX8_advice 160 = .ok (.bipush (-2), 2) := by decide +kernel
theorem dX8_advice_162 : decode cX8_advice 162 = .ok (.if_icmp .ne 5, 3) := by decide +kernel
theorem dX8_advice_165 : decode cX8_advice 165 = .ok (.iload_n 2, 1) := by decide +kernel
theorem dX8_advice_166 : decode cX8_advice 166 = .ok (.ireturn, 1) := by decide +kernel
theorem dX8_advice_167 : decode cX8_advice 167 = .ok (.aload_n 0, 1) := by decide +kernel
theorem dX8_advice_168 : decode cX8_advice 168 = .ok (.iload_n 3, 1) := by decide +kernel
theorem dX8_advice_169 : decode cX8_advice 169 = .ok (.putfield 200, 3) := by decide +kernel
theorem dX8_advice_172 : decode cX8_advice 172 = .ok (.aload_n 0, 1) := by decide +kernel
theorem dX8_advice_173 : decode cX8_advice 173 = .ok (.iconst 1, 1) := by decide +kernel
theorem dX8_advice_174 : decode cX8_advice 174 = .ok (.putfield 132, 3) := by decide +kernel
theorem dX8_advice_177 : decode cX8_advice 177 = .ok (.iload_n 2, 1) := by decide +kernel
theorem dX8_advice_178 : decode cX8_advice 178 = .ok (.ireturn, 1) := by decide +kernel
theorem dX8_row_0 : decode cX8_row 0 = .ok (.aload_n 0, 1) := by decide +kernel
theorem dX8_row_1 : decode cX8_row 1 = .ok (.iconst 0, 1) := by decide +kernel
theorem dX8_row_2 : decode cX8_row 2 = .ok (.putfield 63, 3) := by decide +kernel
theorem dX8_row_5 : decode cX8_row 5 = .ok (.iload_n 1, 1) := by decide +kernel
theorem dX8_row_6 : decode cX8_row 6 = .ok (.ifCond .ne 16, 3) := by decide +kernel
theorem dX8_row_9 : decode cX8_row 9 = .ok (.aload_n 0, 1) := by decide +kernel
theorem dX8_row_10 : decode cX8_row 10 = .ok (.getfield 132, 3) := by decide +kernel
theorem dX8_row_13 : decode cX8_row 13 = .ok (.iconst 1, 1) := by decide +kernel
theorem dX8_row_14 : decode cX8_row 14 = .ok (.if_icmp .ne 8, 3) := by decide +kernel
theorem dX8_row_17 : decode cX8_row 17 = .ok (.aload_n 0, 1) := by decide +kernel
theorem dX8_row_18 : decode cX8_row 18 = .ok (.getfield 200, 3) := by decide +kernel
theorem dX8_row_21 : decode cX8_row 21 = .ok (.ireturn, 1) := by decide +kernel
theorem dX8_row_22 : decode cX8_row 22 = .ok (.aload_n 0, 1) := by decide +kernel
theorem dX8_row_23 : decode cX8_row 23 = .ok (.iconst 1, 1) := by decide +kernel
theorem dX8_row_24 : decode cX8_row 24 = .ok (.putfield 63, 3) := by decide +kernel
theorem dX8_row_27 : decode cX8_row 27 = .ok (.iconst 0, 1) := by decide +kernel
theorem dX8_row_28 : decode cX8_row 28 = .ok (.ireturn, 1) := by decide +kernel
end
section
theorem dL_row_0 : decode cL_row 0 = .ok (.aload_n 2, 1) := by decide +kernel
theorem dL_row_1 : decode cL_row 1 = .ok (.iconst 0, 1) := by decide +kernel
theorem dL_row_2 : decode cL_row 2 = .ok (.aload_n 0, 1) := by decide +kernel
theorem dL_row_3 : decode cL_row 3 = .ok (.iload_n 1, 1) := by decide +kernel
theorem dL_row_4 : decode cL_row 4 = .ok (.invokevirtual 7, 3) := by decide +kernel
theorem dL_row_7 : decode cL_row 7 = .ok (.i2l, 1) := by decide +kernel
theorem dL_row_8 : decode cL_row 8 = .ok (.lastore, 1) := by decide +kernel
theorem dL_row_9 : decode cL_row 9 = .ok (.goto 6, 3) := by decide +kernel
theorem dL_row_12 : decode cL_row 12 = .ok (.astore_n 3, 1) := by decide +kernel
theorem dL_row_13 : decode cL_row 13 = .ok (.iconst 1, 1) := by decide +kernel
theorem dL_row_14 : decode cL_row 14 = .ok (.ireturn, 1) := by decide +kernel
theorem dL_row_15 : decode cL_row 15 = .ok (.iconst 0, 1) := by decide +kernel
theorem dL_row_16 : decode cL_row 16 = .ok (.ireturn, 1) := by decide +kernel
theorem dL_law_0 : decode cL_law 0 = .ok (.new 8, 3) := by decide +kernel
theorem dL_law_3 : decode cL_law 3 = .ok (.dup, 1) := by decide +kernel
theorem dL_law_4 : decode cL_law 4 = .ok (.invokespecial 15, 3) := by decide +kernel
theorem dL_law_7 : decode cL_law 7 = .ok (.astore_n 1, 1) := by decide +kernel
theorem dL_law_8 : decode cL_law 8 = .ok (.new 16, 3) := by decide +kernel
theorem dL_law_11 : decode cL_law 11 = .ok (.dup, 1) := by decide +kernel
theorem dL_law_12 : decode cL_law 12 = .ok (.invokespecial 18, 3) := by decide +kernel
theorem dL_law_15 : decode cL_law 15 = .ok (.astore_n 2, 1) := by decide +kernel
theorem dL_law_16 : decode cL_law 16 = .ok (.iconst 1, 1) := by decide +kernel
theorem dL_law_17 : decode cL_law 17 = .ok (.newarray .long, 2) := by decide +kernel
theorem dL_law_19 : decode cL_law 19 = .ok (.astore_n 3, 1) := by decide +kernel
theorem dL_law_20 : decode cL_law 20 = .ok (.iconst 0, 1) := by decide +kernel
theorem dL_law_21 : decode cL_law 21 = .ok (.istore 4, 2) := by decide +kernel
theorem dL_law_23 : decode cL_law 23 = .ok (.iload 4, 2) := by decide +kernel
theorem dL_law_25 : decode cL_law 25 = .ok (.aload_n 0, 1) := by decide +kernel
theorem dL_law_26 : decode cL_law 26 = .ok (.arraylength, 1) := by decide +kernel
theorem dL_law_27 : decode cL_law 27 = .ok (.bipush 8, 2) := by decide +kernel
theorem dL_law_29 : decode cL_law 29 = .ok (.isub, 1) := by decide +kernel
theorem dL_law_30 : decode cL_law 30 = .ok (.if_icmp .gt 1085, 3) := by decide +kernel
theorem dL_law_33 : decode cL_law 33 = .ok (.aload_n 0, 1) := by decide +kernel
theorem dL_law_34 : decode cL_law 34 = .ok (.iload 4, 2) := by decide +kernel
theorem dL_law_36 : decode cL_law 36 = .ok (.iaload, 1) := by decide +kernel
theorem dL_law_37 : decode cL_law 37 = .ok (.bipush 31, 2) := by decide +kernel
theorem dL_law_39 : decode cL_law 39 = .ok (.iand, 1) := by decide +kernel
theorem dL_law_40 : decode cL_law 40 = .ok (.tableswitch 1069 0 25 #[120, 181, 218, 255, 356, 381, 406, 455, 504, 541, 566, 591, 628, 665, 690, 727, 788, 813, 838, 863, 876, 925, 938, 951, 988, 1013], 120) := by decide +kernel
theorem dL_law_160 : decode cL_law 160 = .ok (.aload_n 1, 1) := by decide +kernel
theorem dL_law_161 : decode cL_law 161 = .ok (.aload_n 0, 1) := by decide +kernel
theorem dL_law_162 : decode cL_law 162 = .ok (.iload 4, 2) := by decide +kernel
theorem dL_law_164 : decode cL_law 164 = .ok (.iconst 1, 1) := by decide +kernel
theorem dL_law_165 : decode cL_law 165 = .ok (.iadd, 1) := by decide +kernel
theorem dL_law_166 : decode cL_law 166 = .ok (.iaload, 1) := by decide +kernel
theorem dL_law_167 : decode cL_law 167 = .ok (.aload_n 0, 1) := by decide +kernel
theorem dL_law_168 : decode cL_law 168 = .ok (.iload 4, 2) := by decide +kernel
theorem dL_law_170 : decode cL_law 170 = .ok (.iconst 2, 1) := by decide +kernel
theorem dL_law_171 : decode cL_law 171 = .ok (.iadd, 1) := by decide +kernel
theorem dL_law_172 : decode cL_law 172 = .ok (.iaload, 1) := by decide +kernel
theorem dL_law_173 : decode cL_law 173 = .ok (.aload_n 0, 1) := by decide +kernel
theorem dL_law_174 : decode cL_law 174 = .ok (.iload 4, 2) := by decide +kernel
theorem dL_law_176 : decode cL_law 176 = .ok (.iconst 3, 1) := by decide +kernel
theorem dL_law_177 : decode cL_law 177 = .ok (.iadd, 1) := by decide +kernel
theorem dL_law_178 : decode cL_law 178 = .ok (.iaload, 1) := by decide +kernel
theorem dL_law_179 : decode cL_law 179 = .ok (.aload_n 0, 1) := by decide +kernel
theorem dL_law_180 : decode cL_law 180 = .ok (.iload 4, 2) := by decide +kernel
theorem dL_law_182 : decode cL_law 182 = .ok (.iconst 4, 1) := by decide +kernel
theorem dL_law_183 : decode cL_law 183 = .ok (.iadd, 1) := by decide +kernel
theorem dL_law_184 : decode cL_law 184 = .ok (.iaload, 1) := by decide +kernel
theorem dL_law_185 : decode cL_law 185 = .ok (.invokevirtual 19, 3) := by decide +kernel
theorem dL_law_188 : decode cL_law 188 = .ok (.aload_n 2, 1) := by decide +kernel
theorem dL_law_189 : decode cL_law 189 = .ok (.aload_n 0, 1) := by decide +kernel
theorem dL_law_190 : decode cL_law 190 = .ok (.iload 4, 2) := by decide +kernel
theorem dL_law_192 : decode cL_law 192 = .ok (.iconst 1, 1) := by decide +kernel
theorem dL_law_193 : decode cL_law 193 = .ok (.iadd, 1) := by decide +kernel
theorem dL_law_194 : decode cL_law 194 = .ok (.iaload, 1) := by decide +kernel
theorem dL_law_195 : decode cL_law 195 = .ok (.aload_n 0, 1) := by decide +kernel
theorem dL_law_196 : decode cL_law 196 = .ok (.iload 4, 2) := by decide +kernel
theorem dL_law_198 : decode cL_law 198 = .ok (.iconst 2, 1) := by decide +kernel
theorem dL_law_199 : decode cL_law 199 = .ok (.iadd, 1) := by decide +kernel
theorem dL_law_200 : decode cL_law 200 = .ok (.iaload, 1) := by decide +kernel
theorem dL_law_201 : decode cL_law 201 = .ok (.aload_n 0, 1) := by decide +kernel
theorem dL_law_202 : decode cL_law 202 = .ok (.iload 4, 2) := by decide +kernel
theorem dL_law_204 : decode cL_law 204 = .ok (.iconst 3, 1) := by decide +kernel
theorem dL_law_205 : decode cL_law 205 = .ok (.iadd, 1) := by decide +kernel
theorem dL_law_206 : decode cL_law 206 = .ok (.iaload, 1) := by decide +kernel
theorem dL_law_207 : decode cL_law 207 = .ok (.aload_n 0, 1) := by decide +kernel
theorem dL_law_208 : decode cL_law 208 = .ok (.iload 4, 2) := by decide +kernel
theorem dL_law_210 : decode cL_law 210 = .ok (.iconst 4, 1) := by decide +kernel
theorem dL_law_211 : decode cL_law 211 = .ok (.iadd, 1) := by decide +kernel
theorem dL_law_212 : decode cL_law 212 = .ok (.iaload, 1) := by decide +kernel
theorem dL_law_213 : decode cL_law 213 = .ok (.invokevirtual 23, 3) := by decide +kernel
theorem dL_law_216 : decode cL_law 216 = .ok (.if_icmp .eq 893, 3) := by decide +kernel
theorem dL_law_219 : decode cL_law 219 = .ok (.iconst 0, 1) := by decide +kernel
theorem dL_law_220 : decode cL_law 220 = .ok (.ireturn, 1) := by decide +kernel
theorem dL_law_221 : decode cL_law 221 = .ok (.aload_n 1, 1) := by decide +kernel
theorem dL_law_222 : decode cL_law 222 = .ok (.aload_n 0, 1) := by decide +kernel
theorem dL_law_223 : decode cL_law 223 = .ok (.iload 4, 2) := by decide +kernel
theorem dL_law_225 : decode cL_law 225 = .ok (.iconst 1, 1) := by decide +kernel
theorem dL_law_226 : decode cL_law 226 = .ok (.iadd, 1) := by decide +kernel
theorem dL_law_227 : decode cL_law 227 = .ok (.iaload, 1) := by decide +kernel
theorem dL_law_228 : decode cL_law 228 = .ok (.aload_n 0, 1) := by decide +kernel
theorem dL_law_229 : decode cL_law 229 = .ok (.iload 4, 2) := by decide +kernel
theorem dL_law_231 : decode cL_law 231 = .ok (.iconst 2, 1) := by decide +kernel
theorem dL_law_232 : decode cL_law 232 = .ok (.iadd, 1) := by decide +kernel
theorem dL_law_233 : decode cL_law 233 = .ok (.iaload, 1) := by decide +kernel
theorem dL_law_234 : decode cL_law 234 = .ok (.invokevirtual 24, 3) := by decide +kernel
theorem dL_law_237 : decode cL_law 237 = .ok (.aload_n 2, 1) := by decide +kernel
theorem dL_law_238 : decode cL_law 238 = .ok (.aload_n 0, 1) := by decide +kernel
theorem dL_law_239 : decode cL_law 239 = .ok (.iload 4, 2) := by decide +kernel
theorem dL_law_241 : decode cL_law 241 = .ok (.iconst 1, 1) := by decide +kernel
theorem dL_law_242 : decode cL_law 242 = .ok (.iadd, 1) := by decide +kernel
theorem dL_law_243 : decode cL_law 243 = .ok (.iaload, 1) := by decide +kernel
theorem dL_law_244 : decode cL_law 244 = .ok (.aload_n 0, 1) := by decide +kernel
theorem dL_law_245 : decode cL_law 245 = .ok (.iload 4, 2) := by decide +kernel
theorem dL_law_247 : decode cL_law 247 = .ok (.iconst 2, 1) := by decide +kernel
theorem dL_law_248 : decode cL_law 248 = .ok (.iadd, 1) := by decide +kernel
theorem dL_law_249 : decode cL_law 249 = .ok (.iaload, 1) := by decide +kernel
theorem dL_law_250 : decode cL_law 250 = .ok (.invokevirtual 28, 3) := by decide +kernel
theorem dL_law_253 : decode cL_law 253 = .ok (.if_icmp .eq 856, 3) := by decide +kernel
theorem dL_law_256 : decode cL_law 256 = .ok (.iconst 0, 1) := by decide +kernel
theorem dL_law_257 : decode cL_law 257 = .ok (.ireturn, 1) := by decide +kernel
theorem dL_law_258 : decode cL_law 258 = .ok (.aload_n 1, 1) := by decide +kernel
theorem dL_law_259 : decode cL_law 259 = .ok (.aload_n 0, 1) := by decide +kernel
theorem dL_law_260 : decode cL_law 260 = .ok (.iload 4, 2) := by decide +kernel
theorem dL_law_262 : decode cL_law 262 = .ok (.iconst 1, 1) := by decide +kernel
theorem dL_law_263 : decode cL_law 263 = .ok (.iadd, 1) := by decide +kernel
theorem dL_law_264 : decode cL_law 264 = .ok (.iaload, 1) := by decide +kernel
theorem dL_law_265 : decode cL_law 265 = .ok (.aload_n 0, 1) := by decide +kernel
theorem dL_law_266 : decode cL_law 266 = .ok (.iload 4, 2) := by decide +kernel
theorem dL_law_268 : decode cL_law 268 = .ok (.iconst 2, 1) := by decide +kernel
theorem dL_law_269 : decode cL_law 269 = .ok (.iadd, 1) := by decide +kernel
theorem dL_law_270 : decode cL_law 270 = .ok (.iaload, 1) := by decide +kernel
theorem dL_law_271 : decode cL_law 271 = .ok (.invokevirtual 29, 3) := by decide +kernel
theorem dL_law_274 : decode cL_law 274 = .ok (.aload_n 2, 1) := by decide +kernel
theorem dL_law_275 : decode cL_law 275 = .ok (.aload_n 0, 1) := by decide +kernel
theorem dL_law_276 : decode cL_law 276 = .ok (.iload 4, 2) := by decide +kernel
theorem dL_law_278 : decode cL_law 278 = .ok (.iconst 1, 1) := by decide +kernel
theorem dL_law_279 : decode cL_law 279 = .ok (.iadd, 1) := by decide +kernel
theorem dL_law_280 : decode cL_law 280 = .ok (.iaload, 1) := by decide +kernel
theorem dL_law_281 : decode cL_law 281 = .ok (.aload_n 0, 1) := by decide +kernel
theorem dL_law_282 : decode cL_law 282 = .ok (.iload 4, 2) := by decide +kernel
theorem dL_law_284 : decode cL_law 284 = .ok (.iconst 2, 1) := by decide +kernel
theorem dL_law_285 : decode cL_law 285 = .ok (.iadd, 1) := by decide +kernel
theorem dL_law_286 : decode cL_law 286 = .ok (.iaload, 1) := by decide +kernel
theorem dL_law_287 : decode cL_law 287 = .ok (.invokevirtual 32, 3) := by decide +kernel
theorem dL_law_290 : decode cL_law 290 = .ok (.if_icmp .eq 819, 3) := by decide +kernel
theorem dL_law_293 : decode cL_law 293 = .ok (.iconst 0, 1) := by decide +kernel
theorem dL_law_294 : decode cL_law 294 = .ok (.ireturn, 1) := by decide +kernel
theorem dL_law_295 : decode cL_law 295 = .ok (.aload_n 1, 1) := by decide +kernel
theorem dL_law_296 : decode cL_law 296 = .ok (.aload_n 0, 1) := by decide +kernel
theorem dL_law_297 : decode cL_law 297 = .ok (.iload 4, 2) := by decide +kernel
theorem dL_law_299 : decode cL_law 299 = .ok (.iconst 1, 1) := by decide +kernel
theorem dL_law_300 : decode cL_law 300 = .ok (.iadd, 1) := by decide +kernel
theorem dL_law_301 : decode cL_law 301 = .ok (.iaload, 1) := by decide +kernel
theorem dL_law_302 : decode cL_law 302 = .ok (.aload_n 0, 1) := by decide +kernel
theorem dL_law_303 : decode cL_law 303 = .ok (.iload 4, 2) := by decide +kernel
theorem dL_law_305 : decode cL_law 305 = .ok (.iconst 2, 1) := by decide +kernel
theorem dL_law_306 : decode cL_law 306 = .ok (.iadd, 1) := by decide +kernel
theorem dL_law_307 : decode cL_law 307 = .ok (.iaload, 1) := by decide +kernel
theorem dL_law_308 : decode cL_law 308 = .ok (.aload_n 0, 1) := by decide +kernel
theorem dL_law_309 : decode cL_law 309 = .ok (.iload 4, 2) := by decide +kernel
theorem dL_law_311 : decode cL_law 311 = .ok (.iconst 3, 1) := by decide +kernel
theorem dL_law_312 : decode cL_law 312 = .ok (.iadd, 1) := by decide +kernel
theorem dL_law_313 : decode cL_law 313 = .ok (.iaload, 1) := by decide +kernel
theorem dL_law_314 : decode cL_law 314 = .ok (.aload_n 0, 1) := by decide +kernel
theorem dL_law_315 : decode cL_law 315 = .ok (.iload 4, 2) := by decide +kernel
theorem dL_law_317 : decode cL_law 317 = .ok (.iconst 4, 1) := by decide +kernel
theorem dL_law_318 : decode cL_law 318 = .ok (.iadd, 1) := by decide +kernel
theorem dL_law_319 : decode cL_law 319 = .ok (.iaload, 1) := by decide +kernel
theorem dL_law_320 : decode cL_law 320 = .ok (.aload_n 0, 1) := by decide +kernel
theorem dL_law_321 : decode cL_law 321 = .ok (.iload 4, 2) := by decide +kernel
theorem dL_law_323 : decode cL_law 323 = .ok (.iconst 5, 1) := by decide +kernel
theorem dL_law_324 : decode cL_law 324 = .ok (.iadd, 1) := by decide +kernel
theorem dL_law_325 : decode cL_law 325 = .ok (.iaload, 1) := by decide +kernel
theorem dL_law_326 : decode cL_law 326 = .ok (.aload_n 0, 1) := by decide +kernel
theorem dL_law_327 : decode cL_law 327 = .ok (.iload 4, 2) := by decide +kernel
theorem dL_law_329 : decode cL_law 329 = .ok (.bipush 6, 2) := by decide +kernel
theorem dL_law_331 : decode cL_law 331 = .ok (.iadd, 1) := by decide +kernel
theorem dL_law_332 : decode cL_law 332 = .ok (.iaload, 1) := by decide +kernel
theorem dL_law_333 : decode cL_law 333 = .ok (.aload_n 0, 1) := by decide +kernel
theorem dL_law_334 : decode cL_law 334 = .ok (.iload 4, 2) := by decide +kernel
theorem dL_law_336 : decode cL_law 336 = .ok (.bipush 7, 2) := by decide +kernel
theorem dL_law_338 : decode cL_law 338 = .ok (.iadd, 1) := by decide +kernel
theorem dL_law_339 : decode cL_law 339 = .ok (.iaload, 1) := by decide +kernel
theorem dL_law_340 : decode cL_law 340 = .ok (.invokevirtual 33, 3) := by decide +kernel
theorem dL_law_343 : decode cL_law 343 = .ok (.aload_n 2, 1) := by decide +kernel
theorem dL_law_344 : decode cL_law 344 = .ok (.aload_n 0, 1) := by decide +kernel
theorem dL_law_345 : decode cL_law 345 = .ok (.iload 4, 2) := by decide +kernel
theorem dL_law_347 : decode cL_law 347 = .ok (.iconst 1, 1) := by decide +kernel
theorem dL_law_348 : decode cL_law 348 = .ok (.iadd, 1) := by decide +kernel
theorem dL_law_349 : decode cL_law 349 = .ok (.iaload, 1) := by decide +kernel
theorem dL_law_350 : decode cL_law 350 = .ok (.aload_n 0, 1) := by decide +kernel
theorem dL_law_351 : decode cL_law 351 = .ok (.iload 4, 2) := by decide +kernel
theorem dL_law_353 : decode cL_law 353 = .ok (.iconst 2, 1) := by decide +kernel
theorem dL_law_354 : decode cL_law 354 = .ok (.iadd, 1) := by decide +kernel
theorem dL_law_355 : decode cL_law 355 = .ok (.iaload, 1) := by decide +kernel
theorem dL_law_356 : decode cL_law 356 = .ok (.aload_n 0, 1) := by decide +kernel
theorem dL_law_357 : decode cL_law 357 = .ok (.iload 4, 2) := by decide +kernel
theorem dL_law_359 : decode cL_law 359 = .ok (.iconst 3, 1) := by decide +kernel
theorem dL_law_360 : decode cL_law 360 = .ok (.iadd, 1) := by decide +kernel
theorem dL_law_361 : decode cL_law 361 = .ok (.iaload, 1) := by decide +kernel
theorem dL_law_362 : decode cL_law 362 = .ok (.aload_n 0, 1) := by decide +kernel
theorem dL_law_363 : decode cL_law 363 = .ok (.iload 4, 2) := by decide +kernel
theorem dL_law_365 : decode cL_law 365 = .ok (.iconst 4, 1) := by decide +kernel
theorem dL_law_366 : decode cL_law 366 = .ok (.iadd, 1) := by decide +kernel
theorem dL_law_367 : decode cL_law 367 = .ok (.iaload, 1) := by decide +kernel
theorem dL_law_368 : decode cL_law 368 = .ok (.aload_n 0, 1) := by decide +kernel
theorem dL_law_369 : decode cL_law 369 = .ok (.iload 4, 2) := by decide +kernel
theorem dL_law_371 : decode cL_law 371 = .ok (.iconst 5, 1) := by decide +kernel
theorem dL_law_372 : decode cL_law 372 = .ok (.iadd, 1) := by decide +kernel
theorem dL_law_373 : decode cL_law 373 = .ok (.iaload, 1) := by decide +kernel
theorem dL_law_374 : decode cL_law 374 = .ok (.aload_n 0, 1) := by decide +kernel
theorem dL_law_375 : decode cL_law 375 = .ok (.iload 4, 2) := by decide +kernel
theorem dL_law_377 : decode cL_law 377 = .ok (.bipush 6, 2) := by decide +kernel
theorem dL_law_379 : decode cL_law 379 = .ok (.iadd, 1) := by decide +kernel
theorem dL_law_380 : decode cL_law 380 = .ok (.iaload, 1) := by decide +kernel
theorem dL_law_381 : decode cL_law 381 = .ok (.aload_n 0, 1) := by decide +kernel
theorem dL_law_382 : decode cL_law 382 = .ok (.iload 4, 2) := by decide +kernel
theorem dL_law_384 : decode cL_law 384 = .ok (.bipush 7, 2) := by decide +kernel
theorem dL_law_386 : decode cL_law 386 = .ok (.iadd, 1) := by decide +kernel
theorem dL_law_387 : decode cL_law 387 = .ok (.iaload, 1) := by decide +kernel
theorem dL_law_388 : decode cL_law 388 = .ok (.invokevirtual 37, 3) := by decide +kernel
theorem dL_law_391 : decode cL_law 391 = .ok (.if_icmp .eq 718, 3) := by decide +kernel
theorem dL_law_394 : decode cL_law 394 = .ok (.iconst 0, 1) := by decide +kernel
theorem dL_law_395 : decode cL_law 395 = .ok (.ireturn, 1) := by decide +kernel
theorem dL_law_396 : decode cL_law 396 = .ok (.aload_n 1, 1) := by decide +kernel
theorem dL_law_397 : decode cL_law 397 = .ok (.aload_n 0, 1) := by decide +kernel
theorem dL_law_398 : decode cL_law 398 = .ok (.iload 4, 2) := by decide +kernel
theorem dL_law_400 : decode cL_law 400 = .ok (.iconst 1, 1) := by decide +kernel
theorem dL_law_401 : decode cL_law 401 = .ok (.iadd, 1) := by decide +kernel
theorem dL_law_402 : decode cL_law 402 = .ok (.iaload, 1) := by decide +kernel
theorem dL_law_403 : decode cL_law 403 = .ok (.invokevirtual 38, 3) := by decide +kernel
theorem dL_law_406 : decode cL_law 406 = .ok (.aload_n 2, 1) := by decide +kernel
theorem dL_law_407 : decode cL_law 407 = .ok (.aload_n 0, 1) := by decide +kernel
theorem dL_law_408 : decode cL_law 408 = .ok (.iload 4, 2) := by decide +kernel
theorem dL_law_410 : decode cL_law 410 = .ok (.iconst 1, 1) := by decide +kernel
theorem dL_law_411 : decode cL_law 411 = .ok (.iadd, 1) := by decide +kernel
theorem dL_law_412 : decode cL_law 412 = .ok (.iaload, 1) := by decide +kernel
theorem dL_law_413 : decode cL_law 413 = .ok (.invokevirtual 41, 3) := by decide +kernel
theorem dL_law_416 : decode cL_law 416 = .ok (.if_icmp .eq 693, 3) := by decide +kernel
theorem dL_law_419 : decode cL_law 419 = .ok (.iconst 0, 1) := by decide +kernel
theorem dL_law_420 : decode cL_law 420 = .ok (.ireturn, 1) := by decide +kernel
theorem dL_law_421 : decode cL_law 421 = .ok (.aload_n 1, 1) := by decide +kernel
theorem dL_law_422 : decode cL_law 422 = .ok (.aload_n 0, 1) := by decide +kernel
theorem dL_law_423 : decode cL_law 423 = .ok (.iload 4, 2) := by decide +kernel
theorem dL_law_425 : decode cL_law 425 = .ok (.iconst 1, 1) := by decide +kernel
theorem dL_law_426 : decode cL_law 426 = .ok (.iadd, 1) := by decide +kernel
theorem dL_law_427 : decode cL_law 427 = .ok (.iaload, 1) := by decide +kernel
theorem dL_law_428 : decode cL_law 428 = .ok (.invokevirtual 42, 3) := by decide +kernel
theorem dL_law_431 : decode cL_law 431 = .ok (.aload_n 2, 1) := by decide +kernel
theorem dL_law_432 : decode cL_law 432 = .ok (.aload_n 0, 1) := by decide +kernel
theorem dL_law_433 : decode cL_law 433 = .ok (.iload 4, 2) := by decide +kernel
theorem dL_law_435 : decode cL_law 435 = .ok (.iconst 1, 1) := by decide +kernel
theorem dL_law_436 : decode cL_law 436 = .ok (.iadd, 1) := by decide +kernel
theorem dL_law_437 : decode cL_law 437 = .ok (.iaload, 1) := by decide +kernel
theorem dL_law_438 : decode cL_law 438 = .ok (.invokevirtual 45, 3) := by decide +kernel
theorem dL_law_441 : decode cL_law 441 = .ok (.if_icmp .eq 668, 3) := by decide +kernel
theorem dL_law_444 : decode cL_law 444 = .ok (.iconst 0, 1) := by decide +kernel
theorem dL_law_445 : decode cL_law 445 = .ok (.ireturn, 1) := by decide +kernel
theorem dL_law_446 : decode cL_law 446 = .ok (.aload_n 1, 1) := by decide +kernel
theorem dL_law_447 : decode cL_law 447 = .ok (.aload_n 0, 1) := by decide +kernel
theorem dL_law_448 : decode cL_law 448 = .ok (.iload 4, 2) := by decide +kernel
theorem dL_law_450 : decode cL_law 450 = .ok (.iconst 1, 1) := by decide +kernel
theorem dL_law_451 : decode cL_law 451 = .ok (.iadd, 1) := by decide +kernel
theorem dL_law_452 : decode cL_law 452 = .ok (.iaload, 1) := by decide +kernel
theorem dL_law_453 : decode cL_law 453 = .ok (.aload_n 0, 1) := by decide +kernel
theorem dL_law_454 : decode cL_law 454 = .ok (.iload 4, 2) := by decide +kernel
theorem dL_law_456 : decode cL_law 456 = .ok (.iconst 2, 1) := by decide +kernel
theorem dL_law_457 : decode cL_law 457 = .ok (.iadd, 1) := by decide +kernel
theorem dL_law_458 : decode cL_law 458 = .ok (.iaload, 1) := by decide +kernel
theorem dL_law_459 : decode cL_law 459 = .ok (.aload_n 0, 1) := by decide +kernel
theorem dL_law_460 : decode cL_law 460 = .ok (.iload 4, 2) := by decide +kernel
theorem dL_law_462 : decode cL_law 462 = .ok (.iconst 3, 1) := by decide +kernel
theorem dL_law_463 : decode cL_law 463 = .ok (.iadd, 1) := by decide +kernel
theorem dL_law_464 : decode cL_law 464 = .ok (.iaload, 1) := by decide +kernel
theorem dL_law_465 : decode cL_law 465 = .ok (.invokevirtual 46, 3) := by decide +kernel
theorem dL_law_468 : decode cL_law 468 = .ok (.aload_n 2, 1) := by decide +kernel
theorem dL_law_469 : decode cL_law 469 = .ok (.aload_n 0, 1) := by decide +kernel
theorem dL_law_470 : decode cL_law 470 = .ok (.iload 4, 2) := by decide +kernel
theorem dL_law_472 : decode cL_law 472 = .ok (.iconst 1, 1) := by decide +kernel
theorem dL_law_473 : decode cL_law 473 = .ok (.iadd, 1) := by decide +kernel
theorem dL_law_474 : decode cL_law 474 = .ok (.iaload, 1) := by decide +kernel
theorem dL_law_475 : decode cL_law 475 = .ok (.aload_n 0, 1) := by decide +kernel
theorem dL_law_476 : decode cL_law 476 = .ok (.iload 4, 2) := by decide +kernel
theorem dL_law_478 : decode cL_law 478 = .ok (.iconst 2, 1) := by decide +kernel
theorem dL_law_479 : decode cL_law 479 = .ok (.iadd, 1) := by decide +kernel
theorem dL_law_480 : decode cL_law 480 = .ok (.iaload, 1) := by decide +kernel
theorem dL_law_481 : decode cL_law 481 = .ok (.aload_n 0, 1) := by decide +kernel
theorem dL_law_482 : decode cL_law 482 = .ok (.iload 4, 2) := by decide +kernel
theorem dL_law_484 : decode cL_law 484 = .ok (.iconst 3, 1) := by decide +kernel
theorem dL_law_485 : decode cL_law 485 = .ok (.iadd, 1) := by decide +kernel
theorem dL_law_486 : decode cL_law 486 = .ok (.iaload, 1) := by decide +kernel
theorem dL_law_487 : decode cL_law 487 = .ok (.invokevirtual 50, 3) := by decide +kernel
theorem dL_law_490 : decode cL_law 490 = .ok (.if_icmp .eq 619, 3) := by decide +kernel
theorem dL_law_493 : decode cL_law 493 = .ok (.iconst 0, 1) := by decide +kernel
theorem dL_law_494 : decode cL_law 494 = .ok (.ireturn, 1) := by decide +kernel
theorem dL_law_495 : decode cL_law 495 = .ok (.aload_n 1, 1) := by decide +kernel
theorem dL_law_496 : decode cL_law 496 = .ok (.aload_n 0, 1) := by decide +kernel
theorem dL_law_497 : decode cL_law 497 = .ok (.iload 4, 2) := by decide +kernel
theorem dL_law_499 : decode cL_law 499 = .ok (.iconst 1, 1) := by decide +kernel
theorem dL_law_500 : decode cL_law 500 = .ok (.iadd, 1) := by decide +kernel
theorem dL_law_501 : decode cL_law 501 = .ok (.iaload, 1) := by decide +kernel
theorem dL_law_502 : decode cL_law 502 = .ok (.aload_n 0, 1) := by decide +kernel
theorem dL_law_503 : decode cL_law 503 = .ok (.iload 4, 2) := by decide +kernel
theorem dL_law_505 : decode cL_law 505 = .ok (.iconst 2, 1) := by decide +kernel
theorem dL_law_506 : decode cL_law 506 = .ok (.iadd, 1) := by decide +kernel
theorem dL_law_507 : decode cL_law 507 = .ok (.iaload, 1) := by decide +kernel
theorem dL_law_508 : decode cL_law 508 = .ok (.aload_n 0, 1) := by decide +kernel
theorem dL_law_509 : decode cL_law 509 = .ok (.iload 4, 2) := by decide +kernel
theorem dL_law_511 : decode cL_law 511 = .ok (.iconst 3, 1) := by decide +kernel
theorem dL_law_512 : decode cL_law 512 = .ok (.iadd, 1) := by decide +kernel
theorem dL_law_513 : decode cL_law 513 = .ok (.iaload, 1) := by decide +kernel
theorem dL_law_514 : decode cL_law 514 = .ok (.invokevirtual 51, 3) := by decide +kernel
theorem dL_law_517 : decode cL_law 517 = .ok (.aload_n 2, 1) := by decide +kernel
theorem dL_law_518 : decode cL_law 518 = .ok (.aload_n 0, 1) := by decide +kernel
theorem dL_law_519 : decode cL_law 519 = .ok (.iload 4, 2) := by decide +kernel
theorem dL_law_521 : decode cL_law 521 = .ok (.iconst 1, 1) := by decide +kernel
theorem dL_law_522 : decode cL_law 522 = .ok (.iadd, 1) := by decide +kernel
theorem dL_law_523 : decode cL_law 523 = .ok (.iaload, 1) := by decide +kernel
theorem dL_law_524 : decode cL_law 524 = .ok (.aload_n 0, 1) := by decide +kernel
theorem dL_law_525 : decode cL_law 525 = .ok (.iload 4, 2) := by decide +kernel
theorem dL_law_527 : decode cL_law 527 = .ok (.iconst 2, 1) := by decide +kernel
theorem dL_law_528 : decode cL_law 528 = .ok (.iadd, 1) := by decide +kernel
theorem dL_law_529 : decode cL_law 529 = .ok (.iaload, 1) := by decide +kernel
theorem dL_law_530 : decode cL_law 530 = .ok (.aload_n 0, 1) := by decide +kernel
theorem dL_law_531 : decode cL_law 531 = .ok (.iload 4, 2) := by decide +kernel
theorem dL_law_533 : decode cL_law 533 = .ok (.iconst 3, 1) := by decide +kernel
theorem dL_law_534 : decode cL_law 534 = .ok (.iadd, 1) := by decide +kernel
theorem dL_law_535 : decode cL_law 535 = .ok (.iaload, 1) := by decide +kernel
theorem dL_law_536 : decode cL_law 536 = .ok (.invokevirtual 54, 3) := by decide +kernel
theorem dL_law_539 : decode cL_law 539 = .ok (.if_icmp .eq 570, 3) := by decide +kernel
theorem dL_law_542 : decode cL_law 542 = .ok (.iconst 0, 1) := by decide +kernel
theorem dL_law_543 : decode cL_law 543 = .ok (.ireturn, 1) := by decide +kernel
theorem dL_law_544 : decode cL_law 544 = .ok (.aload_n 1, 1) := by decide +kernel
theorem dL_law_545 : decode cL_law 545 = .ok (.aload_n 0, 1) := by decide +kernel
theorem dL_law_546 : decode cL_law 546 = .ok (.iload 4, 2) := by decide +kernel
theorem dL_law_548 : decode cL_law 548 = .ok (.iconst 1, 1) := by decide +kernel
theorem dL_law_549 : decode cL_law 549 = .ok (.iadd, 1) := by decide +kernel
theorem dL_law_550 : decode cL_law 550 = .ok (.iaload, 1) := by decide +kernel
theorem dL_law_551 : decode cL_law 551 = .ok (.aload_n 0, 1) := by decide +kernel
theorem dL_law_552 : decode cL_law 552 = .ok (.iload 4, 2) := by decide +kernel
theorem dL_law_554 : decode cL_law 554 = .ok (.iconst 2, 1) := by decide +kernel
theorem dL_law_555 : decode cL_law 555 = .ok (.iadd, 1) := by decide +kernel
theorem dL_law_556 : decode cL_law 556 = .ok (.iaload, 1) := by decide +kernel
theorem dL_law_557 : decode cL_law 557 = .ok (.invokevirtual 55, 3) := by decide +kernel
theorem dL_law_560 : decode cL_law 560 = .ok (.aload_n 2, 1) := by decide +kernel
theorem dL_law_561 : decode cL_law 561 = .ok (.aload_n 0, 1) := by decide +kernel
theorem dL_law_562 : decode cL_law 562 = .ok (.iload 4, 2) := by decide +kernel
theorem dL_law_564 : decode cL_law 564 = .ok (.iconst 1, 1) := by decide +kernel
theorem dL_law_565 : decode cL_law 565 = .ok (.iadd, 1) := by decide +kernel
theorem dL_law_566 : decode cL_law 566 = .ok (.iaload, 1) := by decide +kernel
theorem dL_law_567 : decode cL_law 567 = .ok (.aload_n 0, 1) := by decide +kernel
theorem dL_law_568 : decode cL_law 568 = .ok (.iload 4, 2) := by decide +kernel
theorem dL_law_570 : decode cL_law 570 = .ok (.iconst 2, 1) := by decide +kernel
theorem dL_law_571 : decode cL_law 571 = .ok (.iadd, 1) := by decide +kernel
theorem dL_law_572 : decode cL_law 572 = .ok (.iaload, 1) := by decide +kernel
theorem dL_law_573 : decode cL_law 573 = .ok (.invokevirtual 58, 3) := by decide +kernel
theorem dL_law_576 : decode cL_law 576 = .ok (.if_icmp .eq 533, 3) := by decide +kernel
theorem dL_law_579 : decode cL_law 579 = .ok (.iconst 0, 1) := by decide +kernel
theorem dL_law_580 : decode cL_law 580 = .ok (.ireturn, 1) := by decide +kernel
theorem dL_law_581 : decode cL_law 581 = .ok (.aload_n 1, 1) := by decide +kernel
theorem dL_law_582 : decode cL_law 582 = .ok (.aload_n 0, 1) := by decide +kernel
theorem dL_law_583 : decode cL_law 583 = .ok (.iload 4, 2) := by decide +kernel
theorem dL_law_585 : decode cL_law 585 = .ok (.iconst 1, 1) := by decide +kernel
theorem dL_law_586 : decode cL_law 586 = .ok (.iadd, 1) := by decide +kernel
theorem dL_law_587 : decode cL_law 587 = .ok (.iaload, 1) := by decide +kernel
theorem dL_law_588 : decode cL_law 588 = .ok (.invokevirtual 59, 3) := by decide +kernel
theorem dL_law_591 : decode cL_law 591 = .ok (.aload_n 2, 1) := by decide +kernel
theorem dL_law_592 : decode cL_law 592 = .ok (.aload_n 0, 1) := by decide +kernel
theorem dL_law_593 : decode cL_law 593 = .ok (.iload 4, 2) := by decide +kernel
theorem dL_law_595 : decode cL_law 595 = .ok (.iconst 1, 1) := by decide +kernel
theorem dL_law_596 : decode cL_law 596 = .ok (.iadd, 1) := by decide +kernel
theorem dL_law_597 : decode cL_law 597 = .ok (.iaload, 1) := by decide +kernel
theorem dL_law_598 : decode cL_law 598 = .ok (.invokevirtual 62, 3) := by decide +kernel
theorem dL_law_601 : decode cL_law 601 = .ok (.if_icmp .eq 508, 3) := by decide +kernel
theorem dL_law_604 : decode cL_law 604 = .ok (.iconst 0, 1) := by decide +kernel
theorem dL_law_605 : decode cL_law 605 = .ok (.ireturn, 1) := by decide +kernel
theorem dL_law_606 : decode cL_law 606 = .ok (.aload_n 1, 1) := by decide +kernel
theorem dL_law_607 : decode cL_law 607 = .ok (.aload_n 0, 1) := by decide +kernel
theorem dL_law_608 : decode cL_law 608 = .ok (.iload 4, 2) := by decide +kernel
theorem dL_law_610 : decode cL_law 610 = .ok (.iconst 1, 1) := by decide +kernel
theorem dL_law_611 : decode cL_law 611 = .ok (.iadd, 1) := by decide +kernel
theorem dL_law_612 : decode cL_law 612 = .ok (.iaload, 1) := by decide +kernel
theorem dL_law_613 : decode cL_law 613 = .ok (.invokevirtual 63, 3) := by decide +kernel
theorem dL_law_616 : decode cL_law 616 = .ok (.aload_n 2, 1) := by decide +kernel
theorem dL_law_617 : decode cL_law 617 = .ok (.aload_n 0, 1) := by decide +kernel
theorem dL_law_618 : decode cL_law 618 = .ok (.iload 4, 2) := by decide +kernel
theorem dL_law_620 : decode cL_law 620 = .ok (.iconst 1, 1) := by decide +kernel
theorem dL_law_621 : decode cL_law 621 = .ok (.iadd, 1) := by decide +kernel
theorem dL_law_622 : decode cL_law 622 = .ok (.iaload, 1) := by decide +kernel
theorem dL_law_623 : decode cL_law 623 = .ok (.invokevirtual 66, 3) := by decide +kernel
theorem dL_law_626 : decode cL_law 626 = .ok (.if_icmp .eq 483, 3) := by decide +kernel
theorem dL_law_629 : decode cL_law 629 = .ok (.iconst 0, 1) := by decide +kernel
theorem dL_law_630 : decode cL_law 630 = .ok (.ireturn, 1) := by decide +kernel
theorem dL_law_631 : decode cL_law 631 = .ok (.aload_n 1, 1) := by decide +kernel
theorem dL_law_632 : decode cL_law 632 = .ok (.aload_n 0, 1) := by decide +kernel
theorem dL_law_633 : decode cL_law 633 = .ok (.iload 4, 2) := by decide +kernel
theorem dL_law_635 : decode cL_law 635 = .ok (.iconst 1, 1) := by decide +kernel
theorem dL_law_636 : decode cL_law 636 = .ok (.iadd, 1) := by decide +kernel
theorem dL_law_637 : decode cL_law 637 = .ok (.iaload, 1) := by decide +kernel
theorem dL_law_638 : decode cL_law 638 = .ok (.aload_n 0, 1) := by decide +kernel
theorem dL_law_639 : decode cL_law 639 = .ok (.iload 4, 2) := by decide +kernel
theorem dL_law_641 : decode cL_law 641 = .ok (.iconst 2, 1) := by decide +kernel
theorem dL_law_642 : decode cL_law 642 = .ok (.iadd, 1) := by decide +kernel
theorem dL_law_643 : decode cL_law 643 = .ok (.iaload, 1) := by decide +kernel
theorem dL_law_644 : decode cL_law 644 = .ok (.invokevirtual 67, 3) := by decide +kernel
theorem dL_law_647 : decode cL_law 647 = .ok (.aload_n 2, 1) := by decide +kernel
theorem dL_law_648 : decode cL_law 648 = .ok (.aload_n 0, 1) := by decide +kernel
theorem dL_law_649 : decode cL_law 649 = .ok (.iload 4, 2) := by decide +kernel
theorem dL_law_651 : decode cL_law 651 = .ok (.iconst 1, 1) := by decide +kernel
theorem dL_law_652 : decode cL_law 652 = .ok (.iadd, 1) := by decide +kernel
theorem dL_law_653 : decode cL_law 653 = .ok (.iaload, 1) := by decide +kernel
theorem dL_law_654 : decode cL_law 654 = .ok (.aload_n 0, 1) := by decide +kernel
theorem dL_law_655 : decode cL_law 655 = .ok (.iload 4, 2) := by decide +kernel
theorem dL_law_657 : decode cL_law 657 = .ok (.iconst 2, 1) := by decide +kernel
theorem dL_law_658 : decode cL_law 658 = .ok (.iadd, 1) := by decide +kernel
theorem dL_law_659 : decode cL_law 659 = .ok (.iaload, 1) := by decide +kernel
theorem dL_law_660 : decode cL_law 660 = .ok (.invokevirtual 70, 3) := by decide +kernel
theorem dL_law_663 : decode cL_law 663 = .ok (.if_icmp .eq 446, 3) := by decide +kernel
theorem dL_law_666 : decode cL_law 666 = .ok (.iconst 0, 1) := by decide +kernel
theorem dL_law_667 : decode cL_law 667 = .ok (.ireturn, 1) := by decide +kernel
theorem dL_law_668 : decode cL_law 668 = .ok (.aload_n 1, 1) := by decide +kernel
theorem dL_law_669 : decode cL_law 669 = .ok (.aload_n 0, 1) := by decide +kernel
theorem dL_law_670 : decode cL_law 670 = .ok (.iload 4, 2) := by decide +kernel
theorem dL_law_672 : decode cL_law 672 = .ok (.iconst 1, 1) := by decide +kernel
theorem dL_law_673 : decode cL_law 673 = .ok (.iadd, 1) := by decide +kernel
theorem dL_law_674 : decode cL_law 674 = .ok (.iaload, 1) := by decide +kernel
theorem dL_law_675 : decode cL_law 675 = .ok (.aload_n 0, 1) := by decide +kernel
theorem dL_law_676 : decode cL_law 676 = .ok (.iload 4, 2) := by decide +kernel
theorem dL_law_678 : decode cL_law 678 = .ok (.iconst 2, 1) := by decide +kernel
theorem dL_law_679 : decode cL_law 679 = .ok (.iadd, 1) := by decide +kernel
theorem dL_law_680 : decode cL_law 680 = .ok (.iaload, 1) := by decide +kernel
theorem dL_law_681 : decode cL_law 681 = .ok (.invokevirtual 71, 3) := by decide +kernel
theorem dL_law_684 : decode cL_law 684 = .ok (.aload_n 2, 1) := by decide +kernel
theorem dL_law_685 : decode cL_law 685 = .ok (.aload_n 0, 1) := by decide +kernel
theorem dL_law_686 : decode cL_law 686 = .ok (.iload 4, 2) := by decide +kernel
theorem dL_law_688 : decode cL_law 688 = .ok (.iconst 1, 1) := by decide +kernel
theorem dL_law_689 : decode cL_law 689 = .ok (.iadd, 1) := by decide +kernel
theorem dL_law_690 : decode cL_law 690 = .ok (.iaload, 1) := by decide +kernel
theorem dL_law_691 : decode cL_law 691 = .ok (.aload_n 0, 1) := by decide +kernel
theorem dL_law_692 : decode cL_law 692 = .ok (.iload 4, 2) := by decide +kernel
theorem dL_law_694 : decode cL_law 694 = .ok (.iconst 2, 1) := by decide +kernel
theorem dL_law_695 : decode cL_law 695 = .ok (.iadd, 1) := by decide +kernel
theorem dL_law_696 : decode cL_law 696 = .ok (.iaload, 1) := by decide +kernel
theorem dL_law_697 : decode cL_law 697 = .ok (.invokevirtual 74, 3) := by decide +kernel
theorem dL_law_700 : decode cL_law 700 = .ok (.if_icmp .eq 409, 3) := by decide +kernel
theorem dL_law_703 : decode cL_law 703 = .ok (.iconst 0, 1) := by decide +kernel
theorem dL_law_704 : decode cL_law 704 = .ok (.ireturn, 1) := by decide +kernel
theorem dL_law_705 : decode cL_law 705 = .ok (.aload_n 1, 1) := by decide +kernel
theorem dL_law_706 : decode cL_law 706 = .ok (.aload_n 0, 1) := by decide +kernel
theorem dL_law_707 : decode cL_law 707 = .ok (.iload 4, 2) := by decide +kernel
theorem dL_law_709 : decode cL_law 709 = .ok (.iconst 1, 1) := by decide +kernel
theorem dL_law_710 : decode cL_law 710 = .ok (.iadd, 1) := by decide +kernel
theorem dL_law_711 : decode cL_law 711 = .ok (.iaload, 1) := by decide +kernel
theorem dL_law_712 : decode cL_law 712 = .ok (.invokevirtual 75, 3) := by decide +kernel
theorem dL_law_715 : decode cL_law 715 = .ok (.aload_n 2, 1) := by decide +kernel
theorem dL_law_716 : decode cL_law 716 = .ok (.aload_n 0, 1) := by decide +kernel
theorem dL_law_717 : decode cL_law 717 = .ok (.iload 4, 2) := by decide +kernel
theorem dL_law_719 : decode cL_law 719 = .ok (.iconst 1, 1) := by decide +kernel
theorem dL_law_720 : decode cL_law 720 = .ok (.iadd, 1) := by decide +kernel
theorem dL_law_721 : decode cL_law 721 = .ok (.iaload, 1) := by decide +kernel
theorem dL_law_722 : decode cL_law 722 = .ok (.invokevirtual 78, 3) := by decide +kernel
theorem dL_law_725 : decode cL_law 725 = .ok (.if_icmp .eq 384, 3) := by decide +kernel
theorem dL_law_728 : decode cL_law 728 = .ok (.iconst 0, 1) := by decide +kernel
theorem dL_law_729 : decode cL_law 729 = .ok (.ireturn, 1) := by decide +kernel
theorem dL_law_730 : decode cL_law 730 = .ok (.aload_n 1, 1) := by decide +kernel
theorem dL_law_731 : decode cL_law 731 = .ok (.aload_n 0, 1) := by decide +kernel
theorem dL_law_732 : decode cL_law 732 = .ok (.iload 4, 2) := by decide +kernel
theorem dL_law_734 : decode cL_law 734 = .ok (.iconst 1, 1) := by decide +kernel
theorem dL_law_735 : decode cL_law 735 = .ok (.iadd, 1) := by decide +kernel
theorem dL_law_736 : decode cL_law 736 = .ok (.iaload, 1) := by decide +kernel
theorem dL_law_737 : decode cL_law 737 = .ok (.aload_n 0, 1) := by decide +kernel
theorem dL_law_738 : decode cL_law 738 = .ok (.iload 4, 2) := by decide +kernel
theorem dL_law_740 : decode cL_law 740 = .ok (.iconst 2, 1) := by decide +kernel
theorem dL_law_741 : decode cL_law 741 = .ok (.iadd, 1) := by decide +kernel
theorem dL_law_742 : decode cL_law 742 = .ok (.iaload, 1) := by decide +kernel
theorem dL_law_743 : decode cL_law 743 = .ok (.invokevirtual 79, 3) := by decide +kernel
theorem dL_law_746 : decode cL_law 746 = .ok (.aload_n 2, 1) := by decide +kernel
theorem dL_law_747 : decode cL_law 747 = .ok (.aload_n 0, 1) := by decide +kernel
theorem dL_law_748 : decode cL_law 748 = .ok (.iload 4, 2) := by decide +kernel
theorem dL_law_750 : decode cL_law 750 = .ok (.iconst 1, 1) := by decide +kernel
theorem dL_law_751 : decode cL_law 751 = .ok (.iadd, 1) := by decide +kernel
theorem dL_law_752 : decode cL_law 752 = .ok (.iaload, 1) := by decide +kernel
theorem dL_law_753 : decode cL_law 753 = .ok (.aload_n 0, 1) := by decide +kernel
theorem dL_law_754 : decode cL_law 754 = .ok (.iload 4, 2) := by decide +kernel
theorem dL_law_756 : decode cL_law 756 = .ok (.iconst 2, 1) := by decide +kernel
theorem dL_law_757 : decode cL_law 757 = .ok (.iadd, 1) := by decide +kernel
theorem dL_law_758 : decode cL_law 758 = .ok (.iaload, 1) := by decide +kernel
theorem dL_law_759 : decode cL_law 759 = .ok (.invokevirtual 82, 3) := by decide +kernel
theorem dL_law_762 : decode cL_law 762 = .ok (.if_icmp .eq 347, 3) := by decide +kernel
theorem dL_law_765 : decode cL_law 765 = .ok (.iconst 0, 1) := by decide +kernel
theorem dL_law_766 : decode cL_law 766 = .ok (.ireturn, 1) := by decide +kernel
theorem dL_law_767 : decode cL_law 767 = .ok (.aload_n 1, 1) := by decide +kernel
theorem dL_law_768 : decode cL_law 768 = .ok (.aload_n 0, 1) := by decide +kernel
theorem dL_law_769 : decode cL_law 769 = .ok (.iload 4, 2) := by decide +kernel
theorem dL_law_771 : decode cL_law 771 = .ok (.iconst 1, 1) := by decide +kernel
theorem dL_law_772 : decode cL_law 772 = .ok (.iadd, 1) := by decide +kernel
theorem dL_law_773 : decode cL_law 773 = .ok (.iaload, 1) := by decide +kernel
theorem dL_law_774 : decode cL_law 774 = .ok (.aload_n 0, 1) := by decide +kernel
theorem dL_law_775 : decode cL_law 775 = .ok (.iload 4, 2) := by decide +kernel
theorem dL_law_777 : decode cL_law 777 = .ok (.iconst 2, 1) := by decide +kernel
theorem dL_law_778 : decode cL_law 778 = .ok (.iadd, 1) := by decide +kernel
theorem dL_law_779 : decode cL_law 779 = .ok (.iaload, 1) := by decide +kernel
theorem dL_law_780 : decode cL_law 780 = .ok (.aload_n 0, 1) := by decide +kernel
theorem dL_law_781 : decode cL_law 781 = .ok (.iload 4, 2) := by decide +kernel
theorem dL_law_783 : decode cL_law 783 = .ok (.iconst 3, 1) := by decide +kernel
theorem dL_law_784 : decode cL_law 784 = .ok (.iadd, 1) := by decide +kernel
theorem dL_law_785 : decode cL_law 785 = .ok (.iaload, 1) := by decide +kernel
theorem dL_law_786 : decode cL_law 786 = .ok (.aload_n 0, 1) := by decide +kernel
theorem dL_law_787 : decode cL_law 787 = .ok (.iload 4, 2) := by decide +kernel
theorem dL_law_789 : decode cL_law 789 = .ok (.iconst 4, 1) := by decide +kernel
theorem dL_law_790 : decode cL_law 790 = .ok (.iadd, 1) := by decide +kernel
theorem dL_law_791 : decode cL_law 791 = .ok (.iaload, 1) := by decide +kernel
theorem dL_law_792 : decode cL_law 792 = .ok (.invokevirtual 83, 3) := by decide +kernel
theorem dL_law_795 : decode cL_law 795 = .ok (.aload_n 2, 1) := by decide +kernel
theorem dL_law_796 : decode cL_law 796 = .ok (.aload_n 0, 1) := by decide +kernel
theorem dL_law_797 : decode cL_law 797 = .ok (.iload 4, 2) := by decide +kernel
theorem dL_law_799 : decode cL_law 799 = .ok (.iconst 1, 1) := by decide +kernel
theorem dL_law_800 : decode cL_law 800 = .ok (.iadd, 1) := by decide +kernel
theorem dL_law_801 : decode cL_law 801 = .ok (.iaload, 1) := by decide +kernel
theorem dL_law_802 : decode cL_law 802 = .ok (.aload_n 0, 1) := by decide +kernel
theorem dL_law_803 : decode cL_law 803 = .ok (.iload 4, 2) := by decide +kernel
theorem dL_law_805 : decode cL_law 805 = .ok (.iconst 2, 1) := by decide +kernel
theorem dL_law_806 : decode cL_law 806 = .ok (.iadd, 1) := by decide +kernel
theorem dL_law_807 : decode cL_law 807 = .ok (.iaload, 1) := by decide +kernel
theorem dL_law_808 : decode cL_law 808 = .ok (.aload_n 0, 1) := by decide +kernel
theorem dL_law_809 : decode cL_law 809 = .ok (.iload 4, 2) := by decide +kernel
theorem dL_law_811 : decode cL_law 811 = .ok (.iconst 3, 1) := by decide +kernel
theorem dL_law_812 : decode cL_law 812 = .ok (.iadd, 1) := by decide +kernel
theorem dL_law_813 : decode cL_law 813 = .ok (.iaload, 1) := by decide +kernel
theorem dL_law_814 : decode cL_law 814 = .ok (.aload_n 0, 1) := by decide +kernel
theorem dL_law_815 : decode cL_law 815 = .ok (.iload 4, 2) := by decide +kernel
theorem dL_law_817 : decode cL_law 817 = .ok (.iconst 4, 1) := by decide +kernel
theorem dL_law_818 : decode cL_law 818 = .ok (.iadd, 1) := by decide +kernel
theorem dL_law_819 : decode cL_law 819 = .ok (.iaload, 1) := by decide +kernel
theorem dL_law_820 : decode cL_law 820 = .ok (.invokevirtual 87, 3) := by decide +kernel
theorem dL_law_823 : decode cL_law 823 = .ok (.if_icmp .eq 286, 3) := by decide +kernel
theorem dL_law_826 : decode cL_law 826 = .ok (.iconst 0, 1) := by decide +kernel
theorem dL_law_827 : decode cL_law 827 = .ok (.ireturn, 1) := by decide +kernel
theorem dL_law_828 : decode cL_law 828 = .ok (.aload_n 1, 1) := by decide +kernel
theorem dL_law_829 : decode cL_law 829 = .ok (.aload_n 0, 1) := by decide +kernel
theorem dL_law_830 : decode cL_law 830 = .ok (.iload 4, 2) := by decide +kernel
theorem dL_law_832 : decode cL_law 832 = .ok (.iconst 1, 1) := by decide +kernel
theorem dL_law_833 : decode cL_law 833 = .ok (.iadd, 1) := by decide +kernel
theorem dL_law_834 : decode cL_law 834 = .ok (.iaload, 1) := by decide +kernel
theorem dL_law_835 : decode cL_law 835 = .ok (.invokevirtual 88, 3) := by decide +kernel
theorem dL_law_838 : decode cL_law 838 = .ok (.aload_n 2, 1) := by decide +kernel
theorem dL_law_839 : decode cL_law 839 = .ok (.aload_n 0, 1) := by decide +kernel
theorem dL_law_840 : decode cL_law 840 = .ok (.iload 4, 2) := by decide +kernel
theorem dL_law_842 : decode cL_law 842 = .ok (.iconst 1, 1) := by decide +kernel
theorem dL_law_843 : decode cL_law 843 = .ok (.iadd, 1) := by decide +kernel
theorem dL_law_844 : decode cL_law 844 = .ok (.iaload, 1) := by decide +kernel
theorem dL_law_845 : decode cL_law 845 = .ok (.invokevirtual 91, 3) := by decide +kernel
theorem dL_law_848 : decode cL_law 848 = .ok (.if_icmp .eq 261, 3) := by decide +kernel
theorem dL_law_851 : decode cL_law 851 = .ok (.iconst 0, 1) := by decide +kernel
theorem dL_law_852 : decode cL_law 852 = .ok (.ireturn, 1) := by decide +kernel
theorem dL_law_853 : decode cL_law 853 = .ok (.aload_n 1, 1) := by decide +kernel
theorem dL_law_854 : decode cL_law 854 = .ok (.aload_n 0, 1) := by decide +kernel
theorem dL_law_855 : decode cL_law 855 = .ok (.iload 4, 2) := by decide +kernel
theorem dL_law_857 : decode cL_law 857 = .ok (.iconst 1, 1) := by decide +kernel
theorem dL_law_858 : decode cL_law 858 = .ok (.iadd, 1) := by decide +kernel
theorem dL_law_859 : decode cL_law 859 = .ok (.iaload, 1) := by decide +kernel
theorem dL_law_860 : decode cL_law 860 = .ok (.invokevirtual 92, 3) := by decide +kernel
theorem dL_law_863 : decode cL_law 863 = .ok (.aload_n 2, 1) := by decide +kernel
theorem dL_law_864 : decode cL_law 864 = .ok (.aload_n 0, 1) := by decide +kernel
theorem dL_law_865 : decode cL_law 865 = .ok (.iload 4, 2) := by decide +kernel
theorem dL_law_867 : decode cL_law 867 = .ok (.iconst 1, 1) := by decide +kernel
theorem dL_law_868 : decode cL_law 868 = .ok (.iadd, 1) := by decide +kernel
theorem dL_law_869 : decode cL_law 869 = .ok (.iaload, 1) := by decide +kernel
theorem dL_law_870 : decode cL_law 870 = .ok (.invokevirtual 95, 3) := by decide +kernel
theorem dL_law_873 : decode cL_law 873 = .ok (.if_icmp .eq 236, 3) := by decide +kernel
theorem dL_law_876 : decode cL_law 876 = .ok (.iconst 0, 1) := by decide +kernel
theorem dL_law_877 : decode cL_law 877 = .ok (.ireturn, 1) := by decide +kernel
theorem dL_law_878 : decode cL_law 878 = .ok (.aload_n 1, 1) := by decide +kernel
theorem dL_law_879 : decode cL_law 879 = .ok (.aload_n 0, 1) := by decide +kernel
theorem dL_law_880 : decode cL_law 880 = .ok (.iload 4, 2) := by decide +kernel
theorem dL_law_882 : decode cL_law 882 = .ok (.iconst 1, 1) := by decide +kernel
theorem dL_law_883 : decode cL_law 883 = .ok (.iadd, 1) := by decide +kernel
theorem dL_law_884 : decode cL_law 884 = .ok (.iaload, 1) := by decide +kernel
theorem dL_law_885 : decode cL_law 885 = .ok (.invokevirtual 96, 3) := by decide +kernel
theorem dL_law_888 : decode cL_law 888 = .ok (.aload_n 2, 1) := by decide +kernel
theorem dL_law_889 : decode cL_law 889 = .ok (.aload_n 0, 1) := by decide +kernel
theorem dL_law_890 : decode cL_law 890 = .ok (.iload 4, 2) := by decide +kernel
theorem dL_law_892 : decode cL_law 892 = .ok (.iconst 1, 1) := by decide +kernel
theorem dL_law_893 : decode cL_law 893 = .ok (.iadd, 1) := by decide +kernel
theorem dL_law_894 : decode cL_law 894 = .ok (.iaload, 1) := by decide +kernel
theorem dL_law_895 : decode cL_law 895 = .ok (.invokevirtual 100, 3) := by decide +kernel
theorem dL_law_898 : decode cL_law 898 = .ok (.if_icmp .eq 211, 3) := by decide +kernel
theorem dL_law_901 : decode cL_law 901 = .ok (.iconst 0, 1) := by decide +kernel
theorem dL_law_902 : decode cL_law 902 = .ok (.ireturn, 1) := by decide +kernel
theorem dL_law_903 : decode cL_law 903 = .ok (.aload_n 1, 1) := by decide +kernel
theorem dL_law_904 : decode cL_law 904 = .ok (.invokevirtual 101, 3) := by decide +kernel
theorem dL_law_907 : decode cL_law 907 = .ok (.aload_n 2, 1) := by decide +kernel
theorem dL_law_908 : decode cL_law 908 = .ok (.invokevirtual 105, 3) := by decide +kernel
theorem dL_law_911 : decode cL_law 911 = .ok (.if_icmp .eq 198, 3) := by decide +kernel
theorem dL_law_914 : decode cL_law 914 = .ok (.iconst 0, 1) := by decide +kernel
theorem dL_law_915 : decode cL_law 915 = .ok (.ireturn, 1) := by decide +kernel
theorem dL_law_916 : decode cL_law 916 = .ok (.aload_n 1, 1) := by decide +kernel
theorem dL_law_917 : decode cL_law 917 = .ok (.aload_n 0, 1) := by decide +kernel
theorem dL_law_918 : decode cL_law 918 = .ok (.iload 4, 2) := by decide +kernel
theorem dL_law_920 : decode cL_law 920 = .ok (.iconst 1, 1) := by decide +kernel
theorem dL_law_921 : decode cL_law 921 = .ok (.iadd, 1) := by decide +kernel
theorem dL_law_922 : decode cL_law 922 = .ok (.iaload, 1) := by decide +kernel
theorem dL_law_923 : decode cL_law 923 = .ok (.aload_n 0, 1) := by decide +kernel
theorem dL_law_924 : decode cL_law 924 = .ok (.iload 4, 2) := by decide +kernel
theorem dL_law_926 : decode cL_law 926 = .ok (.iconst 2, 1) := by decide +kernel
theorem dL_law_927 : decode cL_law 927 = .ok (.iadd, 1) := by decide +kernel
theorem dL_law_928 : decode cL_law 928 = .ok (.iaload, 1) := by decide +kernel
theorem dL_law_929 : decode cL_law 929 = .ok (.aload_n 0, 1) := by decide +kernel
theorem dL_law_930 : decode cL_law 930 = .ok (.iload 4, 2) := by decide +kernel
theorem dL_law_932 : decode cL_law 932 = .ok (.iconst 3, 1) := by decide +kernel
theorem dL_law_933 : decode cL_law 933 = .ok (.iadd, 1) := by decide +kernel
theorem dL_law_934 : decode cL_law 934 = .ok (.iaload, 1) := by decide +kernel
theorem dL_law_935 : decode cL_law 935 = .ok (.invokevirtual 106, 3) := by decide +kernel
theorem dL_law_938 : decode cL_law 938 = .ok (.aload_n 2, 1) := by decide +kernel
theorem dL_law_939 : decode cL_law 939 = .ok (.aload_n 0, 1) := by decide +kernel
theorem dL_law_940 : decode cL_law 940 = .ok (.iload 4, 2) := by decide +kernel
theorem dL_law_942 : decode cL_law 942 = .ok (.iconst 1, 1) := by decide +kernel
theorem dL_law_943 : decode cL_law 943 = .ok (.iadd, 1) := by decide +kernel
theorem dL_law_944 : decode cL_law 944 = .ok (.iaload, 1) := by decide +kernel
theorem dL_law_945 : decode cL_law 945 = .ok (.aload_n 0, 1) := by decide +kernel
theorem dL_law_946 : decode cL_law 946 = .ok (.iload 4, 2) := by decide +kernel
theorem dL_law_948 : decode cL_law 948 = .ok (.iconst 2, 1) := by decide +kernel
theorem dL_law_949 : decode cL_law 949 = .ok (.iadd, 1) := by decide +kernel
theorem dL_law_950 : decode cL_law 950 = .ok (.iaload, 1) := by decide +kernel
theorem dL_law_951 : decode cL_law 951 = .ok (.aload_n 0, 1) := by decide +kernel
theorem dL_law_952 : decode cL_law 952 = .ok (.iload 4, 2) := by decide +kernel
theorem dL_law_954 : decode cL_law 954 = .ok (.iconst 3, 1) := by decide +kernel
theorem dL_law_955 : decode cL_law 955 = .ok (.iadd, 1) := by decide +kernel
theorem dL_law_956 : decode cL_law 956 = .ok (.iaload, 1) := by decide +kernel
theorem dL_law_957 : decode cL_law 957 = .ok (.invokevirtual 109, 3) := by decide +kernel
theorem dL_law_960 : decode cL_law 960 = .ok (.if_icmp .eq 149, 3) := by decide +kernel
theorem dL_law_963 : decode cL_law 963 = .ok (.iconst 0, 1) := by decide +kernel
theorem dL_law_964 : decode cL_law 964 = .ok (.ireturn, 1) := by decide +kernel
theorem dL_law_965 : decode cL_law 965 = .ok (.aload_n 1, 1) := by decide +kernel
theorem dL_law_966 : decode cL_law 966 = .ok (.invokevirtual 110, 3) := by decide +kernel
theorem dL_law_969 : decode cL_law 969 = .ok (.aload_n 2, 1) := by decide +kernel
theorem dL_law_970 : decode cL_law 970 = .ok (.invokevirtual 113, 3) := by decide +kernel
theorem dL_law_973 : decode cL_law 973 = .ok (.if_icmp .eq 136, 3) := by decide +kernel
theorem dL_law_976 : decode cL_law 976 = .ok (.iconst 0, 1) := by decide +kernel
theorem dL_law_977 : decode cL_law 977 = .ok (.ireturn, 1) := by decide +kernel
theorem dL_law_978 : decode cL_law 978 = .ok (.aload_n 1, 1) := by decide +kernel
theorem dL_law_979 : decode cL_law 979 = .ok (.invokevirtual 114, 3) := by decide +kernel
theorem dL_law_982 : decode cL_law 982 = .ok (.aload_n 2, 1) := by decide +kernel
theorem dL_law_983 : decode cL_law 983 = .ok (.invokevirtual 117, 3) := by decide +kernel
theorem dL_law_986 : decode cL_law 986 = .ok (.if_icmp .eq 123, 3) := by decide +kernel
theorem dL_law_989 : decode cL_law 989 = .ok (.iconst 0, 1) := by decide +kernel
theorem dL_law_990 : decode cL_law 990 = .ok (.ireturn, 1) := by decide +kernel
theorem dL_law_991 : decode cL_law 991 = .ok (.aload_n 1, 1) := by decide +kernel
theorem dL_law_992 : decode cL_law 992 = .ok (.aload_n 0, 1) := by decide +kernel
theorem dL_law_993 : decode cL_law 993 = .ok (.iload 4, 2) := by decide +kernel
theorem dL_law_995 : decode cL_law 995 = .ok (.iconst 1, 1) := by decide +kernel
theorem dL_law_996 : decode cL_law 996 = .ok (.iadd, 1) := by decide +kernel
theorem dL_law_997 : decode cL_law 997 = .ok (.iaload, 1) := by decide +kernel
theorem dL_law_998 : decode cL_law 998 = .ok (.aload_n 0, 1) := by decide +kernel
theorem dL_law_999 : decode cL_law 999 = .ok (.iload 4, 2) := by decide +kernel
theorem dL_law_1001 : decode cL_law 1001 = .ok (.iconst 2, 1) := by decide +kernel
theorem dL_law_1002 : decode cL_law 1002 = .ok (.iadd, 1) := by decide +kernel
theorem dL_law_1003 : decode cL_law 1003 = .ok (.iaload, 1) := by decide +kernel
theorem dL_law_1004 : decode cL_law 1004 = .ok (.invokevirtual 118, 3) := by decide +kernel
theorem dL_law_1007 : decode cL_law 1007 = .ok (.aload_n 2, 1) := by decide +kernel
theorem dL_law_1008 : decode cL_law 1008 = .ok (.aload_n 0, 1) := by decide +kernel
theorem dL_law_1009 : decode cL_law 1009 = .ok (.iload 4, 2) := by decide +kernel
theorem dL_law_1011 : decode cL_law 1011 = .ok (.iconst 1, 1) := by decide +kernel
theorem dL_law_1012 : decode cL_law 1012 = .ok (.iadd, 1) := by decide +kernel
theorem dL_law_1013 : decode cL_law 1013 = .ok (.iaload, 1) := by decide +kernel
theorem dL_law_1014 : decode cL_law 1014 = .ok (.aload_n 0, 1) := by decide +kernel
theorem dL_law_1015 : decode cL_law 1015 = .ok (.iload 4, 2) := by decide +kernel
theorem dL_law_1017 : decode cL_law 1017 = .ok (.iconst 2, 1) := by decide +kernel
theorem dL_law_1018 : decode cL_law 1018 = .ok (.iadd, 1) := by decide +kernel
theorem dL_law_1019 : decode cL_law 1019 = .ok (.iaload, 1) := by decide +kernel
theorem dL_law_1020 : decode cL_law 1020 = .ok (.invokevirtual 121, 3) := by decide +kernel
theorem dL_law_1023 : decode cL_law 1023 = .ok (.if_icmp .eq 86, 3) := by decide +kernel
theorem dL_law_1026 : decode cL_law 1026 = .ok (.iconst 0, 1) := by decide +kernel
theorem dL_law_1027 : decode cL_law 1027 = .ok (.ireturn, 1) := by decide +kernel
theorem dL_law_1028 : decode cL_law 1028 = .ok (.aload_n 1, 1) := by decide +kernel
theorem dL_law_1029 : decode cL_law 1029 = .ok (.aload_n 0, 1) := by decide +kernel
theorem dL_law_1030 : decode cL_law 1030 = .ok (.iload 4, 2) := by decide +kernel
theorem dL_law_1032 : decode cL_law 1032 = .ok (.iconst 1, 1) := by decide +kernel
theorem dL_law_1033 : decode cL_law 1033 = .ok (.iadd, 1) := by decide +kernel
theorem dL_law_1034 : decode cL_law 1034 = .ok (.iaload, 1) := by decide +kernel
theorem dL_law_1035 : decode cL_law 1035 = .ok (.invokevirtual 122, 3) := by decide +kernel
theorem dL_law_1038 : decode cL_law 1038 = .ok (.aload_n 2, 1) := by decide +kernel
theorem dL_law_1039 : decode cL_law 1039 = .ok (.aload_n 0, 1) := by decide +kernel
theorem dL_law_1040 : decode cL_law 1040 = .ok (.iload 4, 2) := by decide +kernel
theorem dL_law_1042 : decode cL_law 1042 = .ok (.iconst 1, 1) := by decide +kernel
theorem dL_law_1043 : decode cL_law 1043 = .ok (.iadd, 1) := by decide +kernel
theorem dL_law_1044 : decode cL_law 1044 = .ok (.iaload, 1) := by decide +kernel
theorem dL_law_1045 : decode cL_law 1045 = .ok (.invokevirtual 125, 3) := by decide +kernel
theorem dL_law_1048 : decode cL_law 1048 = .ok (.if_icmp .eq 61, 3) := by decide +kernel
theorem dL_law_1051 : decode cL_law 1051 = .ok (.iconst 0, 1) := by decide +kernel
theorem dL_law_1052 : decode cL_law 1052 = .ok (.ireturn, 1) := by decide +kernel
theorem dL_law_1053 : decode cL_law 1053 = .ok (.aload_n 1, 1) := by decide +kernel
theorem dL_law_1054 : decode cL_law 1054 = .ok (.aload_n 0, 1) := by decide +kernel
theorem dL_law_1055 : decode cL_law 1055 = .ok (.iload 4, 2) := by decide +kernel
theorem dL_law_1057 : decode cL_law 1057 = .ok (.iconst 1, 1) := by decide +kernel
theorem dL_law_1058 : decode cL_law 1058 = .ok (.iadd, 1) := by decide +kernel
theorem dL_law_1059 : decode cL_law 1059 = .ok (.iaload, 1) := by decide +kernel
theorem dL_law_1060 : decode cL_law 1060 = .ok (.aload_n 3, 1) := by decide +kernel
theorem dL_law_1061 : decode cL_law 1061 = .ok (.invokestatic 126, 3) := by decide +kernel
theorem dL_law_1064 : decode cL_law 1064 = .ok (.istore 5, 2) := by decide +kernel
theorem dL_law_1066 : decode cL_law 1066 = .ok (.aload_n 2, 1) := by decide +kernel
theorem dL_law_1067 : decode cL_law 1067 = .ok (.aload_n 0, 1) := by decide +kernel
theorem dL_law_1068 : decode cL_law 1068 = .ok (.iload 4, 2) := by decide +kernel
theorem dL_law_1070 : decode cL_law 1070 = .ok (.iconst 1, 1) := by decide +kernel
theorem dL_law_1071 : decode cL_law 1071 = .ok (.iadd, 1) := by decide +kernel
theorem dL_law_1072 : decode cL_law 1072 = .ok (.iaload, 1) := by decide +kernel
theorem dL_law_1073 : decode cL_law 1073 = .ok (.invokevirtual 131, 3) := by decide +kernel
theorem dL_law_1076 : decode cL_law 1076 = .ok (.istore 6, 2) := by decide +kernel
theorem dL_law_1078 : decode cL_law 1078 = .ok (.aload_n 2, 1) := by decide +kernel
theorem dL_law_1079 : decode cL_law 1079 = .ok (.invokevirtual 132, 3) := by decide +kernel
theorem dL_law_1082 : decode cL_law 1082 = .ok (.iload 5, 2) := by decide +kernel
theorem dL_law_1084 : decode cL_law 1084 = .ok (.if_icmp .eq 5, 3) := by decide +kernel
theorem dL_law_1087 : decode cL_law 1087 = .ok (.iconst 0, 1) := by decide +kernel
theorem dL_law_1088 : decode cL_law 1088 = .ok (.ireturn, 1) := by decide +kernel
theorem dL_law_1089 : decode cL_law 1089 = .ok (.iload 5, 2) := by decide +kernel
theorem dL_law_1091 : decode cL_law 1091 = .ok (.ifCond .ne 15, 3) := by decide +kernel
theorem dL_law_1094 : decode cL_law 1094 = .ok (.aload_n 3, 1) := by decide +kernel
theorem dL_law_1095 : decode cL_law 1095 = .ok (.iconst 0, 1) := by decide +kernel
theorem dL_law_1096 : decode cL_law 1096 = .ok (.laload, 1) := by decide +kernel
theorem dL_law_1097 : decode cL_law 1097 = .ok (.iload 6, 2) := by decide +kernel
theorem dL_law_1099 : decode cL_law 1099 = .ok (.i2l, 1) := by decide +kernel
theorem dL_law_1100 : decode cL_law 1100 = .ok (.lcmp, 1) := by decide +kernel
theorem dL_law_1101 : decode cL_law 1101 = .ok (.ifCond .eq 5, 3) := by decide +kernel
theorem dL_law_1104 : decode cL_law 1104 = .ok (.iconst 0, 1) := by decide +kernel
theorem dL_law_1105 : decode cL_law 1105 = .ok (.ireturn, 1) := by decide +kernel
theorem dL_law_1106 : decode cL_law 1106 = .ok (.goto 3, 3) := by decide +kernel
theorem dL_law_1109 : decode cL_law 1109 = .ok (.iinc 4 8, 3) := by decide +kernel
theorem dL_law_1112 : decode cL_law 1112 = .ok (.goto (-1089), 3) := by decide +kernel
theorem dL_law_1115 : decode cL_law 1115 = .ok (.iconst 1, 1) := by decide +kernel
theorem dL_law_1116 : decode cL_law 1116 = .ok (.ireturn, 1) := by decide +kernel
end
section
/-- a contract's end that is a function: the value, the memory -/
def mx_F (v : Option Value) (M1 : mx_Mem) : Option Value → mx_Mem → Prop := fun r M' => r = v ∧ M' = M1
section MXA
variable {G : mx_G} {X : mx_X} {own : String} {cc : ByteArray} {nL pc : Nat} {L S : List Value} {M M1 : mx_Mem} {v : Value}

theorem r_cV0F (q : Nat) (hX : mx_OK G X own cc nL) {fr lo fr1 lo1 idx maxL b ci : Nat} (hR : mx_RM X fr1 lo1) {y : MethodName} {cy : ByteArray} {ret : Option FieldType} {fs : List (Option Nat)}   (hM : mx_Met (mx_l X) G y cy maxL ret fr lo [.ref b] M (mx_F (some v) M1)) (hd : decode cc pc = .ok (.invokevirtual idx, 3)) (hc : mx_cd y cy maxL ret 0) (hli : Cond.methodLink own idx y ∈ mx_gW ∧ Cond.instanceMethod y ∈ mx_gW ∧ Cond.selects y.cls y y ∈ mx_gW) (hs : mx_sh b = .inr (ci, fs)) (hcl : (mx_cl[ci]?).map (fun z => z.1) = some y.cls) (hk : Nat.blt b 61 = true) (hrs : mx_rs S = true) (hro : (Nat.ble (fr + 1) fr1 && Nat.ble (8 + (maxL + 11) + lo) lo1) = true) (hnL : L.length = nL) (kk : mx_WW G X q L (v :: S) M1) (hq : pc + 3 = q := by rfl) : mx_WW G X pc L (.ref b :: S) M :=
  r_callV (As := []) q hX hR hM hd hc hli hs hcl hk rfl hrs hro hnL (fun r M' hp => by obtain ⟨rfl, rfl⟩ := hp; exact kk) hq
theorem r_cV0U (q : Nat) (hX : mx_OK G X own cc nL) {fr lo fr1 lo1 idx maxL b ci : Nat} (hR : mx_RM X fr1 lo1) {y : MethodName} {cy : ByteArray} {ret : Option FieldType} {fs : List (Option Nat)}   (hM : mx_Met (mx_l X) G y cy maxL ret fr lo [.ref b] M (mx_F none M1)) (hd : decode cc pc = .ok (.invokevirtual idx, 3)) (hc : mx_cd y cy maxL ret 0) (hli : Cond.methodLink own idx y ∈ mx_gW ∧ Cond.instanceMethod y ∈ mx_gW ∧ Cond.selects y.cls y y ∈ mx_gW) (hs : mx_sh b = .inr (ci, fs)) (hcl : (mx_cl[ci]?).map (fun z => z.1) = some y.cls) (hk : Nat.blt b 61 = true) (hrs : mx_rs S = true) (hro : (Nat.ble (fr + 1) fr1 && Nat.ble (8 + (maxL + 11) + lo) lo1) = true) (hnL : L.length = nL) (kk : mx_WW G X q L S M1) (hq : pc + 3 = q := by rfl) : mx_WW G X pc L (.ref b :: S) M :=
  r_callV (As := []) q hX hR hM hd hc hli hs hcl hk rfl hrs hro hnL (fun r M' hp => by obtain ⟨rfl, rfl⟩ := hp; exact kk) hq
theorem r_cV0G (q : Nat) (hX : mx_OK G X own cc nL) {fr lo fr1 lo1 idx maxL b ci : Nat} (hR : mx_RM X fr1 lo1) {y : MethodName} {cy : ByteArray} {ret : Option FieldType} {fs : List (Option Nat)}  {Post : Option Value → mx_Mem → Prop} (hM : mx_Met (mx_l X) G y cy maxL ret fr lo [.ref b] M Post) (hd : decode cc pc = .ok (.invokevirtual idx, 3)) (hc : mx_cd y cy maxL ret 0) (hli : Cond.methodLink own idx y ∈ mx_gW ∧ Cond.instanceMethod y ∈ mx_gW ∧ Cond.selects y.cls y y ∈ mx_gW) (hs : mx_sh b = .inr (ci, fs)) (hcl : (mx_cl[ci]?).map (fun z => z.1) = some y.cls) (hk : Nat.blt b 61 = true) (hrs : mx_rs S = true) (hro : (Nat.ble (fr + 1) fr1 && Nat.ble (8 + (maxL + 11) + lo) lo1) = true) (hnL : L.length = nL) (kk : ∀ (r : Option Value) (M' : mx_Mem), Post r M' → mx_WW G X q L (r.toList ++ S) M') (hq : pc + 3 = q := by rfl) : mx_WW G X pc L (.ref b :: S) M :=
  r_callV (As := []) q hX hR hM hd hc hli hs hcl hk rfl hrs hro hnL kk hq
theorem r_cV1F (q : Nat) (hX : mx_OK G X own cc nL) {fr lo fr1 lo1 idx maxL b ci : Nat} (hR : mx_RM X fr1 lo1) {y : MethodName} {cy : ByteArray} {ret : Option FieldType} {fs : List (Option Nat)} {a1 : Value}  (hM : mx_Met (mx_l X) G y cy maxL ret fr lo [.ref b, a1] M (mx_F (some v) M1)) (hd : decode cc pc = .ok (.invokevirtual idx, 3)) (hc : mx_cd y cy maxL ret 1) (hli : Cond.methodLink own idx y ∈ mx_gW ∧ Cond.instanceMethod y ∈ mx_gW ∧ Cond.selects y.cls y y ∈ mx_gW) (hs : mx_sh b = .inr (ci, fs)) (hcl : (mx_cl[ci]?).map (fun z => z.1) = some y.cls) (hk : Nat.blt b 61 = true) (hrs : mx_rs S = true) (hro : (Nat.ble (fr + 1) fr1 && Nat.ble (8 + (maxL + 11) + lo) lo1) = true) (hnL : L.length = nL) (kk : mx_WW G X q L (v :: S) M1) (hq : pc + 3 = q := by rfl) : mx_WW G X pc L (a1 :: .ref b :: S) M :=
  r_callV (As := [a1]) q hX hR hM hd hc hli hs hcl hk rfl hrs hro hnL (fun r M' hp => by obtain ⟨rfl, rfl⟩ := hp; exact kk) hq
theorem r_cV1U (q : Nat) (hX : mx_OK G X own cc nL) {fr lo fr1 lo1 idx maxL b ci : Nat} (hR : mx_RM X fr1 lo1) {y : MethodName} {cy : ByteArray} {ret : Option FieldType} {fs : List (Option Nat)} {a1 : Value}  (hM : mx_Met (mx_l X) G y cy maxL ret fr lo [.ref b, a1] M (mx_F none M1)) (hd : decode cc pc = .ok (.invokevirtual idx, 3)) (hc : mx_cd y cy maxL ret 1) (hli : Cond.methodLink own idx y ∈ mx_gW ∧ Cond.instanceMethod y ∈ mx_gW ∧ Cond.selects y.cls y y ∈ mx_gW) (hs : mx_sh b = .inr (ci, fs)) (hcl : (mx_cl[ci]?).map (fun z => z.1) = some y.cls) (hk : Nat.blt b 61 = true) (hrs : mx_rs S = true) (hro : (Nat.ble (fr + 1) fr1 && Nat.ble (8 + (maxL + 11) + lo) lo1) = true) (hnL : L.length = nL) (kk : mx_WW G X q L S M1) (hq : pc + 3 = q := by rfl) : mx_WW G X pc L (a1 :: .ref b :: S) M :=
  r_callV (As := [a1]) q hX hR hM hd hc hli hs hcl hk rfl hrs hro hnL (fun r M' hp => by obtain ⟨rfl, rfl⟩ := hp; exact kk) hq
theorem r_cV1G (q : Nat) (hX : mx_OK G X own cc nL) {fr lo fr1 lo1 idx maxL b ci : Nat} (hR : mx_RM X fr1 lo1) {y : MethodName} {cy : ByteArray} {ret : Option FieldType} {fs : List (Option Nat)} {a1 : Value} {Post : Option Value → mx_Mem → Prop} (hM : mx_Met (mx_l X) G y cy maxL ret fr lo [.ref b, a1] M Post) (hd : decode cc pc = .ok (.invokevirtual idx, 3)) (hc : mx_cd y cy maxL ret 1) (hli : Cond.methodLink own idx y ∈ mx_gW ∧ Cond.instanceMethod y ∈ mx_gW ∧ Cond.selects y.cls y y ∈ mx_gW) (hs : mx_sh b = .inr (ci, fs)) (hcl : (mx_cl[ci]?).map (fun z => z.1) = some y.cls) (hk : Nat.blt b 61 = true) (hrs : mx_rs S = true) (hro : (Nat.ble (fr + 1) fr1 && Nat.ble (8 + (maxL + 11) + lo) lo1) = true) (hnL : L.length = nL) (kk : ∀ (r : Option Value) (M' : mx_Mem), Post r M' → mx_WW G X q L (r.toList ++ S) M') (hq : pc + 3 = q := by rfl) : mx_WW G X pc L (a1 :: .ref b :: S) M :=
  r_callV (As := [a1]) q hX hR hM hd hc hli hs hcl hk rfl hrs hro hnL kk hq
theorem r_cV2F (q : Nat) (hX : mx_OK G X own cc nL) {fr lo fr1 lo1 idx maxL b ci : Nat} (hR : mx_RM X fr1 lo1) {y : MethodName} {cy : ByteArray} {ret : Option FieldType} {fs : List (Option Nat)} {a1 a2 : Value}  (hM : mx_Met (mx_l X) G y cy maxL ret fr lo [.ref b, a1, a2] M (mx_F (some v) M1)) (hd : decode cc pc = .ok (.invokevirtual idx, 3)) (hc : mx_cd y cy maxL ret 2) (hli : Cond.methodLink own idx y ∈ mx_gW ∧ Cond.instanceMethod y ∈ mx_gW ∧ Cond.selects y.cls y y ∈ mx_gW) (hs : mx_sh b = .inr (ci, fs)) (hcl : (mx_cl[ci]?).map (fun z => z.1) = some y.cls) (hk : Nat.blt b 61 = true) (hrs : mx_rs S = true) (hro : (Nat.ble (fr + 1) fr1 && Nat.ble (8 + (maxL + 11) + lo) lo1) = true) (hnL : L.length = nL) (kk : mx_WW G X q L (v :: S) M1) (hq : pc + 3 = q := by rfl) : mx_WW G X pc L (a2 :: a1 :: .ref b :: S) M :=
  r_callV (As := [a1, a2]) q hX hR hM hd hc hli hs hcl hk rfl hrs hro hnL (fun r M' hp => by obtain ⟨rfl, rfl⟩ := hp; exact kk) hq
theorem r_cV2U (q : Nat) (hX : mx_OK G X own cc nL) {fr lo fr1 lo1 idx maxL b ci : Nat} (hR : mx_RM X fr1 lo1) {y : MethodName} {cy : ByteArray} {ret : Option FieldType} {fs : List (Option Nat)} {a1 a2 : Value}  (hM : mx_Met (mx_l X) G y cy maxL ret fr lo [.ref b, a1, a2] M (mx_F none M1)) (hd : decode cc pc = .ok (.invokevirtual idx, 3)) (hc : mx_cd y cy maxL ret 2) (hli : Cond.methodLink own idx y ∈ mx_gW ∧ Cond.instanceMethod y ∈ mx_gW ∧ Cond.selects y.cls y y ∈ mx_gW) (hs : mx_sh b = .inr (ci, fs)) (hcl : (mx_cl[ci]?).map (fun z => z.1) = some y.cls) (hk : Nat.blt b 61 = true) (hrs : mx_rs S = true) (hro : (Nat.ble (fr + 1) fr1 && Nat.ble (8 + (maxL + 11) + lo) lo1) = true) (hnL : L.length = nL) (kk : mx_WW G X q L S M1) (hq : pc + 3 = q := by rfl) : mx_WW G X pc L (a2 :: a1 :: .ref b :: S) M :=
  r_callV (As := [a1, a2]) q hX hR hM hd hc hli hs hcl hk rfl hrs hro hnL (fun r M' hp => by obtain ⟨rfl, rfl⟩ := hp; exact kk) hq
theorem r_cV2G (q : Nat) (hX : mx_OK G X own cc nL) {fr lo fr1 lo1 idx maxL b ci : Nat} (hR : mx_RM X fr1 lo1) {y : MethodName} {cy : ByteArray} {ret : Option FieldType} {fs : List (Option Nat)} {a1 a2 : Value} {Post : Option Value → mx_Mem → Prop} (hM : mx_Met (mx_l X) G y cy maxL ret fr lo [.ref b, a1, a2] M Post) (hd : decode cc pc = .ok (.invokevirtual idx, 3)) (hc : mx_cd y cy maxL ret 2) (hli : Cond.methodLink own idx y ∈ mx_gW ∧ Cond.instanceMethod y ∈ mx_gW ∧ Cond.selects y.cls y y ∈ mx_gW) (hs : mx_sh b = .inr (ci, fs)) (hcl : (mx_cl[ci]?).map (fun z => z.1) = some y.cls) (hk : Nat.blt b 61 = true) (hrs : mx_rs S = true) (hro : (Nat.ble (fr + 1) fr1 && Nat.ble (8 + (maxL + 11) + lo) lo1) = true) (hnL : L.length = nL) (kk : ∀ (r : Option Value) (M' : mx_Mem), Post r M' → mx_WW G X q L (r.toList ++ S) M') (hq : pc + 3 = q := by rfl) : mx_WW G X pc L (a2 :: a1 :: .ref b :: S) M :=
  r_callV (As := [a1, a2]) q hX hR hM hd hc hli hs hcl hk rfl hrs hro hnL kk hq
theorem r_cV3F (q : Nat) (hX : mx_OK G X own cc nL) {fr lo fr1 lo1 idx maxL b ci : Nat} (hR : mx_RM X fr1 lo1) {y : MethodName} {cy : ByteArray} {ret : Option FieldType} {fs : List (Option Nat)} {a1 a2 a3 : Value}  (hM : mx_Met (mx_l X) G y cy maxL ret fr lo [.ref b, a1, a2, a3] M (mx_F (some v) M1)) (hd : decode cc pc = .ok (.invokevirtual idx, 3)) (hc : mx_cd y cy maxL ret 3) (hli : Cond.methodLink own idx y ∈ mx_gW ∧ Cond.instanceMethod y ∈ mx_gW ∧ Cond.selects y.cls y y ∈ mx_gW) (hs : mx_sh b = .inr (ci, fs)) (hcl : (mx_cl[ci]?).map (fun z => z.1) = some y.cls) (hk : Nat.blt b 61 = true) (hrs : mx_rs S = true) (hro : (Nat.ble (fr + 1) fr1 && Nat.ble (8 + (maxL + 11) + lo) lo1) = true) (hnL : L.length = nL) (kk : mx_WW G X q L (v :: S) M1) (hq : pc + 3 = q := by rfl) : mx_WW G X pc L (a3 :: a2 :: a1 :: .ref b :: S) M :=
  r_callV (As := [a1, a2, a3]) q hX hR hM hd hc hli hs hcl hk rfl hrs hro hnL (fun r M' hp => by obtain ⟨rfl, rfl⟩ := hp; exact kk) hq
theorem r_cV3U (q : Nat) (hX : mx_OK G X own cc nL) {fr lo fr1 lo1 idx maxL b ci : Nat} (hR : mx_RM X fr1 lo1) {y : MethodName} {cy : ByteArray} {ret : Option FieldType} {fs : List (Option Nat)} {a1 a2 a3 : Value}  (hM : mx_Met (mx_l X) G y cy maxL ret fr lo [.ref b, a1, a2, a3] M (mx_F none M1)) (hd : decode cc pc = .ok (.invokevirtual idx, 3)) (hc : mx_cd y cy maxL ret 3) (hli : Cond.methodLink own idx y ∈ mx_gW ∧ Cond.instanceMethod y ∈ mx_gW ∧ Cond.selects y.cls y y ∈ mx_gW) (hs : mx_sh b = .inr (ci, fs)) (hcl : (mx_cl[ci]?).map (fun z => z.1) = some y.cls) (hk : Nat.blt b 61 = true) (hrs : mx_rs S = true) (hro : (Nat.ble (fr + 1) fr1 && Nat.ble (8 + (maxL + 11) + lo) lo1) = true) (hnL : L.length = nL) (kk : mx_WW G X q L S M1) (hq : pc + 3 = q := by rfl) : mx_WW G X pc L (a3 :: a2 :: a1 :: .ref b :: S) M :=
  r_callV (As := [a1, a2, a3]) q hX hR hM hd hc hli hs hcl hk rfl hrs hro hnL (fun r M' hp => by obtain ⟨rfl, rfl⟩ := hp; exact kk) hq
theorem r_cV3G (q : Nat) (hX : mx_OK G X own cc nL) {fr lo fr1 lo1 idx maxL b ci : Nat} (hR : mx_RM X fr1 lo1) {y : MethodName} {cy : ByteArray} {ret : Option FieldType} {fs : List (Option Nat)} {a1 a2 a3 : Value} {Post : Option Value → mx_Mem → Prop} (hM : mx_Met (mx_l X) G y cy maxL ret fr lo [.ref b, a1, a2, a3] M Post) (hd : decode cc pc = .ok (.invokevirtual idx, 3)) (hc : mx_cd y cy maxL ret 3) (hli : Cond.methodLink own idx y ∈ mx_gW ∧ Cond.instanceMethod y ∈ mx_gW ∧ Cond.selects y.cls y y ∈ mx_gW) (hs : mx_sh b = .inr (ci, fs)) (hcl : (mx_cl[ci]?).map (fun z => z.1) = some y.cls) (hk : Nat.blt b 61 = true) (hrs : mx_rs S = true) (hro : (Nat.ble (fr + 1) fr1 && Nat.ble (8 + (maxL + 11) + lo) lo1) = true) (hnL : L.length = nL) (kk : ∀ (r : Option Value) (M' : mx_Mem), Post r M' → mx_WW G X q L (r.toList ++ S) M') (hq : pc + 3 = q := by rfl) : mx_WW G X pc L (a3 :: a2 :: a1 :: .ref b :: S) M :=
  r_callV (As := [a1, a2, a3]) q hX hR hM hd hc hli hs hcl hk rfl hrs hro hnL kk hq
theorem r_cV4F (q : Nat) (hX : mx_OK G X own cc nL) {fr lo fr1 lo1 idx maxL b ci : Nat} (hR : mx_RM X fr1 lo1) {y : MethodName} {cy : ByteArray} {ret : Option FieldType} {fs : List (Option Nat)} {a1 a2 a3 a4 : Value}  (hM : mx_Met (mx_l X) G y cy maxL ret fr lo [.ref b, a1, a2, a3, a4] M (mx_F (some v) M1)) (hd : decode cc pc = .ok (.invokevirtual idx, 3)) (hc : mx_cd y cy maxL ret 4) (hli : Cond.methodLink own idx y ∈ mx_gW ∧ Cond.instanceMethod y ∈ mx_gW ∧ Cond.selects y.cls y y ∈ mx_gW) (hs : mx_sh b = .inr (ci, fs)) (hcl : (mx_cl[ci]?).map (fun z => z.1) = some y.cls) (hk : Nat.blt b 61 = true) (hrs : mx_rs S = true) (hro : (Nat.ble (fr + 1) fr1 && Nat.ble (8 + (maxL + 11) + lo) lo1) = true) (hnL : L.length = nL) (kk : mx_WW G X q L (v :: S) M1) (hq : pc + 3 = q := by rfl) : mx_WW G X pc L (a4 :: a3 :: a2 :: a1 :: .ref b :: S) M :=
  r_callV (As := [a1, a2, a3, a4]) q hX hR hM hd hc hli hs hcl hk rfl hrs hro hnL (fun r M' hp => by obtain ⟨rfl, rfl⟩ := hp; exact kk) hq
theorem r_cV4U (q : Nat) (hX : mx_OK G X own cc nL) {fr lo fr1 lo1 idx maxL b ci : Nat} (hR : mx_RM X fr1 lo1) {y : MethodName} {cy : ByteArray} {ret : Option FieldType} {fs : List (Option Nat)} {a1 a2 a3 a4 : Value}  (hM : mx_Met (mx_l X) G y cy maxL ret fr lo [.ref b, a1, a2, a3, a4] M (mx_F none M1)) (hd : decode cc pc = .ok (.invokevirtual idx, 3)) (hc : mx_cd y cy maxL ret 4) (hli : Cond.methodLink own idx y ∈ mx_gW ∧ Cond.instanceMethod y ∈ mx_gW ∧ Cond.selects y.cls y y ∈ mx_gW) (hs : mx_sh b = .inr (ci, fs)) (hcl : (mx_cl[ci]?).map (fun z => z.1) = some y.cls) (hk : Nat.blt b 61 = true) (hrs : mx_rs S = true) (hro : (Nat.ble (fr + 1) fr1 && Nat.ble (8 + (maxL + 11) + lo) lo1) = true) (hnL : L.length = nL) (kk : mx_WW G X q L S M1) (hq : pc + 3 = q := by rfl) : mx_WW G X pc L (a4 :: a3 :: a2 :: a1 :: .ref b :: S) M :=
  r_callV (As := [a1, a2, a3, a4]) q hX hR hM hd hc hli hs hcl hk rfl hrs hro hnL (fun r M' hp => by obtain ⟨rfl, rfl⟩ := hp; exact kk) hq
theorem r_cV4G (q : Nat) (hX : mx_OK G X own cc nL) {fr lo fr1 lo1 idx maxL b ci : Nat} (hR : mx_RM X fr1 lo1) {y : MethodName} {cy : ByteArray} {ret : Option FieldType} {fs : List (Option Nat)} {a1 a2 a3 a4 : Value} {Post : Option Value → mx_Mem → Prop} (hM : mx_Met (mx_l X) G y cy maxL ret fr lo [.ref b, a1, a2, a3, a4] M Post) (hd : decode cc pc = .ok (.invokevirtual idx, 3)) (hc : mx_cd y cy maxL ret 4) (hli : Cond.methodLink own idx y ∈ mx_gW ∧ Cond.instanceMethod y ∈ mx_gW ∧ Cond.selects y.cls y y ∈ mx_gW) (hs : mx_sh b = .inr (ci, fs)) (hcl : (mx_cl[ci]?).map (fun z => z.1) = some y.cls) (hk : Nat.blt b 61 = true) (hrs : mx_rs S = true) (hro : (Nat.ble (fr + 1) fr1 && Nat.ble (8 + (maxL + 11) + lo) lo1) = true) (hnL : L.length = nL) (kk : ∀ (r : Option Value) (M' : mx_Mem), Post r M' → mx_WW G X q L (r.toList ++ S) M') (hq : pc + 3 = q := by rfl) : mx_WW G X pc L (a4 :: a3 :: a2 :: a1 :: .ref b :: S) M :=
  r_callV (As := [a1, a2, a3, a4]) q hX hR hM hd hc hli hs hcl hk rfl hrs hro hnL kk hq
theorem r_cV5F (q : Nat) (hX : mx_OK G X own cc nL) {fr lo fr1 lo1 idx maxL b ci : Nat} (hR : mx_RM X fr1 lo1) {y : MethodName} {cy : ByteArray} {ret : Option FieldType} {fs : List (Option Nat)} {a1 a2 a3 a4 a5 : Value}  (hM : mx_Met (mx_l X) G y cy maxL ret fr lo [.ref b, a1, a2, a3, a4, a5] M (mx_F (some v) M1)) (hd : decode cc pc = .ok (.invokevirtual idx, 3)) (hc : mx_cd y cy maxL ret 5) (hli : Cond.methodLink own idx y ∈ mx_gW ∧ Cond.instanceMethod y ∈ mx_gW ∧ Cond.selects y.cls y y ∈ mx_gW) (hs : mx_sh b = .inr (ci, fs)) (hcl : (mx_cl[ci]?).map (fun z => z.1) = some y.cls) (hk : Nat.blt b 61 = true) (hrs : mx_rs S = true) (hro : (Nat.ble (fr + 1) fr1 && Nat.ble (8 + (maxL + 11) + lo) lo1) = true) (hnL : L.length = nL) (kk : mx_WW G X q L (v :: S) M1) (hq : pc + 3 = q := by rfl) : mx_WW G X pc L (a5 :: a4 :: a3 :: a2 :: a1 :: .ref b :: S) M :=
  r_callV (As := [a1, a2, a3, a4, a5]) q hX hR hM hd hc hli hs hcl hk rfl hrs hro hnL (fun r M' hp => by obtain ⟨rfl, rfl⟩ := hp; exact kk) hq
theorem r_cV5U (q : Nat) (hX : mx_OK G X own cc nL) {fr lo fr1 lo1 idx maxL b ci : Nat} (hR : mx_RM X fr1 lo1) {y : MethodName} {cy : ByteArray} {ret : Option FieldType} {fs : List (Option Nat)} {a1 a2 a3 a4 a5 : Value}  (hM : mx_Met (mx_l X) G y cy maxL ret fr lo [.ref b, a1, a2, a3, a4, a5] M (mx_F none M1)) (hd : decode cc pc = .ok (.invokevirtual idx, 3)) (hc : mx_cd y cy maxL ret 5) (hli : Cond.methodLink own idx y ∈ mx_gW ∧ Cond.instanceMethod y ∈ mx_gW ∧ Cond.selects y.cls y y ∈ mx_gW) (hs : mx_sh b = .inr (ci, fs)) (hcl : (mx_cl[ci]?).map (fun z => z.1) = some y.cls) (hk : Nat.blt b 61 = true) (hrs : mx_rs S = true) (hro : (Nat.ble (fr + 1) fr1 && Nat.ble (8 + (maxL + 11) + lo) lo1) = true) (hnL : L.length = nL) (kk : mx_WW G X q L S M1) (hq : pc + 3 = q := by rfl) : mx_WW G X pc L (a5 :: a4 :: a3 :: a2 :: a1 :: .ref b :: S) M :=
  r_callV (As := [a1, a2, a3, a4, a5]) q hX hR hM hd hc hli hs hcl hk rfl hrs hro hnL (fun r M' hp => by obtain ⟨rfl, rfl⟩ := hp; exact kk) hq
theorem r_cV5G (q : Nat) (hX : mx_OK G X own cc nL) {fr lo fr1 lo1 idx maxL b ci : Nat} (hR : mx_RM X fr1 lo1) {y : MethodName} {cy : ByteArray} {ret : Option FieldType} {fs : List (Option Nat)} {a1 a2 a3 a4 a5 : Value} {Post : Option Value → mx_Mem → Prop} (hM : mx_Met (mx_l X) G y cy maxL ret fr lo [.ref b, a1, a2, a3, a4, a5] M Post) (hd : decode cc pc = .ok (.invokevirtual idx, 3)) (hc : mx_cd y cy maxL ret 5) (hli : Cond.methodLink own idx y ∈ mx_gW ∧ Cond.instanceMethod y ∈ mx_gW ∧ Cond.selects y.cls y y ∈ mx_gW) (hs : mx_sh b = .inr (ci, fs)) (hcl : (mx_cl[ci]?).map (fun z => z.1) = some y.cls) (hk : Nat.blt b 61 = true) (hrs : mx_rs S = true) (hro : (Nat.ble (fr + 1) fr1 && Nat.ble (8 + (maxL + 11) + lo) lo1) = true) (hnL : L.length = nL) (kk : ∀ (r : Option Value) (M' : mx_Mem), Post r M' → mx_WW G X q L (r.toList ++ S) M') (hq : pc + 3 = q := by rfl) : mx_WW G X pc L (a5 :: a4 :: a3 :: a2 :: a1 :: .ref b :: S) M :=
  r_callV (As := [a1, a2, a3, a4, a5]) q hX hR hM hd hc hli hs hcl hk rfl hrs hro hnL kk hq
theorem r_cV6F (q : Nat) (hX : mx_OK G X own cc nL) {fr lo fr1 lo1 idx maxL b ci : Nat} (hR : mx_RM X fr1 lo1) {y : MethodName} {cy : ByteArray} {ret : Option FieldType} {fs : List (Option Nat)} {a1 a2 a3 a4 a5 a6 : Value}  (hM : mx_Met (mx_l X) G y cy maxL ret fr lo [.ref b, a1, a2, a3, a4, a5, a6] M (mx_F (some v) M1)) (hd : decode cc pc = .ok (.invokevirtual idx, 3)) (hc : mx_cd y cy maxL ret 6) (hli : Cond.methodLink own idx y ∈ mx_gW ∧ Cond.instanceMethod y ∈ mx_gW ∧ Cond.selects y.cls y y ∈ mx_gW) (hs : mx_sh b = .inr (ci, fs)) (hcl : (mx_cl[ci]?).map (fun z => z.1) = some y.cls) (hk : Nat.blt b 61 = true) (hrs : mx_rs S = true) (hro : (Nat.ble (fr + 1) fr1 && Nat.ble (8 + (maxL + 11) + lo) lo1) = true) (hnL : L.length = nL) (kk : mx_WW G X q L (v :: S) M1) (hq : pc + 3 = q := by rfl) : mx_WW G X pc L (a6 :: a5 :: a4 :: a3 :: a2 :: a1 :: .ref b :: S) M :=
  r_callV (As := [a1, a2, a3, a4, a5, a6]) q hX hR hM hd hc hli hs hcl hk rfl hrs hro hnL (fun r M' hp => by obtain ⟨rfl, rfl⟩ := hp; exact kk) hq
theorem r_cV6U (q : Nat) (hX : mx_OK G X own cc nL) {fr lo fr1 lo1 idx maxL b ci : Nat} (hR : mx_RM X fr1 lo1) {y : MethodName} {cy : ByteArray} {ret : Option FieldType} {fs : List (Option Nat)} {a1 a2 a3 a4 a5 a6 : Value}  (hM : mx_Met (mx_l X) G y cy maxL ret fr lo [.ref b, a1, a2, a3, a4, a5, a6] M (mx_F none M1)) (hd : decode cc pc = .ok (.invokevirtual idx, 3)) (hc : mx_cd y cy maxL ret 6) (hli : Cond.methodLink own idx y ∈ mx_gW ∧ Cond.instanceMethod y ∈ mx_gW ∧ Cond.selects y.cls y y ∈ mx_gW) (hs : mx_sh b = .inr (ci, fs)) (hcl : (mx_cl[ci]?).map (fun z => z.1) = some y.cls) (hk : Nat.blt b 61 = true) (hrs : mx_rs S = true) (hro : (Nat.ble (fr + 1) fr1 && Nat.ble (8 + (maxL + 11) + lo) lo1) = true) (hnL : L.length = nL) (kk : mx_WW G X q L S M1) (hq : pc + 3 = q := by rfl) : mx_WW G X pc L (a6 :: a5 :: a4 :: a3 :: a2 :: a1 :: .ref b :: S) M :=
  r_callV (As := [a1, a2, a3, a4, a5, a6]) q hX hR hM hd hc hli hs hcl hk rfl hrs hro hnL (fun r M' hp => by obtain ⟨rfl, rfl⟩ := hp; exact kk) hq
theorem r_cV6G (q : Nat) (hX : mx_OK G X own cc nL) {fr lo fr1 lo1 idx maxL b ci : Nat} (hR : mx_RM X fr1 lo1) {y : MethodName} {cy : ByteArray} {ret : Option FieldType} {fs : List (Option Nat)} {a1 a2 a3 a4 a5 a6 : Value} {Post : Option Value → mx_Mem → Prop} (hM : mx_Met (mx_l X) G y cy maxL ret fr lo [.ref b, a1, a2, a3, a4, a5, a6] M Post) (hd : decode cc pc = .ok (.invokevirtual idx, 3)) (hc : mx_cd y cy maxL ret 6) (hli : Cond.methodLink own idx y ∈ mx_gW ∧ Cond.instanceMethod y ∈ mx_gW ∧ Cond.selects y.cls y y ∈ mx_gW) (hs : mx_sh b = .inr (ci, fs)) (hcl : (mx_cl[ci]?).map (fun z => z.1) = some y.cls) (hk : Nat.blt b 61 = true) (hrs : mx_rs S = true) (hro : (Nat.ble (fr + 1) fr1 && Nat.ble (8 + (maxL + 11) + lo) lo1) = true) (hnL : L.length = nL) (kk : ∀ (r : Option Value) (M' : mx_Mem), Post r M' → mx_WW G X q L (r.toList ++ S) M') (hq : pc + 3 = q := by rfl) : mx_WW G X pc L (a6 :: a5 :: a4 :: a3 :: a2 :: a1 :: .ref b :: S) M :=
  r_callV (As := [a1, a2, a3, a4, a5, a6]) q hX hR hM hd hc hli hs hcl hk rfl hrs hro hnL kk hq
theorem r_cV7F (q : Nat) (hX : mx_OK G X own cc nL) {fr lo fr1 lo1 idx maxL b ci : Nat} (hR : mx_RM X fr1 lo1) {y : MethodName} {cy : ByteArray} {ret : Option FieldType} {fs : List (Option Nat)} {a1 a2 a3 a4 a5 a6 a7 : Value}  (hM : mx_Met (mx_l X) G y cy maxL ret fr lo [.ref b, a1, a2, a3, a4, a5, a6, a7] M (mx_F (some v) M1)) (hd : decode cc pc = .ok (.invokevirtual idx, 3)) (hc : mx_cd y cy maxL ret 7) (hli : Cond.methodLink own idx y ∈ mx_gW ∧ Cond.instanceMethod y ∈ mx_gW ∧ Cond.selects y.cls y y ∈ mx_gW) (hs : mx_sh b = .inr (ci, fs)) (hcl : (mx_cl[ci]?).map (fun z => z.1) = some y.cls) (hk : Nat.blt b 61 = true) (hrs : mx_rs S = true) (hro : (Nat.ble (fr + 1) fr1 && Nat.ble (8 + (maxL + 11) + lo) lo1) = true) (hnL : L.length = nL) (kk : mx_WW G X q L (v :: S) M1) (hq : pc + 3 = q := by rfl) : mx_WW G X pc L (a7 :: a6 :: a5 :: a4 :: a3 :: a2 :: a1 :: .ref b :: S) M :=
  r_callV (As := [a1, a2, a3, a4, a5, a6, a7]) q hX hR hM hd hc hli hs hcl hk rfl hrs hro hnL (fun r M' hp => by obtain ⟨rfl, rfl⟩ := hp; exact kk) hq
theorem r_cV7U (q : Nat) (hX : mx_OK G X own cc nL) {fr lo fr1 lo1 idx maxL b ci : Nat} (hR : mx_RM X fr1 lo1) {y : MethodName} {cy : ByteArray} {ret : Option FieldType} {fs : List (Option Nat)} {a1 a2 a3 a4 a5 a6 a7 : Value}  (hM : mx_Met (mx_l X) G y cy maxL ret fr lo [.ref b, a1, a2, a3, a4, a5, a6, a7] M (mx_F none M1)) (hd : decode cc pc = .ok (.invokevirtual idx, 3)) (hc : mx_cd y cy maxL ret 7) (hli : Cond.methodLink own idx y ∈ mx_gW ∧ Cond.instanceMethod y ∈ mx_gW ∧ Cond.selects y.cls y y ∈ mx_gW) (hs : mx_sh b = .inr (ci, fs)) (hcl : (mx_cl[ci]?).map (fun z => z.1) = some y.cls) (hk : Nat.blt b 61 = true) (hrs : mx_rs S = true) (hro : (Nat.ble (fr + 1) fr1 && Nat.ble (8 + (maxL + 11) + lo) lo1) = true) (hnL : L.length = nL) (kk : mx_WW G X q L S M1) (hq : pc + 3 = q := by rfl) : mx_WW G X pc L (a7 :: a6 :: a5 :: a4 :: a3 :: a2 :: a1 :: .ref b :: S) M :=
  r_callV (As := [a1, a2, a3, a4, a5, a6, a7]) q hX hR hM hd hc hli hs hcl hk rfl hrs hro hnL (fun r M' hp => by obtain ⟨rfl, rfl⟩ := hp; exact kk) hq
theorem r_cV7G (q : Nat) (hX : mx_OK G X own cc nL) {fr lo fr1 lo1 idx maxL b ci : Nat} (hR : mx_RM X fr1 lo1) {y : MethodName} {cy : ByteArray} {ret : Option FieldType} {fs : List (Option Nat)} {a1 a2 a3 a4 a5 a6 a7 : Value} {Post : Option Value → mx_Mem → Prop} (hM : mx_Met (mx_l X) G y cy maxL ret fr lo [.ref b, a1, a2, a3, a4, a5, a6, a7] M Post) (hd : decode cc pc = .ok (.invokevirtual idx, 3)) (hc : mx_cd y cy maxL ret 7) (hli : Cond.methodLink own idx y ∈ mx_gW ∧ Cond.instanceMethod y ∈ mx_gW ∧ Cond.selects y.cls y y ∈ mx_gW) (hs : mx_sh b = .inr (ci, fs)) (hcl : (mx_cl[ci]?).map (fun z => z.1) = some y.cls) (hk : Nat.blt b 61 = true) (hrs : mx_rs S = true) (hro : (Nat.ble (fr + 1) fr1 && Nat.ble (8 + (maxL + 11) + lo) lo1) = true) (hnL : L.length = nL) (kk : ∀ (r : Option Value) (M' : mx_Mem), Post r M' → mx_WW G X q L (r.toList ++ S) M') (hq : pc + 3 = q := by rfl) : mx_WW G X pc L (a7 :: a6 :: a5 :: a4 :: a3 :: a2 :: a1 :: .ref b :: S) M :=
  r_callV (As := [a1, a2, a3, a4, a5, a6, a7]) q hX hR hM hd hc hli hs hcl hk rfl hrs hro hnL kk hq
theorem r_cS1F (q : Nat) (hX : mx_OK G X own cc nL) {fr lo fr1 lo1 idx maxL : Nat} (hR : mx_RM X fr1 lo1) {y : MethodName} {cy : ByteArray} {ret : Option FieldType} {a1 : Value}  (hM : mx_Met (mx_l X) G y cy maxL ret fr lo [a1] M (mx_F (some v) M1)) (hd : decode cc pc = .ok (.invokestatic idx, 3)) (hc : mx_cd y cy maxL ret 1) (hli : Cond.methodLink own idx y ∈ mx_gW ∧ Cond.static y ∈ mx_gW) (hrs : mx_rs S = true) (hro : (Nat.ble (fr + 1) fr1 && Nat.ble (8 + (maxL + 11) + lo) lo1) = true) (hnL : L.length = nL) (kk : mx_WW G X q L (v :: S) M1) (hq : pc + 3 = q := by rfl) : mx_WW G X pc L (a1 :: S) M :=
  r_callS (As := [a1]) q hX hR hM hd hc hli rfl hrs hro hnL (fun r M' hp => by obtain ⟨rfl, rfl⟩ := hp; exact kk) hq
theorem r_cS1U (q : Nat) (hX : mx_OK G X own cc nL) {fr lo fr1 lo1 idx maxL : Nat} (hR : mx_RM X fr1 lo1) {y : MethodName} {cy : ByteArray} {ret : Option FieldType} {a1 : Value}  (hM : mx_Met (mx_l X) G y cy maxL ret fr lo [a1] M (mx_F none M1)) (hd : decode cc pc = .ok (.invokestatic idx, 3)) (hc : mx_cd y cy maxL ret 1) (hli : Cond.methodLink own idx y ∈ mx_gW ∧ Cond.static y ∈ mx_gW) (hrs : mx_rs S = true) (hro : (Nat.ble (fr + 1) fr1 && Nat.ble (8 + (maxL + 11) + lo) lo1) = true) (hnL : L.length = nL) (kk : mx_WW G X q L S M1) (hq : pc + 3 = q := by rfl) : mx_WW G X pc L (a1 :: S) M :=
  r_callS (As := [a1]) q hX hR hM hd hc hli rfl hrs hro hnL (fun r M' hp => by obtain ⟨rfl, rfl⟩ := hp; exact kk) hq
theorem r_cS1G (q : Nat) (hX : mx_OK G X own cc nL) {fr lo fr1 lo1 idx maxL : Nat} (hR : mx_RM X fr1 lo1) {y : MethodName} {cy : ByteArray} {ret : Option FieldType} {a1 : Value} {Post : Option Value → mx_Mem → Prop} (hM : mx_Met (mx_l X) G y cy maxL ret fr lo [a1] M Post) (hd : decode cc pc = .ok (.invokestatic idx, 3)) (hc : mx_cd y cy maxL ret 1) (hli : Cond.methodLink own idx y ∈ mx_gW ∧ Cond.static y ∈ mx_gW) (hrs : mx_rs S = true) (hro : (Nat.ble (fr + 1) fr1 && Nat.ble (8 + (maxL + 11) + lo) lo1) = true) (hnL : L.length = nL) (kk : ∀ (r : Option Value) (M' : mx_Mem), Post r M' → mx_WW G X q L (r.toList ++ S) M') (hq : pc + 3 = q := by rfl) : mx_WW G X pc L (a1 :: S) M :=
  r_callS (As := [a1]) q hX hR hM hd hc hli rfl hrs hro hnL kk hq
theorem r_cS2F (q : Nat) (hX : mx_OK G X own cc nL) {fr lo fr1 lo1 idx maxL : Nat} (hR : mx_RM X fr1 lo1) {y : MethodName} {cy : ByteArray} {ret : Option FieldType} {a1 a2 : Value}  (hM : mx_Met (mx_l X) G y cy maxL ret fr lo [a1, a2] M (mx_F (some v) M1)) (hd : decode cc pc = .ok (.invokestatic idx, 3)) (hc : mx_cd y cy maxL ret 2) (hli : Cond.methodLink own idx y ∈ mx_gW ∧ Cond.static y ∈ mx_gW) (hrs : mx_rs S = true) (hro : (Nat.ble (fr + 1) fr1 && Nat.ble (8 + (maxL + 11) + lo) lo1) = true) (hnL : L.length = nL) (kk : mx_WW G X q L (v :: S) M1) (hq : pc + 3 = q := by rfl) : mx_WW G X pc L (a2 :: a1 :: S) M :=
  r_callS (As := [a1, a2]) q hX hR hM hd hc hli rfl hrs hro hnL (fun r M' hp => by obtain ⟨rfl, rfl⟩ := hp; exact kk) hq
theorem r_cS2U (q : Nat) (hX : mx_OK G X own cc nL) {fr lo fr1 lo1 idx maxL : Nat} (hR : mx_RM X fr1 lo1) {y : MethodName} {cy : ByteArray} {ret : Option FieldType} {a1 a2 : Value}  (hM : mx_Met (mx_l X) G y cy maxL ret fr lo [a1, a2] M (mx_F none M1)) (hd : decode cc pc = .ok (.invokestatic idx, 3)) (hc : mx_cd y cy maxL ret 2) (hli : Cond.methodLink own idx y ∈ mx_gW ∧ Cond.static y ∈ mx_gW) (hrs : mx_rs S = true) (hro : (Nat.ble (fr + 1) fr1 && Nat.ble (8 + (maxL + 11) + lo) lo1) = true) (hnL : L.length = nL) (kk : mx_WW G X q L S M1) (hq : pc + 3 = q := by rfl) : mx_WW G X pc L (a2 :: a1 :: S) M :=
  r_callS (As := [a1, a2]) q hX hR hM hd hc hli rfl hrs hro hnL (fun r M' hp => by obtain ⟨rfl, rfl⟩ := hp; exact kk) hq
theorem r_cS2G (q : Nat) (hX : mx_OK G X own cc nL) {fr lo fr1 lo1 idx maxL : Nat} (hR : mx_RM X fr1 lo1) {y : MethodName} {cy : ByteArray} {ret : Option FieldType} {a1 a2 : Value} {Post : Option Value → mx_Mem → Prop} (hM : mx_Met (mx_l X) G y cy maxL ret fr lo [a1, a2] M Post) (hd : decode cc pc = .ok (.invokestatic idx, 3)) (hc : mx_cd y cy maxL ret 2) (hli : Cond.methodLink own idx y ∈ mx_gW ∧ Cond.static y ∈ mx_gW) (hrs : mx_rs S = true) (hro : (Nat.ble (fr + 1) fr1 && Nat.ble (8 + (maxL + 11) + lo) lo1) = true) (hnL : L.length = nL) (kk : ∀ (r : Option Value) (M' : mx_Mem), Post r M' → mx_WW G X q L (r.toList ++ S) M') (hq : pc + 3 = q := by rfl) : mx_WW G X pc L (a2 :: a1 :: S) M :=
  r_callS (As := [a1, a2]) q hX hR hM hd hc hli rfl hrs hro hnL kk hq
theorem r_cS3F (q : Nat) (hX : mx_OK G X own cc nL) {fr lo fr1 lo1 idx maxL : Nat} (hR : mx_RM X fr1 lo1) {y : MethodName} {cy : ByteArray} {ret : Option FieldType} {a1 a2 a3 : Value}  (hM : mx_Met (mx_l X) G y cy maxL ret fr lo [a1, a2, a3] M (mx_F (some v) M1)) (hd : decode cc pc = .ok (.invokestatic idx, 3)) (hc : mx_cd y cy maxL ret 3) (hli : Cond.methodLink own idx y ∈ mx_gW ∧ Cond.static y ∈ mx_gW) (hrs : mx_rs S = true) (hro : (Nat.ble (fr + 1) fr1 && Nat.ble (8 + (maxL + 11) + lo) lo1) = true) (hnL : L.length = nL) (kk : mx_WW G X q L (v :: S) M1) (hq : pc + 3 = q := by rfl) : mx_WW G X pc L (a3 :: a2 :: a1 :: S) M :=
  r_callS (As := [a1, a2, a3]) q hX hR hM hd hc hli rfl hrs hro hnL (fun r M' hp => by obtain ⟨rfl, rfl⟩ := hp; exact kk) hq
theorem r_cS3U (q : Nat) (hX : mx_OK G X own cc nL) {fr lo fr1 lo1 idx maxL : Nat} (hR : mx_RM X fr1 lo1) {y : MethodName} {cy : ByteArray} {ret : Option FieldType} {a1 a2 a3 : Value}  (hM : mx_Met (mx_l X) G y cy maxL ret fr lo [a1, a2, a3] M (mx_F none M1)) (hd : decode cc pc = .ok (.invokestatic idx, 3)) (hc : mx_cd y cy maxL ret 3) (hli : Cond.methodLink own idx y ∈ mx_gW ∧ Cond.static y ∈ mx_gW) (hrs : mx_rs S = true) (hro : (Nat.ble (fr + 1) fr1 && Nat.ble (8 + (maxL + 11) + lo) lo1) = true) (hnL : L.length = nL) (kk : mx_WW G X q L S M1) (hq : pc + 3 = q := by rfl) : mx_WW G X pc L (a3 :: a2 :: a1 :: S) M :=
  r_callS (As := [a1, a2, a3]) q hX hR hM hd hc hli rfl hrs hro hnL (fun r M' hp => by obtain ⟨rfl, rfl⟩ := hp; exact kk) hq
theorem r_cS3G (q : Nat) (hX : mx_OK G X own cc nL) {fr lo fr1 lo1 idx maxL : Nat} (hR : mx_RM X fr1 lo1) {y : MethodName} {cy : ByteArray} {ret : Option FieldType} {a1 a2 a3 : Value} {Post : Option Value → mx_Mem → Prop} (hM : mx_Met (mx_l X) G y cy maxL ret fr lo [a1, a2, a3] M Post) (hd : decode cc pc = .ok (.invokestatic idx, 3)) (hc : mx_cd y cy maxL ret 3) (hli : Cond.methodLink own idx y ∈ mx_gW ∧ Cond.static y ∈ mx_gW) (hrs : mx_rs S = true) (hro : (Nat.ble (fr + 1) fr1 && Nat.ble (8 + (maxL + 11) + lo) lo1) = true) (hnL : L.length = nL) (kk : ∀ (r : Option Value) (M' : mx_Mem), Post r M' → mx_WW G X q L (r.toList ++ S) M') (hq : pc + 3 = q := by rfl) : mx_WW G X pc L (a3 :: a2 :: a1 :: S) M :=
  r_callS (As := [a1, a2, a3]) q hX hR hM hd hc hli rfl hrs hro hnL kk hq
theorem r_cS4F (q : Nat) (hX : mx_OK G X own cc nL) {fr lo fr1 lo1 idx maxL : Nat} (hR : mx_RM X fr1 lo1) {y : MethodName} {cy : ByteArray} {ret : Option FieldType} {a1 a2 a3 a4 : Value}  (hM : mx_Met (mx_l X) G y cy maxL ret fr lo [a1, a2, a3, a4] M (mx_F (some v) M1)) (hd : decode cc pc = .ok (.invokestatic idx, 3)) (hc : mx_cd y cy maxL ret 4) (hli : Cond.methodLink own idx y ∈ mx_gW ∧ Cond.static y ∈ mx_gW) (hrs : mx_rs S = true) (hro : (Nat.ble (fr + 1) fr1 && Nat.ble (8 + (maxL + 11) + lo) lo1) = true) (hnL : L.length = nL) (kk : mx_WW G X q L (v :: S) M1) (hq : pc + 3 = q := by rfl) : mx_WW G X pc L (a4 :: a3 :: a2 :: a1 :: S) M :=
  r_callS (As := [a1, a2, a3, a4]) q hX hR hM hd hc hli rfl hrs hro hnL (fun r M' hp => by obtain ⟨rfl, rfl⟩ := hp; exact kk) hq
theorem r_cS4U (q : Nat) (hX : mx_OK G X own cc nL) {fr lo fr1 lo1 idx maxL : Nat} (hR : mx_RM X fr1 lo1) {y : MethodName} {cy : ByteArray} {ret : Option FieldType} {a1 a2 a3 a4 : Value}  (hM : mx_Met (mx_l X) G y cy maxL ret fr lo [a1, a2, a3, a4] M (mx_F none M1)) (hd : decode cc pc = .ok (.invokestatic idx, 3)) (hc : mx_cd y cy maxL ret 4) (hli : Cond.methodLink own idx y ∈ mx_gW ∧ Cond.static y ∈ mx_gW) (hrs : mx_rs S = true) (hro : (Nat.ble (fr + 1) fr1 && Nat.ble (8 + (maxL + 11) + lo) lo1) = true) (hnL : L.length = nL) (kk : mx_WW G X q L S M1) (hq : pc + 3 = q := by rfl) : mx_WW G X pc L (a4 :: a3 :: a2 :: a1 :: S) M :=
  r_callS (As := [a1, a2, a3, a4]) q hX hR hM hd hc hli rfl hrs hro hnL (fun r M' hp => by obtain ⟨rfl, rfl⟩ := hp; exact kk) hq
theorem r_cS4G (q : Nat) (hX : mx_OK G X own cc nL) {fr lo fr1 lo1 idx maxL : Nat} (hR : mx_RM X fr1 lo1) {y : MethodName} {cy : ByteArray} {ret : Option FieldType} {a1 a2 a3 a4 : Value} {Post : Option Value → mx_Mem → Prop} (hM : mx_Met (mx_l X) G y cy maxL ret fr lo [a1, a2, a3, a4] M Post) (hd : decode cc pc = .ok (.invokestatic idx, 3)) (hc : mx_cd y cy maxL ret 4) (hli : Cond.methodLink own idx y ∈ mx_gW ∧ Cond.static y ∈ mx_gW) (hrs : mx_rs S = true) (hro : (Nat.ble (fr + 1) fr1 && Nat.ble (8 + (maxL + 11) + lo) lo1) = true) (hnL : L.length = nL) (kk : ∀ (r : Option Value) (M' : mx_Mem), Post r M' → mx_WW G X q L (r.toList ++ S) M') (hq : pc + 3 = q := by rfl) : mx_WW G X pc L (a4 :: a3 :: a2 :: a1 :: S) M :=
  r_callS (As := [a1, a2, a3, a4]) q hX hR hM hd hc hli rfl hrs hro hnL kk hq
theorem r_cS5F (q : Nat) (hX : mx_OK G X own cc nL) {fr lo fr1 lo1 idx maxL : Nat} (hR : mx_RM X fr1 lo1) {y : MethodName} {cy : ByteArray} {ret : Option FieldType} {a1 a2 a3 a4 a5 : Value}  (hM : mx_Met (mx_l X) G y cy maxL ret fr lo [a1, a2, a3, a4, a5] M (mx_F (some v) M1)) (hd : decode cc pc = .ok (.invokestatic idx, 3)) (hc : mx_cd y cy maxL ret 5) (hli : Cond.methodLink own idx y ∈ mx_gW ∧ Cond.static y ∈ mx_gW) (hrs : mx_rs S = true) (hro : (Nat.ble (fr + 1) fr1 && Nat.ble (8 + (maxL + 11) + lo) lo1) = true) (hnL : L.length = nL) (kk : mx_WW G X q L (v :: S) M1) (hq : pc + 3 = q := by rfl) : mx_WW G X pc L (a5 :: a4 :: a3 :: a2 :: a1 :: S) M :=
  r_callS (As := [a1, a2, a3, a4, a5]) q hX hR hM hd hc hli rfl hrs hro hnL (fun r M' hp => by obtain ⟨rfl, rfl⟩ := hp; exact kk) hq
theorem r_cS5U (q : Nat) (hX : mx_OK G X own cc nL) {fr lo fr1 lo1 idx maxL : Nat} (hR : mx_RM X fr1 lo1) {y : MethodName} {cy : ByteArray} {ret : Option FieldType} {a1 a2 a3 a4 a5 : Value}  (hM : mx_Met (mx_l X) G y cy maxL ret fr lo [a1, a2, a3, a4, a5] M (mx_F none M1)) (hd : decode cc pc = .ok (.invokestatic idx, 3)) (hc : mx_cd y cy maxL ret 5) (hli : Cond.methodLink own idx y ∈ mx_gW ∧ Cond.static y ∈ mx_gW) (hrs : mx_rs S = true) (hro : (Nat.ble (fr + 1) fr1 && Nat.ble (8 + (maxL + 11) + lo) lo1) = true) (hnL : L.length = nL) (kk : mx_WW G X q L S M1) (hq : pc + 3 = q := by rfl) : mx_WW G X pc L (a5 :: a4 :: a3 :: a2 :: a1 :: S) M :=
  r_callS (As := [a1, a2, a3, a4, a5]) q hX hR hM hd hc hli rfl hrs hro hnL (fun r M' hp => by obtain ⟨rfl, rfl⟩ := hp; exact kk) hq
theorem r_cS5G (q : Nat) (hX : mx_OK G X own cc nL) {fr lo fr1 lo1 idx maxL : Nat} (hR : mx_RM X fr1 lo1) {y : MethodName} {cy : ByteArray} {ret : Option FieldType} {a1 a2 a3 a4 a5 : Value} {Post : Option Value → mx_Mem → Prop} (hM : mx_Met (mx_l X) G y cy maxL ret fr lo [a1, a2, a3, a4, a5] M Post) (hd : decode cc pc = .ok (.invokestatic idx, 3)) (hc : mx_cd y cy maxL ret 5) (hli : Cond.methodLink own idx y ∈ mx_gW ∧ Cond.static y ∈ mx_gW) (hrs : mx_rs S = true) (hro : (Nat.ble (fr + 1) fr1 && Nat.ble (8 + (maxL + 11) + lo) lo1) = true) (hnL : L.length = nL) (kk : ∀ (r : Option Value) (M' : mx_Mem), Post r M' → mx_WW G X q L (r.toList ++ S) M') (hq : pc + 3 = q := by rfl) : mx_WW G X pc L (a5 :: a4 :: a3 :: a2 :: a1 :: S) M :=
  r_callS (As := [a1, a2, a3, a4, a5]) q hX hR hM hd hc hli rfl hrs hro hnL kk hq
theorem r_cS6F (q : Nat) (hX : mx_OK G X own cc nL) {fr lo fr1 lo1 idx maxL : Nat} (hR : mx_RM X fr1 lo1) {y : MethodName} {cy : ByteArray} {ret : Option FieldType} {a1 a2 a3 a4 a5 a6 : Value}  (hM : mx_Met (mx_l X) G y cy maxL ret fr lo [a1, a2, a3, a4, a5, a6] M (mx_F (some v) M1)) (hd : decode cc pc = .ok (.invokestatic idx, 3)) (hc : mx_cd y cy maxL ret 6) (hli : Cond.methodLink own idx y ∈ mx_gW ∧ Cond.static y ∈ mx_gW) (hrs : mx_rs S = true) (hro : (Nat.ble (fr + 1) fr1 && Nat.ble (8 + (maxL + 11) + lo) lo1) = true) (hnL : L.length = nL) (kk : mx_WW G X q L (v :: S) M1) (hq : pc + 3 = q := by rfl) : mx_WW G X pc L (a6 :: a5 :: a4 :: a3 :: a2 :: a1 :: S) M :=
  r_callS (As := [a1, a2, a3, a4, a5, a6]) q hX hR hM hd hc hli rfl hrs hro hnL (fun r M' hp => by obtain ⟨rfl, rfl⟩ := hp; exact kk) hq
theorem r_cS6U (q : Nat) (hX : mx_OK G X own cc nL) {fr lo fr1 lo1 idx maxL : Nat} (hR : mx_RM X fr1 lo1) {y : MethodName} {cy : ByteArray} {ret : Option FieldType} {a1 a2 a3 a4 a5 a6 : Value}  (hM : mx_Met (mx_l X) G y cy maxL ret fr lo [a1, a2, a3, a4, a5, a6] M (mx_F none M1)) (hd : decode cc pc = .ok (.invokestatic idx, 3)) (hc : mx_cd y cy maxL ret 6) (hli : Cond.methodLink own idx y ∈ mx_gW ∧ Cond.static y ∈ mx_gW) (hrs : mx_rs S = true) (hro : (Nat.ble (fr + 1) fr1 && Nat.ble (8 + (maxL + 11) + lo) lo1) = true) (hnL : L.length = nL) (kk : mx_WW G X q L S M1) (hq : pc + 3 = q := by rfl) : mx_WW G X pc L (a6 :: a5 :: a4 :: a3 :: a2 :: a1 :: S) M :=
  r_callS (As := [a1, a2, a3, a4, a5, a6]) q hX hR hM hd hc hli rfl hrs hro hnL (fun r M' hp => by obtain ⟨rfl, rfl⟩ := hp; exact kk) hq
theorem r_cS6G (q : Nat) (hX : mx_OK G X own cc nL) {fr lo fr1 lo1 idx maxL : Nat} (hR : mx_RM X fr1 lo1) {y : MethodName} {cy : ByteArray} {ret : Option FieldType} {a1 a2 a3 a4 a5 a6 : Value} {Post : Option Value → mx_Mem → Prop} (hM : mx_Met (mx_l X) G y cy maxL ret fr lo [a1, a2, a3, a4, a5, a6] M Post) (hd : decode cc pc = .ok (.invokestatic idx, 3)) (hc : mx_cd y cy maxL ret 6) (hli : Cond.methodLink own idx y ∈ mx_gW ∧ Cond.static y ∈ mx_gW) (hrs : mx_rs S = true) (hro : (Nat.ble (fr + 1) fr1 && Nat.ble (8 + (maxL + 11) + lo) lo1) = true) (hnL : L.length = nL) (kk : ∀ (r : Option Value) (M' : mx_Mem), Post r M' → mx_WW G X q L (r.toList ++ S) M') (hq : pc + 3 = q := by rfl) : mx_WW G X pc L (a6 :: a5 :: a4 :: a3 :: a2 :: a1 :: S) M :=
  r_callS (As := [a1, a2, a3, a4, a5, a6]) q hX hR hM hd hc hli rfl hrs hro hnL kk hq
theorem r_cN1F (q : Nat) (hX : mx_OK G X own cc nL) {fr lo fr1 lo1 idx maxL : Nat} (hR : mx_RM X fr1 lo1) {y : MethodName} {cy : ByteArray} {ret : Option FieldType} {a1 : Value}  (hM : mx_Met (mx_l X) G y cy maxL ret fr lo [a1] M (mx_F (some v) M1)) (hd : decode cc pc = .ok (.invokestatic idx, 3)) (hc : mx_cd y cy maxL ret 1) (hli : Cond.methodLinkNest own idx y RX7 ∈ mx_nest ∧ Cond.static y ∈ mx_gW) (hrs : mx_rs S = true) (hro : (Nat.ble (fr + 1) fr1 && Nat.ble (8 + (maxL + 11) + lo) lo1) = true) (hnL : L.length = nL) (kk : mx_WW G X q L (v :: S) M1) (hq : pc + 3 = q := by rfl) : mx_WW G X pc L (a1 :: S) M :=
  r_callSN (As := [a1]) q hX hR hM hd hc hli rfl hrs hro hnL (fun r M' hp => by obtain ⟨rfl, rfl⟩ := hp; exact kk) hq
theorem r_cN1U (q : Nat) (hX : mx_OK G X own cc nL) {fr lo fr1 lo1 idx maxL : Nat} (hR : mx_RM X fr1 lo1) {y : MethodName} {cy : ByteArray} {ret : Option FieldType} {a1 : Value}  (hM : mx_Met (mx_l X) G y cy maxL ret fr lo [a1] M (mx_F none M1)) (hd : decode cc pc = .ok (.invokestatic idx, 3)) (hc : mx_cd y cy maxL ret 1) (hli : Cond.methodLinkNest own idx y RX7 ∈ mx_nest ∧ Cond.static y ∈ mx_gW) (hrs : mx_rs S = true) (hro : (Nat.ble (fr + 1) fr1 && Nat.ble (8 + (maxL + 11) + lo) lo1) = true) (hnL : L.length = nL) (kk : mx_WW G X q L S M1) (hq : pc + 3 = q := by rfl) : mx_WW G X pc L (a1 :: S) M :=
  r_callSN (As := [a1]) q hX hR hM hd hc hli rfl hrs hro hnL (fun r M' hp => by obtain ⟨rfl, rfl⟩ := hp; exact kk) hq
theorem r_cN1G (q : Nat) (hX : mx_OK G X own cc nL) {fr lo fr1 lo1 idx maxL : Nat} (hR : mx_RM X fr1 lo1) {y : MethodName} {cy : ByteArray} {ret : Option FieldType} {a1 : Value} {Post : Option Value → mx_Mem → Prop} (hM : mx_Met (mx_l X) G y cy maxL ret fr lo [a1] M Post) (hd : decode cc pc = .ok (.invokestatic idx, 3)) (hc : mx_cd y cy maxL ret 1) (hli : Cond.methodLinkNest own idx y RX7 ∈ mx_nest ∧ Cond.static y ∈ mx_gW) (hrs : mx_rs S = true) (hro : (Nat.ble (fr + 1) fr1 && Nat.ble (8 + (maxL + 11) + lo) lo1) = true) (hnL : L.length = nL) (kk : ∀ (r : Option Value) (M' : mx_Mem), Post r M' → mx_WW G X q L (r.toList ++ S) M') (hq : pc + 3 = q := by rfl) : mx_WW G X pc L (a1 :: S) M :=
  r_callSN (As := [a1]) q hX hR hM hd hc hli rfl hrs hro hnL kk hq
end MXA
/-- a switch over 0 .. n-1 -/
theorem mx_sw (x : Int32) (n : Nat) (hn : n < 2 ^ 31) : (x.toInt < 0 ∨ (n : Int) - 1 < x.toInt) ∨ ∃ k : Nat, k < n ∧ x = nI k := by
  rcases pk_ix x hn with h | h | h
  · left; left
    have := Int32.lt_iff_toInt_lt.mp h
    simpa using this
  · left; right
    have := Int32.le_iff_toInt_le.mp h
    rw [nI_toInt hn] at this
    omega
  · exact Or.inr h
/-- a truth as a number -/
def bI (p : Prop) [Decidable p] : Int32 := if p then 1 else 0
theorem bI0 {p : Prop} [Decidable p] : bI p = 0 ↔ ¬ p := by
  unfold bI
  by_cases h : p <;> simp [h]
theorem bI1 {p : Prop} [Decidable p] : ¬ bI p = 0 ↔ p := by
  unfold bI
  by_cases h : p <;> simp [h]
theorem bIb {p : Prop} [Decidable p] : bI p = 0 ∨ bI p = 1 := by
  unfold bI
  by_cases h : p <;> simp [h]
theorem bI_t {p : Prop} [Decidable p] (h : p) : bI p = 1 := if_pos h
theorem bI_f {p : Prop} [Decidable p] (h : ¬ p) : bI p = 0 := if_neg h
section MXD
variable {G : mx_G} {X : mx_X} {own : String} {cc : ByteArray} {nL pc : Nat} {L S : List Value} {M : mx_Mem}
theorem r_Icmp_lt (q t : Nat) (hX : mx_OK G X own cc nL) {x y : Int32} {off : Int} (hd : decode cc pc = .ok (.if_icmp .lt off, 3)) (kt : ¬ y ≤ x → mx_WW G X t L S M) (kf : y ≤ x → mx_WW G X q L S M) (ht : (pc : Int) + off = (t : Int) := by decide) (hq : pc + 3 = q := by rfl) : mx_WW G X pc L (.int y :: .int x :: S) M :=
  r_icmp_lt q t hX hd (fun h => kt (Int32.not_le.mpr h)) (fun h => kf (Int32.not_lt.mp h)) ht hq
theorem r_Icmp_gt (q t : Nat) (hX : mx_OK G X own cc nL) {x y : Int32} {off : Int} (hd : decode cc pc = .ok (.if_icmp .gt off, 3)) (kt : ¬ x ≤ y → mx_WW G X t L S M) (kf : x ≤ y → mx_WW G X q L S M) (ht : (pc : Int) + off = (t : Int) := by decide) (hq : pc + 3 = q := by rfl) : mx_WW G X pc L (.int y :: .int x :: S) M :=
  r_icmp_gt q t hX hd (fun h => kt (Int32.not_le.mpr h)) (fun h => kf (Int32.not_lt.mp h)) ht hq
theorem r_If_lt (q t : Nat) (hX : mx_OK G X own cc nL) {x : Int32} {off : Int} (hd : decode cc pc = .ok (.ifCond .lt off, 3)) (kt : ¬ 0 ≤ x → mx_WW G X t L S M) (kf : 0 ≤ x → mx_WW G X q L S M) (ht : (pc : Int) + off = (t : Int) := by decide) (hq : pc + 3 = q := by rfl) : mx_WW G X pc L (.int x :: S) M :=
  r_if_lt q t hX hd (fun h => kt (Int32.not_le.mpr h)) (fun h => kf (Int32.not_lt.mp h)) ht hq
theorem r_If_gt (q t : Nat) (hX : mx_OK G X own cc nL) {x : Int32} {off : Int} (hd : decode cc pc = .ok (.ifCond .gt off, 3)) (kt : ¬ x ≤ 0 → mx_WW G X t L S M) (kf : x ≤ 0 → mx_WW G X q L S M) (ht : (pc : Int) + off = (t : Int) := by decide) (hq : pc + 3 = q := by rfl) : mx_WW G X pc L (.int x :: S) M :=
  r_if_gt q t hX hd (fun h => kt (Int32.not_le.mpr h)) (fun h => kf (Int32.not_lt.mp h)) ht hq
theorem r_Beq (q t : Nat) (hX : mx_OK G X own cc nL) {p : Prop} [Decidable p] {off : Int} (hd : decode cc pc = .ok (.ifCond .eq off, 3)) (kt : ¬ p → mx_WW G X t L S M) (kf : p → mx_WW G X q L S M) (ht : (pc : Int) + off = (t : Int) := by decide) (hq : pc + 3 = q := by rfl) : mx_WW G X pc L (.int (bI p) :: S) M :=
  r_if_eq q t hX hd (fun h => kt (bI0.mp h)) (fun h => kf (bI1.mp h)) ht hq
theorem r_Bne (q t : Nat) (hX : mx_OK G X own cc nL) {p : Prop} [Decidable p] {off : Int} (hd : decode cc pc = .ok (.ifCond .ne off, 3)) (kt : p → mx_WW G X t L S M) (kf : ¬ p → mx_WW G X q L S M) (ht : (pc : Int) + off = (t : Int) := by decide) (hq : pc + 3 = q := by rfl) : mx_WW G X pc L (.int (bI p) :: S) M :=
  r_if_ne q t hX hd (fun h => kt (bI1.mp h)) (fun h => kf (bI0.mp h)) ht hq
theorem r_mmax (q : Nat) (hX : mx_OK G X own cc nL) {fr1 lo1 idx : Nat} (hR : mx_RM X fr1 lo1) {x y : Int32} (hd : decode cc pc = .ok (.invokestatic idx, 3)) (hli : Cond.methodLink own idx yJ9_max_7cf53 ∈ mx_gW ∧ Cond.static yJ9_max_7cf53 ∈ mx_gW) (hrs : mx_rs S = true) (hro : (Nat.ble 1 fr1 && Nat.ble 21 lo1) = true) (hnL : L.length = nL) (kk : mx_WW G X q L (.int (if x ≤ y then y else x) :: S) M) (hq : pc + 3 = q := by rfl) : mx_WW G X pc L (.int y :: .int x :: S) M := by
  obtain ⟨p, l, e, R, s, m, args, below, meth, c, Q, cells, slots⟩ := X
  obtain ⟨hx, hb, hml, hown, hts, hSC⟩ := hX
  obtain ⟨hR1, hR2, hR3, hR4⟩ := hR
  subst hq
  intro H locs ls hP hS hl
  simp only [Bool.and_eq_true] at hro
  have h1 := Nat.le_of_ble_eq_true hro.1
  have h2 := Nat.le_of_ble_eq_true hro.2
  have h3 := mx_rsum G hrs
  refine va_mmax hx hb (by rw [hml, hl.1, hnL]) hown (hts _ hli.1) (hts _ hli.2) (hts _ kJ9_max_7cf53.2.1) (hts _ kJ9_max_7cf53.1) (by omega) (by omega) hR3 hR4 hd ?_
  have e : (if x < y then y else x) = if x ≤ y then y else x := by
    by_cases h : x < y
    · rw [if_pos h, if_pos (Int32.le_of_lt h)]
    · rw [if_neg h]
      by_cases h9 : x ≤ y
      · rw [if_pos h9]
        exact Int32.le_antisymm h9 (Int32.not_lt.mp h)
      · rw [if_neg h9]
  rw [e]
  exact kk H locs ls hP hS hl
theorem r_mmin (q : Nat) (hX : mx_OK G X own cc nL) {fr1 lo1 idx : Nat} (hR : mx_RM X fr1 lo1) {x y : Int32} (hd : decode cc pc = .ok (.invokestatic idx, 3)) (hli : Cond.methodLink own idx yJ9_min_7cf53 ∈ mx_gW ∧ Cond.static yJ9_min_7cf53 ∈ mx_gW) (hrs : mx_rs S = true) (hro : (Nat.ble 1 fr1 && Nat.ble 21 lo1) = true) (hnL : L.length = nL) (kk : mx_WW G X q L (.int (if x ≤ y then x else y) :: S) M) (hq : pc + 3 = q := by rfl) : mx_WW G X pc L (.int y :: .int x :: S) M := by
  obtain ⟨p, l, e, R, s, m, args, below, meth, c, Q, cells, slots⟩ := X
  obtain ⟨hx, hb, hml, hown, hts, hSC⟩ := hX
  obtain ⟨hR1, hR2, hR3, hR4⟩ := hR
  subst hq
  intro H locs ls hP hS hl
  simp only [Bool.and_eq_true] at hro
  have h1 := Nat.le_of_ble_eq_true hro.1
  have h2 := Nat.le_of_ble_eq_true hro.2
  have h3 := mx_rsum G hrs
  refine va_mmin hx hb (by rw [hml, hl.1, hnL]) hown (hts _ hli.1) (hts _ hli.2) (hts _ kJ9_min_7cf53.2.1) (hts _ kJ9_min_7cf53.1) (by omega) (by omega) hR3 hR4 hd ?_
  have e : (if y < x then y else x) = if x ≤ y then x else y := by
    by_cases h : y < x
    · rw [if_pos h, if_neg (Int32.not_le.mpr h)]
    · rw [if_neg h, if_pos (Int32.not_lt.mp h)]
  rw [e]
  exact kk H locs ls hP hS hl
def mx_cpl (own : String) (idx : Nat) : Prop := Cond.methodLink own idx arraycopyName ∈ mx_gW ∧ Cond.native arraycopyName ∈ mx_gW ∧ Cond.static arraycopyName ∈ mx_gW ∧ Cond.initialized "java/lang/System" ∈ mx_gW
theorem lX2_60 : mx_cpl RX2 60 := ⟨mx_in (by decide +kernel), mx_in (by decide +kernel), mx_in (by decide +kernel), mx_in (by decide +kernel)⟩
theorem lX5_21 : mx_cpl RX5 21 := ⟨mx_in (by decide +kernel), mx_in (by decide +kernel), mx_in (by decide +kernel), mx_in (by decide +kernel)⟩
theorem r_copyW (q : Nat) (hX : mx_OK G X own cc nL) {fr1 lo1 idx k0 k1 n0 n1 : Nat} (hR : mx_RM X fr1 lo1) {sp dp n : Int32} (hd : decode cc pc = .ok (.invokestatic idx, 3)) (hli : mx_cpl own idx) (hs0 : mx_sh k0 = .inl (.int, n0)) (hs1 : mx_sh k1 = .inl (.int, n1)) (hk0 : Nat.blt k0 61 = true) (hk1 : Nat.blt k1 61 = true) (h9 : (¬ sp < 0 ∧ ¬ dp < 0 ∧ ¬ n < 0) ∧ sp.toNatClampNeg + n.toNatClampNeg ≤ n0 ∧ dp.toNatClampNeg + n.toNatClampNeg ≤ n1) (hrs : mx_rs S = true) (hro : (Nat.ble 1 fr1 && Nat.ble (8 + (nativeFrameWords "java/lang/System" "arraycopy" 5 + 11)) lo1) = true) (hnL : L.length = nL)
    (kk : mx_WW G X q L S (mR M k1 (va_cpy (M.1 k0) (M.1 k1) sp.toNatClampNeg dp.toNatClampNeg n.toNatClampNeg))) (hq : pc + 3 = q := by rfl) : mx_WW G X pc L (.int n :: .int dp :: .ref k1 :: .int sp :: .ref k0 :: S) M := by
  obtain ⟨p, l, e, R, s, m, args, below, meth, c, Q, cells, slots⟩ := X
  obtain ⟨hx, hb, hml, hown, hts, hSC⟩ := hX
  obtain ⟨hR1, hR2, hR3, hR4⟩ := hR
  subst hq
  intro H locs ls hP hS hl
  simp only [Bool.and_eq_true] at hro
  have h1 := Nat.le_of_ble_eq_true hro.1
  have h2 := Nat.le_of_ble_eq_true hro.2
  have h3 := mx_rsum G hrs
  obtain ⟨g1, g2, g3, g4⟩ := hli
  refine va_copyi hx hb (by rw [hml, hl.1, hnL]) hown (hts _ g1) (hts _ g2) (hts _ g3) (hts _ g4) hSC.1 hP (mx_D_of hSC M) hS k0 k1 0 0 (mx_ar (mx_lt hSC hk0) hs0) (mx_ar (mx_lt hSC hk1) hs1) rfl rfl rfl h9.1.1 h9.1.2.1 h9.1.2.2 h9.2.1 h9.2.2 (fun _ _ => rfl) (by omega) (by omega) hd (fun H1 locs1 a1 a2 a3 => ?_)
  rw [mx_setA (mx_lt hSC hk1) hs1 rfl] at a1
  exact kk H1 locs1 ls a1 a3 hl
theorem r_copyT (q : Nat) (hX : mx_OK G X own cc nL) {fr1 lo1 idx k0 k1 n1 : Nat} (j0 : Nat) {C9 n9 : String} {l9 : List Int32} (hR : mx_RM X fr1 lo1) {sp dp n : Int32} (hd : decode cc pc = .ok (.invokestatic idx, 3)) (hli : mx_cpl own idx) (hs0 : mx_stL[j0]? = some (k0, C9, n9, l9)) (hs1 : mx_sh k1 = .inl (.int, n1)) (hk1 : Nat.blt k1 61 = true) (h9 : (¬ sp < 0 ∧ ¬ dp < 0 ∧ ¬ n < 0) ∧ sp.toNatClampNeg + n.toNatClampNeg ≤ l9.length ∧ dp.toNatClampNeg + n.toNatClampNeg ≤ n1) (hrs : mx_rs S = true) (hro : (Nat.ble 1 fr1 && Nat.ble (8 + (nativeFrameWords "java/lang/System" "arraycopy" 5 + 11)) lo1) = true) (hnL : L.length = nL)
    (kk : mx_WW G X q L S (mR M k1 (va_cpy (fun i => l9.getD i 0) (M.1 k1) sp.toNatClampNeg dp.toNatClampNeg n.toNatClampNeg))) (hq : pc + 3 = q := by rfl) : mx_WW G X pc L (.int n :: .int dp :: .ref k1 :: .int sp :: .ref k0 :: S) M := by
  obtain ⟨p, l, e, R, s, m, args, below, meth, c, Q, cells, slots⟩ := X
  obtain ⟨hx, hb, hml, hown, hts, hSC⟩ := hX
  obtain ⟨hR1, hR2, hR3, hR4⟩ := hR
  subst hq
  intro H locs ls hP hS hl T hT X9
  simp only [Bool.and_eq_true] at hro
  have r1 := Nat.le_of_ble_eq_true hro.1
  have r2 := Nat.le_of_ble_eq_true hro.2
  have r3 := mx_rsum G hrs
  obtain ⟨g1, g2, g3, g4⟩ := hli
  obtain ⟨⟨h1, h2, h3⟩, h4, h5⟩ := h9
  have nn : ∀ z : Int32, ¬ z < 0 → z.toInt = (z.toNatClampNeg : Int) := by
    intro z hz
    have hz0 := Int32.le_iff_toInt_le.mp (Int32.not_lt.mp hz)
    simp at hz0
    show z.toInt = ((z.toInt.toNat : Nat) : Int)
    omega
  have hD := mx_D_of hSC M
  obtain ⟨-, cell, t1, t2, t3, t4, t5, t6, t7⟩ := hSC.2.2.2.2.2.1 _ (List.mem_of_getElem? hs0)
  have t1' : cell = cell := rfl
  have ha1 := mx_ar (M := M) (mx_lt hSC hk1) hs1
  have hlt : mx_ad G k0 < s.heap.size := (Array.getElem?_eq_some_iff.mp t1).1
  have hc0 : H[mx_ad G k0]? = some cell := by rw [hS.2.1 _ hlt t7]; exact t1
  have hc1 : H[mx_ad G k1]? = some (vp_cell (mx_cA G .int) (n1, .inl (M.1 k1))) := hP k1 _ ha1
  obtain ⟨u1, kc0, hkc0, cm0, hkk0⟩ := t2
  obtain ⟨-, kc1, hkc1, cm1, hkk1⟩ := (hSC.1.2 0 _ rfl).1 n1 (fun j => .int (M.1 k1 j))
  have hsl : ∀ i : Nat, i < l9.length → cell.slots[i]? = some (.int (l9.getD i 0)) := fun i hi => t6 i hi
  obtain ⟨vm', X', step⟩ := X9.arraycopy hx hown (hts _ g1) (hts _ g2) (hts _ g3) (hts _ g4) (src := mx_ad G k0) (dst := mx_ad G k1) (cs := cell) (cd := vp_cell (mx_cA G .int) (n1, .inl (M.1 k1))) (srcPos := sp) (destPos := dp) (n := n) (by rw [hT]; exact hc0) (by rw [hT]; exact hc1)
    u1 (fun _ h => by cases h) t3 (fun h => by cases h) hkc0 hkc1 hkk0 hkk1 (by simp [refKind]) h1 h2 h3
    (by
      have t4' : l9.length ≤ cell.slots.size := t4
      rw [nn sp h1, nn n h3]
      omega)
    (by rw [nn dp h2, nn n h3]; show ¬ _ > ((arrV (mx_cA G .int) n1 (fun j => .int (M.1 k1 j))).slots.size : Int); rw [arrV_size]; omega)
    (fun vm₁ _ i hi => by
      have e : cell.slots.getD (sp.toNatClampNeg + i) .null = .int (l9.getD (sp.toNatClampNeg + i) 0) := by
        rw [Array.getD_eq_getD_getElem?, hsl _ (by omega)]
        rfl
      refine ⟨?_, ?_⟩
      · rw [e]
        rfl
      · rw [e]
        exact trivial)
    (g := F0 m pc ls (.int n :: .int dp :: .ref (mx_ad G k1) :: .int sp :: .ref (mx_ad G k0) :: S.map (mx_c (mx_ad G)))) rfl (by rw [hml, hl.1, hnL]) (rest := S.map (mx_c (mx_ad G))) rfl (by rw [hb]; exact hd) (by omega) (by show 2 * 0 + _ + _ ≤ _; omega)
  have e1 : copied cell (vp_cell (mx_cA G .int) (n1, .inl (M.1 k1))) sp dp n = vp_cell (mx_cA G .int) (n1, .inl (va_cpy (fun i => l9.getD i 0) (M.1 k1) sp.toNatClampNeg dp.toNatClampNeg n.toNatClampNeg)) := va_copiedX (fun z => .int z) cell (mx_cA G .int) (fun i => l9.getD i 0) (M.1 k1) hsl h4
  rw [e1] at X' step
  have hll : mx_ad G k1 < H.size := (Array.getElem?_eq_some_iff.mp hc1).1
  have hheap : ((T.setVm vm').setCell (mx_ad G k1) (vp_cell (mx_cA G .int) (n1, .inl (va_cpy (fun i => l9.getD i 0) (M.1 k1) sp.toNatClampNeg dp.toNatClampNeg n.toNatClampNeg)))).heap = H.setIfInBounds (mx_ad G k1) (vp_cell (mx_cA G .int) (n1, .inl (va_cpy (fun i => l9.getD i 0) (M.1 k1) sp.toNatClampNeg dp.toNatClampNeg n.toNatClampNeg))) := by rw [← hT]; rfl
  have oq : ∀ q : Nat, q ≠ mx_ad G k1 → (H.setIfInBounds (mx_ad G k1) (vp_cell (mx_cA G .int) (n1, .inl (va_cpy (fun i => l9.getD i 0) (M.1 k1) sp.toNatClampNeg dp.toNatClampNeg n.toNatClampNeg))))[q]? = H[q]? := fun q hq => by simp [Array.getElem?_setIfInBounds, Ne.symm hq]
  have hP1 := hP.set (e := .inl (mx_cA G .int, n1, .inl (va_cpy (fun i => l9.getD i 0) (M.1 k1) sp.toNatClampNeg dp.toNatClampNeg n.toNatClampNeg))) (H1 := H.setIfInBounds (mx_ad G k1) (vp_cell (mx_cA G .int) (n1, .inl (va_cpy (fun i => l9.getD i 0) (M.1 k1) sp.toNatClampNeg dp.toNatClampNeg n.toNatClampNeg)))) hD ha1 (by
    show (H.setIfInBounds (mx_ad G k1) _)[mx_ad G k1]? = some _
    simp [Array.getElem?_setIfInBounds, hll]) oq
  rw [mx_setA (mx_lt hSC hk1) hs1 rfl] at hP1
  obtain ⟨t, b1, b2⟩ := kk _ (locs ++ _) ls hP1 ⟨by simp; exact hS.1, fun q a1 a2 => by
      rw [oq q (fun e => a2 (by rw [e]; exact hD.2 k1 _ ha1))]
      exact hS.2.1 q a1 a2, fun q hq => by
      rcases List.mem_append.mp hq with h | h
      · exact hS.2.2 q h
      · obtain ⟨z, -, hz⟩ := List.mem_map.mp h
        rw [← hz]
        exact hD.2 k1 _ ha1⟩ hl _ hheap X'
  exact ⟨t, step t b1, b2⟩
end MXD
end
section
/-! rows where the numbers are known -/
section MXK
variable {G : mx_G} {X : mx_X} {own : String} {cc : ByteArray} {nL pc : Nat} {L S : List Value} {M : mx_Mem}
theorem r_iincK (q : Nat) (hX : mx_OK G X own cc nL) {k : Nat} {n : Int} {x w : Int32} (hd : decode cc pc = .ok (.iinc k n, 3)) (hv : L[k]? = some (.int x)) (hw : x + Int32.ofInt n = w) (hi : mx_st1 L k = true) (kk : mx_WW G X q (L.set k (.int w)) S M) (hq : pc + 3 = q := by rfl) : mx_WW G X pc L S M :=
  r_iinc q hX hd hv rfl hi (by rw [hw]; exact kk) hq
theorem r_iaddK (q : Nat) (hX : mx_OK G X own cc nL) {x y w : Int32} (hd : decode cc pc = .ok (.iadd, 1)) (hw : x + y = w) (kk : mx_WW G X q L (.int w :: S) M) (hq : pc + 1 = q := by rfl) : mx_WW G X pc L (.int y :: .int x :: S) M := r_iadd q hX hd (by rw [hw]; exact kk) hq
theorem r_isubK (q : Nat) (hX : mx_OK G X own cc nL) {x y w : Int32} (hd : decode cc pc = .ok (.isub, 1)) (hw : x - y = w) (kk : mx_WW G X q L (.int w :: S) M) (hq : pc + 1 = q := by rfl) : mx_WW G X pc L (.int y :: .int x :: S) M := r_isub q hX hd (by rw [hw]; exact kk) hq
theorem r_imulK (q : Nat) (hX : mx_OK G X own cc nL) {x y w : Int32} (hd : decode cc pc = .ok (.imul, 1)) (hw : x * y = w) (kk : mx_WW G X q L (.int w :: S) M) (hq : pc + 1 = q := by rfl) : mx_WW G X pc L (.int y :: .int x :: S) M := r_imul q hX hd (by rw [hw]; exact kk) hq
theorem r_idivK (q : Nat) (hX : mx_OK G X own cc nL) {x y w : Int32} (hd : decode cc pc = .ok (.idiv, 1)) (hne : ¬ y = 0) (hw : x / y = w) (kk : mx_WW G X q L (.int w :: S) M) (hq : pc + 1 = q := by rfl) : mx_WW G X pc L (.int y :: .int x :: S) M := r_idiv q hX hd hne (by rw [hw]; exact kk) hq
theorem r_iremK (q : Nat) (hX : mx_OK G X own cc nL) {x y w : Int32} (hd : decode cc pc = .ok (.irem, 1)) (hne : ¬ y = 0) (hw : x - x / y * y = w) (kk : mx_WW G X q L (.int w :: S) M) (hq : pc + 1 = q := by rfl) : mx_WW G X pc L (.int y :: .int x :: S) M := r_irem q hX hd hne (by rw [hw]; exact kk) hq
theorem r_ialdK (q : Nat) (hX : mx_OK G X own cc nL) {k n j : Nat} {i : Int32} (hd : decode cc pc = .ok (.iaload, 1)) (hs : mx_sh k = .inl (.int, n)) (hk : Nat.blt k 61 = true) (hi : vp_in i n) (hj : i.toNatClampNeg = j) (kk : mx_WW G X q L (.int (M.1 k j) :: S) M) (hq : pc + 1 = q := by rfl) : mx_WW G X pc L (.int i :: .ref k :: S) M := r_iald q hX hd hs hk hi (by rw [hj]; exact kk) hq
theorem r_zaldK (q : Nat) (hX : mx_OK G X own cc nL) {k n j : Nat} {i : Int32} (hd : decode cc pc = .ok (.baload, 1)) (hs : mx_sh k = .inl (.boolean, n)) (hk : Nat.blt k 61 = true) (hi : vp_in i n) (hj : i.toNatClampNeg = j) (kk : mx_WW G X q L (.int (M.1 k j) :: S) M) (hq : pc + 1 = q := by rfl) : mx_WW G X pc L (.int i :: .ref k :: S) M := r_zald q hX hd hs hk hi (by rw [hj]; exact kk) hq
theorem r_iastK (q : Nat) (hX : mx_OK G X own cc nL) {k n j : Nat} {i x : Int32} (hd : decode cc pc = .ok (.iastore, 1)) (hs : mx_sh k = .inl (.int, n)) (hk : Nat.blt k 61 = true) (hi : vp_in i n) (hj : i.toNatClampNeg = j) (kk : mx_WW G X q L S (mI M k j x)) (hq : pc + 1 = q := by rfl) : mx_WW G X pc L (.int x :: .int i :: .ref k :: S) M := r_iast q hX hd hs hk hi (by rw [hj]; exact kk) hq
theorem r_zastK (q : Nat) (hX : mx_OK G X own cc nL) {k n j : Nat} {i x y : Int32} (hd : decode cc pc = .ok (.bastore, 1)) (hs : mx_sh k = .inl (.boolean, n)) (hk : Nat.blt k 61 = true) (hi : vp_in i n) (hj : i.toNatClampNeg = j) (hy : vp_nar .boolean x = y) (kk : mx_WW G X q L S (mI M k j y)) (hq : pc + 1 = q := by rfl) : mx_WW G X pc L (.int x :: .int i :: .ref k :: S) M := r_zast q hX hd hs hk hi (by rw [hj, hy]; exact kk) hq
theorem r_taldK (q : Nat) (hX : mx_OK G X own cc nL) {k j : Nat} {i v : Int32} {C n9 : String} {l9 : List Int32} (hd : decode cc pc = .ok (.iaload, 1)) (hs : mx_stL[j]? = some (k, C, n9, l9)) (hi : vp_in i l9.length) (hv : l9.getD i.toNatClampNeg 0 = v) (kk : mx_WW G X q L (.int v :: S) M) (hq : pc + 1 = q := by rfl) : mx_WW G X pc L (.int i :: .ref k :: S) M := r_tald q hX hd hs hi (by rw [hv]; exact kk) hq
theorem r_aaldK (q : Nat) (hX : mx_OK G X own cc nL) {k n j : Nat} {i : Int32} (hd : decode cc pc = .ok (.aaload, 1)) (hs : mx_sh k = .inl (.array .int, n)) (hk : Nat.blt k 61 = true) (hi : vp_in i n) (hj : mx_row i.toNatClampNeg = j) (kk : mx_WW G X q L (.ref j :: S) M) (hq : pc + 1 = q := by rfl) : mx_WW G X pc L (.int i :: .ref k :: S) M := r_aald q hX hd hs hk hi (by rw [hj]; exact kk) hq
end MXK
/-- a team; a player -/
abbrev isT (t : Int32) : Prop := t = 0 ∨ t = 1
abbrev isP (p : Int32) : Prop := 0 ≤ p ∧ ¬ 12 ≤ p
theorem mI_self (M : mx_Mem) (k j : Nat) (v : Int32) : (mI M k j v).1 k j = v := by simp [mI, mR, upd]
theorem mI_ne (M : mx_Mem) {k k' : Nat} (j j' : Nat) (v : Int32) (h : k' ≠ k) : (mI M k j v).1 k' j' = M.1 k' j' := by simp [mI, mR, h]
theorem mI_nj (M : mx_Mem) (k : Nat) {j j' : Nat} (v : Int32) (h : j' ≠ j) : (mI M k j v).1 k j' = M.1 k j' := by simp [mI, mR, upd, h]
theorem mI_ap (M : mx_Mem) (k j k' j' : Nat) (v : Int32) : (mI M k j v).1 k' j' = if k' = k ∧ j' = j then v else M.1 k' j' := by
  by_cases h : k' = k
  · subst h
    by_cases h2 : j' = j <;> simp [mI, mR, upd, h2]
  · simp [mI, mR, h]
theorem mI_2 (M : mx_Mem) (k j : Nat) (v : Int32) : (mI M k j v).2 = M.2 := rfl
theorem mR_ap (M : mx_Mem) (k k' : Nat) (f : Nat → Int32) : (mR M k f).1 k' = if k' = k then f else M.1 k' := rfl
theorem mR_2 (M : mx_Mem) (k : Nat) (f : Nat → Int32) : (mR M k f).2 = M.2 := rfl
theorem mI_idem (M : mx_Mem) (k j : Nat) (v w : Int32) : mI (mI M k j v) k j w = mI M k j w := by
  apply Prod.ext
  · funext a b
    rw [mI_ap, mI_ap, mI_ap]
    by_cases h : a = k ∧ b = j <;> simp [h]
  · rfl
theorem vp_in_iff2 {i : Int32} {n : Nat} (hn : n < 2 ^ 31) : vp_in i n ↔ 0 ≤ i ∧ ¬ nI n ≤ i := by
  constructor
  · intro h
    obtain ⟨j, h1, rfl⟩ := vp_in_of h hn
    exact ⟨nI_pos' (by omega), nI_ge h1 hn⟩
  · intro ⟨h1, h2⟩
    rcases pk_ix i hn with h | h | ⟨j, h, rfl⟩
    · exact absurd h (Int32.not_lt.mpr h1)
    · exact absurd h h2
    · exact vp_in_nI h hn
theorem vp_in_of2 {i : Int32} (n : Nat) (hn : n < 2 ^ 31) {m : Int32} (hm : nI n = m) (h1 : 0 ≤ i) (h2 : ¬ m ≤ i) : vp_in i n := (vp_in_iff2 hn).mpr ⟨h1, by rw [hm]; exact h2⟩
end
section
set_option maxRecDepth 100000 in
set_option maxHeartbeats 4000000 in
theorem tX7_isTeam {l : Launch} {G : mx_G} {t : Int32} {M : mx_Mem} : mx_Met l G yX7_isTeam cX7_isTeam 1 ((some FieldType.boolean)) 0 0 [.int t] M (mx_F (some (.int (bI (isT t)))) M) := by
  refine mx_enter (own := RX7) (L := [.int t]) (by decide) rfl rfl rfl ?_
  intro X hlX hX hR hT
  refine r_iload_n 1 hX dX7_isTeam_0 rfl ?_
  refine r_if_eq 4 9 hX dX7_isTeam_1 (fun c1 => ?_) (fun c1 => ?_)
  · refine r_iconst 10 hX dX7_isTeam_9 (v := 1) (by decide) ?_
    refine r_goto 14 hX dX7_isTeam_10 ?_
    refine r_zret hX hT dX7_isTeam_14 (by first | assumption | decide) ?_
    exact ⟨by simp [*, bI], rfl⟩
  · refine r_iload_n 5 hX dX7_isTeam_4 rfl ?_
    refine r_iconst 6 hX dX7_isTeam_5 (v := 1) (by decide) ?_
    refine r_icmp_ne 9 13 hX dX7_isTeam_6 (fun c2 => ?_) (fun c2 => ?_)
    · refine r_iconst 14 hX dX7_isTeam_13 (v := 0) (by decide) ?_
      refine r_zret hX hT dX7_isTeam_14 (by first | assumption | decide) ?_
      exact ⟨by simp [*, bI], rfl⟩
    · refine r_iconst 10 hX dX7_isTeam_9 (v := 1) (by decide) ?_
      refine r_goto 14 hX dX7_isTeam_10 ?_
      refine r_zret hX hT dX7_isTeam_14 (by first | assumption | decide) ?_
      exact ⟨by simp [*, bI], rfl⟩
set_option maxRecDepth 100000 in
set_option maxHeartbeats 4000000 in
theorem tX7_isPlayer {l : Launch} {G : mx_G} {t : Int32} {M : mx_Mem} : mx_Met l G yX7_isPlayer cX7_isPlayer 1 ((some FieldType.boolean)) 0 0 [.int t] M (mx_F (some (.int (bI (isP t)))) M) := by
  refine mx_enter (own := RX7) (L := [.int t]) (by decide) rfl rfl rfl ?_
  intro X hlX hX hR hT
  refine r_iload_n 1 hX dX7_isPlayer_0 rfl ?_
  refine r_If_lt 4 14 hX dX7_isPlayer_1 (fun c1 => ?_) (fun c1 => ?_)
  · refine r_iconst 15 hX dX7_isPlayer_14 (v := 0) (by decide) ?_
    refine r_zret hX hT dX7_isPlayer_15 (by first | assumption | decide) ?_
    exact ⟨by simp [*, bI], rfl⟩
  · refine r_iload_n 5 hX dX7_isPlayer_4 rfl ?_
    refine r_bipush 7 hX dX7_isPlayer_5 (v := 12) (by decide) ?_
    refine r_icmp_ge 10 14 hX dX7_isPlayer_7 (fun c2 => ?_) (fun c2 => ?_)
    · refine r_iconst 15 hX dX7_isPlayer_14 (v := 0) (by decide) ?_
      refine r_zret hX hT dX7_isPlayer_15 (by first | assumption | decide) ?_
      exact ⟨by simp [*, bI], rfl⟩
    · refine r_iconst 11 hX dX7_isPlayer_10 (v := 1) (by decide) ?_
      refine r_goto 15 hX dX7_isPlayer_11 ?_
      refine r_zret hX hT dX7_isPlayer_15 (by first | assumption | decide) ?_
      exact ⟨by simp [*, bI], rfl⟩
set_option maxRecDepth 100000 in
set_option maxHeartbeats 4000000 in
theorem tX7_bitOf {l : Launch} {G : mx_G} {t : Int32} {M : mx_Mem} : mx_Met l G yX7_bitOf cX7_bitOf 1 ((some FieldType.int)) 1 20 [.int t] M (mx_F (some (.int (if isP t then 1 <<< (t &&& 31) else 0))) M) := by
  refine mx_enter (own := RX7) (L := [.int t]) (by decide) rfl rfl rfl ?_
  intro X hlX hX hR hT
  refine r_iload_n 1 hX dX7_bitOf_0 rfl ?_
  refine r_cS1F 4 hX hR tX7_isPlayer dX7_bitOf_1 kX7_isPlayer lX7_87 rfl rfl rfl ?_
  refine r_Beq 7 13 hX dX7_bitOf_4 (fun c1 => ?_) (fun c1 => ?_)
  · refine r_iconst 14 hX dX7_bitOf_13 (v := 0) (by decide) ?_
    refine r_iret hX hT dX7_bitOf_14 ?_
    first | exact ⟨by rw [if_pos c1], rfl⟩ | exact ⟨by rw [if_neg c1], rfl⟩
  · refine r_iconst 8 hX dX7_bitOf_7 (v := 1) (by decide) ?_
    refine r_iload_n 9 hX dX7_bitOf_8 rfl ?_
    refine r_ishl 10 hX dX7_bitOf_9 ?_
    refine r_goto 14 hX dX7_bitOf_10 ?_
    refine r_iret hX hT dX7_bitOf_14 ?_
    first | exact ⟨by rw [if_pos c1], rfl⟩ | exact ⟨by rw [if_neg c1], rfl⟩
set_option maxRecDepth 100000 in
set_option maxHeartbeats 4000000 in
theorem tX7_squadOf_0 {l : Launch} {G : mx_G} {M : mx_Mem} : mx_Met l G yX7_squadOf cX7_squadOf 2 ((some (FieldType.object "SixWhoTurn$Squad"))) 0 0 [.ref 0, .int 0] M (mx_F (some (.ref 3)) M) := by
  refine mx_enter (own := RX7) (L := [.ref 0, .int 0]) (by decide) rfl rfl rfl ?_
  intro X hlX hX hR hT
  refine r_iload_n 1 hX dX7_squadOf_0 rfl ?_
  refine r_if_ne 4 11 hX dX7_squadOf_1 (fun c => absurd c (by decide)) (fun _ => ?_)
  refine r_aload_n 5 hX dX7_squadOf_4 rfl ?_
  refine r_getR 8 hX dX7_squadOf_5 fX7_19 rfl rfl rfl ?_
  refine r_goto 15 hX dX7_squadOf_8 ?_
  refine r_aret hX hT dX7_squadOf_15 (Or.inl ⟨_, rfl⟩) ?_
  exact ⟨rfl, rfl⟩
set_option maxRecDepth 100000 in
set_option maxHeartbeats 4000000 in
theorem tX7_courtOf_0 {l : Launch} {G : mx_G} {M : mx_Mem} : mx_Met l G yX7_courtOf cX7_courtOf 2 ((some (FieldType.object "SixWhoTurn$Court"))) 0 0 [.ref 0, .int 0] M (mx_F (some (.ref 9)) M) := by
  refine mx_enter (own := RX7) (L := [.ref 0, .int 0]) (by decide) rfl rfl rfl ?_
  intro X hlX hX hR hT
  refine r_iload_n 1 hX dX7_courtOf_0 rfl ?_
  refine r_if_ne 4 11 hX dX7_courtOf_1 (fun c => absurd c (by decide)) (fun _ => ?_)
  refine r_aload_n 5 hX dX7_courtOf_4 rfl ?_
  refine r_getR 8 hX dX7_courtOf_5 fX7_29 rfl rfl rfl ?_
  refine r_goto 15 hX dX7_courtOf_8 ?_
  refine r_aret hX hT dX7_courtOf_15 (Or.inl ⟨_, rfl⟩) ?_
  exact ⟨rfl, rfl⟩
set_option maxRecDepth 100000 in
set_option maxHeartbeats 4000000 in
theorem tX7_stanceOf_0 {l : Launch} {G : mx_G} {M : mx_Mem} : mx_Met l G yX7_stanceOf cX7_stanceOf 2 ((some (FieldType.object "SixWhoTurn$Stance"))) 0 0 [.ref 0, .int 0] M (mx_F (some (.ref 31)) M) := by
  refine mx_enter (own := RX7) (L := [.ref 0, .int 0]) (by decide) rfl rfl rfl ?_
  intro X hlX hX hR hT
  refine r_iload_n 1 hX dX7_stanceOf_0 rfl ?_
  refine r_if_ne 4 11 hX dX7_stanceOf_1 (fun c => absurd c (by decide)) (fun _ => ?_)
  refine r_aload_n 5 hX dX7_stanceOf_4 rfl ?_
  refine r_getR 8 hX dX7_stanceOf_5 fX7_55 rfl rfl rfl ?_
  refine r_goto 15 hX dX7_stanceOf_8 ?_
  refine r_aret hX hT dX7_stanceOf_15 (Or.inl ⟨_, rfl⟩) ?_
  exact ⟨rfl, rfl⟩
set_option maxRecDepth 100000 in
set_option maxHeartbeats 4000000 in
theorem tX7_squadOf_1 {l : Launch} {G : mx_G} {M : mx_Mem} : mx_Met l G yX7_squadOf cX7_squadOf 2 ((some (FieldType.object "SixWhoTurn$Squad"))) 0 0 [.ref 0, .int 1] M (mx_F (some (.ref 6)) M) := by
  refine mx_enter (own := RX7) (L := [.ref 0, .int 1]) (by decide) rfl rfl rfl ?_
  intro X hlX hX hR hT
  refine r_iload_n 1 hX dX7_squadOf_0 rfl ?_
  refine r_if_ne 4 11 hX dX7_squadOf_1 (fun _ => ?_) (fun c => absurd c (by decide))
  refine r_aload_n 12 hX dX7_squadOf_11 rfl ?_
  refine r_getR 15 hX dX7_squadOf_12 fX7_23 rfl rfl rfl ?_
  refine r_aret hX hT dX7_squadOf_15 (Or.inl ⟨_, rfl⟩) ?_
  exact ⟨rfl, rfl⟩
set_option maxRecDepth 100000 in
set_option maxHeartbeats 4000000 in
theorem tX7_courtOf_1 {l : Launch} {G : mx_G} {M : mx_Mem} : mx_Met l G yX7_courtOf cX7_courtOf 2 ((some (FieldType.object "SixWhoTurn$Court"))) 0 0 [.ref 0, .int 1] M (mx_F (some (.ref 14)) M) := by
  refine mx_enter (own := RX7) (L := [.ref 0, .int 1]) (by decide) rfl rfl rfl ?_
  intro X hlX hX hR hT
  refine r_iload_n 1 hX dX7_courtOf_0 rfl ?_
  refine r_if_ne 4 11 hX dX7_courtOf_1 (fun _ => ?_) (fun c => absurd c (by decide))
  refine r_aload_n 12 hX dX7_courtOf_11 rfl ?_
  refine r_getR 15 hX dX7_courtOf_12 fX7_33 rfl rfl rfl ?_
  refine r_aret hX hT dX7_courtOf_15 (Or.inl ⟨_, rfl⟩) ?_
  exact ⟨rfl, rfl⟩
set_option maxRecDepth 100000 in
set_option maxHeartbeats 4000000 in
theorem tX7_stanceOf_1 {l : Launch} {G : mx_G} {M : mx_Mem} : mx_Met l G yX7_stanceOf cX7_stanceOf 2 ((some (FieldType.object "SixWhoTurn$Stance"))) 0 0 [.ref 0, .int 1] M (mx_F (some (.ref 34)) M) := by
  refine mx_enter (own := RX7) (L := [.ref 0, .int 1]) (by decide) rfl rfl rfl ?_
  intro X hlX hX hR hT
  refine r_iload_n 1 hX dX7_stanceOf_0 rfl ?_
  refine r_if_ne 4 11 hX dX7_stanceOf_1 (fun _ => ?_) (fun c => absurd c (by decide))
  refine r_aload_n 12 hX dX7_stanceOf_11 rfl ?_
  refine r_getR 15 hX dX7_stanceOf_12 fX7_59 rfl rfl rfl ?_
  refine r_aret hX hT dX7_stanceOf_15 (Or.inl ⟨_, rfl⟩) ?_
  exact ⟨rfl, rfl⟩
set_option maxRecDepth 100000 in
set_option maxHeartbeats 4000000 in
theorem tX7_isBetter {l : Launch} {G : mx_G} {t a b : Int32} {M : mx_Mem} : mx_Met l G yX7_isBetter cX7_isBetter 3 ((some FieldType.boolean)) 0 0 [.int t, .int a, .int b] M (mx_F (some (.int (bI (if t = 0 then ¬ a ≤ b else ¬ b ≤ a)))) M) := by
  refine mx_enter (own := RX7) (L := [.int t, .int a, .int b]) (by decide) rfl rfl rfl ?_
  intro X hlX hX hR hT
  refine r_iload_n 1 hX dX7_isBetter_0 rfl ?_
  refine r_if_ne 4 17 hX dX7_isBetter_1 (fun c1 => ?_) (fun c1 => ?_)
  · refine r_iload_n 18 hX dX7_isBetter_17 rfl ?_
    refine r_iload_n 19 hX dX7_isBetter_18 rfl ?_
    refine r_icmp_ge 22 26 hX dX7_isBetter_19 (fun c2 => ?_) (fun c2 => ?_)
    · refine r_iconst 27 hX dX7_isBetter_26 (v := 0) (by decide) ?_
      refine r_zret hX hT dX7_isBetter_27 (by first | assumption | decide) ?_
      exact ⟨by simp [*, bI], rfl⟩
    · refine r_iconst 23 hX dX7_isBetter_22 (v := 1) (by decide) ?_
      refine r_goto 27 hX dX7_isBetter_23 ?_
      refine r_zret hX hT dX7_isBetter_27 (by first | assumption | decide) ?_
      exact ⟨by simp [*, bI], rfl⟩
  · refine r_iload_n 5 hX dX7_isBetter_4 rfl ?_
    refine r_iload_n 6 hX dX7_isBetter_5 rfl ?_
    refine r_icmp_le 9 13 hX dX7_isBetter_6 (fun c3 => ?_) (fun c3 => ?_)
    · refine r_iconst 14 hX dX7_isBetter_13 (v := 0) (by decide) ?_
      refine r_goto 27 hX dX7_isBetter_14 ?_
      refine r_zret hX hT dX7_isBetter_27 (by first | assumption | decide) ?_
      exact ⟨by simp [*, bI], rfl⟩
    · refine r_iconst 10 hX dX7_isBetter_9 (v := 1) (by decide) ?_
      refine r_goto 27 hX dX7_isBetter_10 ?_
      refine r_zret hX hT dX7_isBetter_27 (by first | assumption | decide) ?_
      exact ⟨by simp [*, bI], rfl⟩
set_option maxRecDepth 100000 in
set_option maxHeartbeats 4000000 in
theorem tX7_tellRow {l : Launch} {G : mx_G} {n : Int32} {M : mx_Mem} : mx_Met l G yX7_tellRow cX7_tellRow 2 (none) 0 0 [.ref 0, .int n] M (mx_F none (mI (mI M 0 13 1) 0 14 n)) := by
  refine mx_enter (own := RX7) (L := [.ref 0, .int n]) (by decide) rfl rfl rfl ?_
  intro X hlX hX hR hT
  refine r_aload_n 1 hX dX7_tellRow_0 rfl ?_
  refine r_iconst 2 hX dX7_tellRow_1 (v := 1) (by decide) ?_
  refine r_putI 5 hX dX7_tellRow_2 fX7_76 fp7_13 rfl rfl rfl ?_
  refine r_aload_n 6 hX dX7_tellRow_5 rfl ?_
  refine r_iload_n 7 hX dX7_tellRow_6 rfl ?_
  refine r_putI 10 hX dX7_tellRow_7 fX7_80 fp7_14 rfl rfl rfl ?_
  refine r_vret hX hT dX7_tellRow_10 ?_
  exact ⟨rfl, rfl⟩
set_option maxRecDepth 100000 in
set_option maxHeartbeats 4000000 in
theorem tX3_wins {l : Launch} {G : mx_G} {a b t c : Int32} {M : mx_Mem} : mx_Met l G yX3_wins cX3_wins 4 ((some FieldType.boolean)) 0 0 [.int a, .int b, .int t, .int c] M (mx_F (some (.int (bI (c ≤ a ∨ (t ≤ a ∧ 2 ≤ a - b))))) M) := by
  refine mx_enter (own := RX3) (L := [.int a, .int b, .int t, .int c]) (by decide) rfl rfl rfl ?_
  intro X hlX hX hR hT
  refine r_iload_n 1 hX dX3_wins_0 rfl ?_
  refine r_iload_n 2 hX dX3_wins_1 rfl ?_
  refine r_icmp_ge 5 17 hX dX3_wins_2 (fun c1 => ?_) (fun c1 => ?_)
  · refine r_iconst 18 hX dX3_wins_17 (v := 1) (by decide) ?_
    refine r_goto 22 hX dX3_wins_18 ?_
    refine r_zret hX hT dX3_wins_22 (by first | assumption | decide) ?_
    exact ⟨by simp [*, bI], rfl⟩
  · refine r_iload_n 6 hX dX3_wins_5 rfl ?_
    refine r_iload_n 7 hX dX3_wins_6 rfl ?_
    refine r_Icmp_lt 10 21 hX dX3_wins_7 (fun c2 => ?_) (fun c2 => ?_)
    · refine r_iconst 22 hX dX3_wins_21 (v := 0) (by decide) ?_
      refine r_zret hX hT dX3_wins_22 (by first | assumption | decide) ?_
      exact ⟨by simp [*, bI], rfl⟩
    · refine r_iload_n 11 hX dX3_wins_10 rfl ?_
      refine r_iload_n 12 hX dX3_wins_11 rfl ?_
      refine r_isub 13 hX dX3_wins_12 ?_
      refine r_iconst 14 hX dX3_wins_13 (v := 2) (by decide) ?_
      refine r_Icmp_lt 17 21 hX dX3_wins_14 (fun c3 => ?_) (fun c3 => ?_)
      · refine r_iconst 22 hX dX3_wins_21 (v := 0) (by decide) ?_
        refine r_zret hX hT dX3_wins_22 (by first | assumption | decide) ?_
        exact ⟨by simp [*, bI], rfl⟩
      · refine r_iconst 18 hX dX3_wins_17 (v := 1) (by decide) ?_
        refine r_goto 22 hX dX3_wins_18 ?_
        refine r_zret hX hT dX3_wins_22 (by first | assumption | decide) ?_
        exact ⟨by simp [*, bI], rfl⟩
end

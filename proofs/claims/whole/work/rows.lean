section
-- ===== PART A: goes FIRST, ahead of the names: the tables' words, and 'selects' of the private methods out of them =====
/-- a private method of a class that the tables say can be made, by its rows of tables_1 -/
def lw_okq (q : MethodName × Nat) : Prop := (q.1.cls ≠ "java/lang/invoke/MethodHandle" ∧ q.1.cls ≠ "java/lang/invoke/VarHandle") ∧ Cond.instantiable q.1.cls q.2 ∈ tables_1 ∧ Cond.privateMethod q.1 ∈ tables_1 ∧ Cond.instanceMethod q.1 ∈ tables_1
theorem lw_p0 : lw_okq (⟨"SixFigures", "error", "(I)I"⟩, 11) := ⟨⟨by decide +kernel, by decide +kernel⟩, List.mem_of_getElem? (i := 23) (by decide +kernel), List.mem_of_getElem? (i := 262) (by decide +kernel), List.mem_of_getElem? (i := 263) (by decide +kernel)⟩
theorem lw_p1 : lw_okq (⟨"SixFigures", "isWay", "(I)Z"⟩, 11) := ⟨⟨by decide +kernel, by decide +kernel⟩, List.mem_of_getElem? (i := 23) (by decide +kernel), List.mem_of_getElem? (i := 281) (by decide +kernel), List.mem_of_getElem? (i := 282) (by decide +kernel)⟩
theorem lw_p2 : lw_okq (⟨"SixFigures", "lateAt", "(II)I"⟩, 11) := ⟨⟨by decide +kernel, by decide +kernel⟩, List.mem_of_getElem? (i := 23) (by decide +kernel), List.mem_of_getElem? (i := 285) (by decide +kernel), List.mem_of_getElem? (i := 286) (by decide +kernel)⟩
theorem lw_p3 : lw_okq (⟨"SixFigures", "gives", "(IIII)I"⟩, 11) := ⟨⟨by decide +kernel, by decide +kernel⟩, List.mem_of_getElem? (i := 23) (by decide +kernel), List.mem_of_getElem? (i := 289) (by decide +kernel), List.mem_of_getElem? (i := 290) (by decide +kernel)⟩
theorem lw_p4 : lw_okq (⟨"SixFigures", "lastsWith", "(II)I"⟩, 11) := ⟨⟨by decide +kernel, by decide +kernel⟩, List.mem_of_getElem? (i := 23) (by decide +kernel), List.mem_of_getElem? (i := 340) (by decide +kernel), List.mem_of_getElem? (i := 341) (by decide +kernel)⟩
theorem lw_p5 : lw_okq (⟨"SixFigures$Reader", "readLevel", "(II)Z"⟩, 5) := ⟨⟨by decide +kernel, by decide +kernel⟩, List.mem_of_getElem? (i := 167) (by decide +kernel), List.mem_of_getElem? (i := 399) (by decide +kernel), List.mem_of_getElem? (i := 400) (by decide +kernel)⟩
theorem lw_p6 : lw_okq (⟨"SixFigures$Reader", "readOperand", "(I)Z"⟩, 5) := ⟨⟨by decide +kernel, by decide +kernel⟩, List.mem_of_getElem? (i := 167) (by decide +kernel), List.mem_of_getElem? (i := 403) (by decide +kernel), List.mem_of_getElem? (i := 404) (by decide +kernel)⟩
theorem lw_p7 : lw_okq (⟨"SixFigures$Reader", "next", "()I"⟩, 5) := ⟨⟨by decide +kernel, by decide +kernel⟩, List.mem_of_getElem? (i := 167) (by decide +kernel), List.mem_of_getElem? (i := 407) (by decide +kernel), List.mem_of_getElem? (i := 408) (by decide +kernel)⟩
theorem lw_p8 : lw_okq (⟨"SixFigures$Reader", "readNumber", "()V"⟩, 5) := ⟨⟨by decide +kernel, by decide +kernel⟩, List.mem_of_getElem? (i := 167) (by decide +kernel), List.mem_of_getElem? (i := 414) (by decide +kernel), List.mem_of_getElem? (i := 415) (by decide +kernel)⟩
theorem lw_p9 : lw_okq (⟨"SixFigures$Reader", "readNot", "(I)Z"⟩, 5) := ⟨⟨by decide +kernel, by decide +kernel⟩, List.mem_of_getElem? (i := 167) (by decide +kernel), List.mem_of_getElem? (i := 422) (by decide +kernel), List.mem_of_getElem? (i := 423) (by decide +kernel)⟩
theorem lw_p10 : lw_okq (⟨"SixFigures$Reader", "readBracket", "(I)Z"⟩, 5) := ⟨⟨by decide +kernel, by decide +kernel⟩, List.mem_of_getElem? (i := 167) (by decide +kernel), List.mem_of_getElem? (i := 426) (by decide +kernel), List.mem_of_getElem? (i := 427) (by decide +kernel)⟩
theorem lw_p11 : lw_okq (⟨"SixFigures", "refusalOfAsking", "(I)I"⟩, 11) := ⟨⟨by decide +kernel, by decide +kernel⟩, List.mem_of_getElem? (i := 23) (by decide +kernel), List.mem_of_getElem? (i := 530) (by decide +kernel), List.mem_of_getElem? (i := 531) (by decide +kernel)⟩
theorem lw_p12 : lw_okq (⟨"SixFigures", "isLost", "(I)Z"⟩, 11) := ⟨⟨by decide +kernel, by decide +kernel⟩, List.mem_of_getElem? (i := 23) (by decide +kernel), List.mem_of_getElem? (i := 534) (by decide +kernel), List.mem_of_getElem? (i := 535) (by decide +kernel)⟩
theorem lw_p13 : lw_okq (⟨"SixFigures", "send", "(I)I"⟩, 11) := ⟨⟨by decide +kernel, by decide +kernel⟩, List.mem_of_getElem? (i := 23) (by decide +kernel), List.mem_of_getElem? (i := 538) (by decide +kernel), List.mem_of_getElem? (i := 539) (by decide +kernel)⟩
theorem lw_p14 : lw_okq (⟨"SixFigures", "draw", "()I"⟩, 11) := ⟨⟨by decide +kernel, by decide +kernel⟩, List.mem_of_getElem? (i := 23) (by decide +kernel), List.mem_of_getElem? (i := 546) (by decide +kernel), List.mem_of_getElem? (i := 547) (by decide +kernel)⟩
theorem lw_p15 : lw_okq (⟨"SixFigures", "isCounting", "(I)Z"⟩, 11) := ⟨⟨by decide +kernel, by decide +kernel⟩, List.mem_of_getElem? (i := 23) (by decide +kernel), List.mem_of_getElem? (i := 558) (by decide +kernel), List.mem_of_getElem? (i := 559) (by decide +kernel)⟩
def lw_privs_1 : List (MethodName × Nat) := [(⟨"SixFigures", "error", "(I)I"⟩, 11), (⟨"SixFigures", "isWay", "(I)Z"⟩, 11), (⟨"SixFigures", "lateAt", "(II)I"⟩, 11), (⟨"SixFigures", "gives", "(IIII)I"⟩, 11), (⟨"SixFigures", "lastsWith", "(II)I"⟩, 11), (⟨"SixFigures$Reader", "readLevel", "(II)Z"⟩, 5), (⟨"SixFigures$Reader", "readOperand", "(I)Z"⟩, 5), (⟨"SixFigures$Reader", "next", "()I"⟩, 5), (⟨"SixFigures$Reader", "readNumber", "()V"⟩, 5), (⟨"SixFigures$Reader", "readNot", "(I)Z"⟩, 5), (⟨"SixFigures$Reader", "readBracket", "(I)Z"⟩, 5), (⟨"SixFigures", "refusalOfAsking", "(I)I"⟩, 11), (⟨"SixFigures", "isLost", "(I)Z"⟩, 11), (⟨"SixFigures", "send", "(I)I"⟩, 11), (⟨"SixFigures", "draw", "()I"⟩, 11), (⟨"SixFigures", "isCounting", "(I)Z"⟩, 11)]
theorem lw_r1 : ∀ q ∈ lw_privs_1, lw_okq q := List.forall_mem_cons.mpr ⟨lw_p0, List.forall_mem_cons.mpr ⟨lw_p1, List.forall_mem_cons.mpr ⟨lw_p2, List.forall_mem_cons.mpr ⟨lw_p3, List.forall_mem_cons.mpr ⟨lw_p4, List.forall_mem_cons.mpr ⟨lw_p5, List.forall_mem_cons.mpr ⟨lw_p6, List.forall_mem_cons.mpr ⟨lw_p7, List.forall_mem_cons.mpr ⟨lw_p8, List.forall_mem_cons.mpr ⟨lw_p9, List.forall_mem_cons.mpr ⟨lw_p10, List.forall_mem_cons.mpr ⟨lw_p11, List.forall_mem_cons.mpr ⟨lw_p12, List.forall_mem_cons.mpr ⟨lw_p13, List.forall_mem_cons.mpr ⟨lw_p14, List.forall_mem_cons.mpr ⟨lw_p15, fun _ h => absurd h List.not_mem_nil⟩⟩⟩⟩⟩⟩⟩⟩⟩⟩⟩⟩⟩⟩⟩⟩
theorem lw_p16 : lw_okq (⟨"SixFigures", "codeThatOpens", "(I)I"⟩, 11) := ⟨⟨by decide +kernel, by decide +kernel⟩, List.mem_of_getElem? (i := 23) (by decide +kernel), List.mem_of_getElem? (i := 567) (by decide +kernel), List.mem_of_getElem? (i := 568) (by decide +kernel)⟩
theorem lw_p17 : lw_okq (⟨"SixFigures", "asksByDraws", "()Z"⟩, 11) := ⟨⟨by decide +kernel, by decide +kernel⟩, List.mem_of_getElem? (i := 23) (by decide +kernel), List.mem_of_getElem? (i := 579) (by decide +kernel), List.mem_of_getElem? (i := 580) (by decide +kernel)⟩
theorem lw_p18 : lw_okq (⟨"SixFigures", "secondsToEnter", "(II)I"⟩, 11) := ⟨⟨by decide +kernel, by decide +kernel⟩, List.mem_of_getElem? (i := 23) (by decide +kernel), List.mem_of_getElem? (i := 587) (by decide +kernel), List.mem_of_getElem? (i := 588) (by decide +kernel)⟩
theorem lw_p19 : lw_okq (⟨"SixFigures", "getsIn", "(II)Z"⟩, 11) := ⟨⟨by decide +kernel, by decide +kernel⟩, List.mem_of_getElem? (i := 23) (by decide +kernel), List.mem_of_getElem? (i := 591) (by decide +kernel), List.mem_of_getElem? (i := 592) (by decide +kernel)⟩
theorem lw_p20 : lw_okq (⟨"SixFigures", "isEntered", "(II)Z"⟩, 11) := ⟨⟨by decide +kernel, by decide +kernel⟩, List.mem_of_getElem? (i := 23) (by decide +kernel), List.mem_of_getElem? (i := 595) (by decide +kernel), List.mem_of_getElem? (i := 596) (by decide +kernel)⟩
theorem lw_p21 : lw_okq (⟨"SixFigures", "leftWithout", "(I)I"⟩, 11) := ⟨⟨by decide +kernel, by decide +kernel⟩, List.mem_of_getElem? (i := 23) (by decide +kernel), List.mem_of_getElem? (i := 629) (by decide +kernel), List.mem_of_getElem? (i := 630) (by decide +kernel)⟩
theorem lw_p22 : lw_okq (⟨"SixFigures", "waysAt", "(I)I"⟩, 11) := ⟨⟨by decide +kernel, by decide +kernel⟩, List.mem_of_getElem? (i := 23) (by decide +kernel), List.mem_of_getElem? (i := 633) (by decide +kernel), List.mem_of_getElem? (i := 634) (by decide +kernel)⟩
theorem lw_p23 : lw_okq (⟨"SixFigures", "refusalOfSheet", "(I)I"⟩, 11) := ⟨⟨by decide +kernel, by decide +kernel⟩, List.mem_of_getElem? (i := 23) (by decide +kernel), List.mem_of_getElem? (i := 649) (by decide +kernel), List.mem_of_getElem? (i := 650) (by decide +kernel)⟩
theorem lw_p24 : lw_okq (⟨"SixFigures", "isMissing", "(I)Z"⟩, 11) := ⟨⟨by decide +kernel, by decide +kernel⟩, List.mem_of_getElem? (i := 23) (by decide +kernel), List.mem_of_getElem? (i := 656) (by decide +kernel), List.mem_of_getElem? (i := 657) (by decide +kernel)⟩
theorem lw_p25 : lw_okq (⟨"SixFigures", "tellsLateOf", "(II)Z"⟩, 11) := ⟨⟨by decide +kernel, by decide +kernel⟩, List.mem_of_getElem? (i := 23) (by decide +kernel), List.mem_of_getElem? (i := 660) (by decide +kernel), List.mem_of_getElem? (i := 661) (by decide +kernel)⟩
theorem lw_p26 : lw_okq (⟨"SixFigures", "standThere", "(III)Z"⟩, 11) := ⟨⟨by decide +kernel, by decide +kernel⟩, List.mem_of_getElem? (i := 23) (by decide +kernel), List.mem_of_getElem? (i := 792) (by decide +kernel), List.mem_of_getElem? (i := 793) (by decide +kernel)⟩
theorem lw_p27 : lw_okq (⟨"SixFiguresModel", "becomes", "(II)I"⟩, 23) := ⟨⟨by decide +kernel, by decide +kernel⟩, List.mem_of_getElem? (i := 839) (by decide +kernel), List.mem_of_getElem? (i := 925) (by decide +kernel), List.mem_of_getElem? (i := 926) (by decide +kernel)⟩
theorem lw_p28 : lw_okq (⟨"SixFiguresModel", "errs", "(I)I"⟩, 23) := ⟨⟨by decide +kernel, by decide +kernel⟩, List.mem_of_getElem? (i := 839) (by decide +kernel), List.mem_of_getElem? (i := 930) (by decide +kernel), List.mem_of_getElem? (i := 931) (by decide +kernel)⟩
theorem lw_p29 : lw_okq (⟨"SixFiguresModel", "gets", "(III)V"⟩, 23) := ⟨⟨by decide +kernel, by decide +kernel⟩, List.mem_of_getElem? (i := 839) (by decide +kernel), List.mem_of_getElem? (i := 940) (by decide +kernel), List.mem_of_getElem? (i := 941) (by decide +kernel)⟩
theorem lw_p30 : lw_okq (⟨"SixFiguresModel", "isWay", "(I)Z"⟩, 23) := ⟨⟨by decide +kernel, by decide +kernel⟩, List.mem_of_getElem? (i := 839) (by decide +kernel), List.mem_of_getElem? (i := 948) (by decide +kernel), List.mem_of_getElem? (i := 949) (by decide +kernel)⟩
theorem lw_p31 : lw_okq (⟨"SixFiguresModel", "its", "(II)I"⟩, 23) := ⟨⟨by decide +kernel, by decide +kernel⟩, List.mem_of_getElem? (i := 839) (by decide +kernel), List.mem_of_getElem? (i := 952) (by decide +kernel), List.mem_of_getElem? (i := 953) (by decide +kernel)⟩
def lw_privs_2 : List (MethodName × Nat) := [(⟨"SixFigures", "codeThatOpens", "(I)I"⟩, 11), (⟨"SixFigures", "asksByDraws", "()Z"⟩, 11), (⟨"SixFigures", "secondsToEnter", "(II)I"⟩, 11), (⟨"SixFigures", "getsIn", "(II)Z"⟩, 11), (⟨"SixFigures", "isEntered", "(II)Z"⟩, 11), (⟨"SixFigures", "leftWithout", "(I)I"⟩, 11), (⟨"SixFigures", "waysAt", "(I)I"⟩, 11), (⟨"SixFigures", "refusalOfSheet", "(I)I"⟩, 11), (⟨"SixFigures", "isMissing", "(I)Z"⟩, 11), (⟨"SixFigures", "tellsLateOf", "(II)Z"⟩, 11), (⟨"SixFigures", "standThere", "(III)Z"⟩, 11), (⟨"SixFiguresModel", "becomes", "(II)I"⟩, 23), (⟨"SixFiguresModel", "errs", "(I)I"⟩, 23), (⟨"SixFiguresModel", "gets", "(III)V"⟩, 23), (⟨"SixFiguresModel", "isWay", "(I)Z"⟩, 23), (⟨"SixFiguresModel", "its", "(II)I"⟩, 23)]
theorem lw_r2 : ∀ q ∈ lw_privs_2, lw_okq q := List.forall_mem_cons.mpr ⟨lw_p16, List.forall_mem_cons.mpr ⟨lw_p17, List.forall_mem_cons.mpr ⟨lw_p18, List.forall_mem_cons.mpr ⟨lw_p19, List.forall_mem_cons.mpr ⟨lw_p20, List.forall_mem_cons.mpr ⟨lw_p21, List.forall_mem_cons.mpr ⟨lw_p22, List.forall_mem_cons.mpr ⟨lw_p23, List.forall_mem_cons.mpr ⟨lw_p24, List.forall_mem_cons.mpr ⟨lw_p25, List.forall_mem_cons.mpr ⟨lw_p26, List.forall_mem_cons.mpr ⟨lw_p27, List.forall_mem_cons.mpr ⟨lw_p28, List.forall_mem_cons.mpr ⟨lw_p29, List.forall_mem_cons.mpr ⟨lw_p30, List.forall_mem_cons.mpr ⟨lw_p31, fun _ h => absurd h List.not_mem_nil⟩⟩⟩⟩⟩⟩⟩⟩⟩⟩⟩⟩⟩⟩⟩⟩
theorem lw_p32 : lw_okq (⟨"SixFiguresModel", "lateAt", "(II)I"⟩, 23) := ⟨⟨by decide +kernel, by decide +kernel⟩, List.mem_of_getElem? (i := 839) (by decide +kernel), List.mem_of_getElem? (i := 956) (by decide +kernel), List.mem_of_getElem? (i := 957) (by decide +kernel)⟩
theorem lw_p33 : lw_okq (⟨"SixFiguresModel", "lawOf", "(IIII)I"⟩, 23) := ⟨⟨by decide +kernel, by decide +kernel⟩, List.mem_of_getElem? (i := 839) (by decide +kernel), List.mem_of_getElem? (i := 960) (by decide +kernel), List.mem_of_getElem? (i := 961) (by decide +kernel)⟩
theorem lw_p34 : lw_okq (⟨"SixFiguresModel", "walks", "(IIII)I"⟩, 23) := ⟨⟨by decide +kernel, by decide +kernel⟩, List.mem_of_getElem? (i := 839) (by decide +kernel), List.mem_of_getElem? (i := 964) (by decide +kernel), List.mem_of_getElem? (i := 965) (by decide +kernel)⟩
theorem lw_p35 : lw_okq (⟨"SixFiguresModel", "whole", "()I"⟩, 23) := ⟨⟨by decide +kernel, by decide +kernel⟩, List.mem_of_getElem? (i := 839) (by decide +kernel), List.mem_of_getElem? (i := 968) (by decide +kernel), List.mem_of_getElem? (i := 969) (by decide +kernel)⟩
theorem lw_p36 : lw_okq (⟨"SixFiguresModel", "both", "()I"⟩, 23) := ⟨⟨by decide +kernel, by decide +kernel⟩, List.mem_of_getElem? (i := 839) (by decide +kernel), List.mem_of_getElem? (i := 972) (by decide +kernel), List.mem_of_getElem? (i := 973) (by decide +kernel)⟩
theorem lw_p37 : lw_okq (⟨"SixFiguresModel", "compared", "()I"⟩, 23) := ⟨⟨by decide +kernel, by decide +kernel⟩, List.mem_of_getElem? (i := 839) (by decide +kernel), List.mem_of_getElem? (i := 976) (by decide +kernel), List.mem_of_getElem? (i := 977) (by decide +kernel)⟩
theorem lw_p38 : lw_okq (⟨"SixFiguresModel", "sum", "()I"⟩, 23) := ⟨⟨by decide +kernel, by decide +kernel⟩, List.mem_of_getElem? (i := 839) (by decide +kernel), List.mem_of_getElem? (i := 980) (by decide +kernel), List.mem_of_getElem? (i := 981) (by decide +kernel)⟩
theorem lw_p39 : lw_okq (⟨"SixFiguresModel", "product", "()I"⟩, 23) := ⟨⟨by decide +kernel, by decide +kernel⟩, List.mem_of_getElem? (i := 839) (by decide +kernel), List.mem_of_getElem? (i := 984) (by decide +kernel), List.mem_of_getElem? (i := 985) (by decide +kernel)⟩
theorem lw_p40 : lw_okq (⟨"SixFiguresModel", "factor", "()I"⟩, 23) := ⟨⟨by decide +kernel, by decide +kernel⟩, List.mem_of_getElem? (i := 839) (by decide +kernel), List.mem_of_getElem? (i := 988) (by decide +kernel), List.mem_of_getElem? (i := 989) (by decide +kernel)⟩
theorem lw_p41 : lw_okq (⟨"SixFiguresModel", "byteAt", "(I)I"⟩, 23) := ⟨⟨by decide +kernel, by decide +kernel⟩, List.mem_of_getElem? (i := 839) (by decide +kernel), List.mem_of_getElem? (i := 992) (by decide +kernel), List.mem_of_getElem? (i := 993) (by decide +kernel)⟩
theorem lw_p42 : lw_okq (⟨"SixFiguresModel", "number", "()I"⟩, 23) := ⟨⟨by decide +kernel, by decide +kernel⟩, List.mem_of_getElem? (i := 839) (by decide +kernel), List.mem_of_getElem? (i := 999) (by decide +kernel), List.mem_of_getElem? (i := 1000) (by decide +kernel)⟩
theorem lw_p43 : lw_okq (⟨"SixFiguresModel", "named", "(I)I"⟩, 23) := ⟨⟨by decide +kernel, by decide +kernel⟩, List.mem_of_getElem? (i := 839) (by decide +kernel), List.mem_of_getElem? (i := 1003) (by decide +kernel), List.mem_of_getElem? (i := 1004) (by decide +kernel)⟩
theorem lw_p44 : lw_okq (⟨"SixFiguresModel", "fails", "()I"⟩, 23) := ⟨⟨by decide +kernel, by decide +kernel⟩, List.mem_of_getElem? (i := 839) (by decide +kernel), List.mem_of_getElem? (i := 1007) (by decide +kernel), List.mem_of_getElem? (i := 1008) (by decide +kernel)⟩
theorem lw_p45 : lw_okq (⟨"SixFiguresModel", "lasts", "(I)I"⟩, 23) := ⟨⟨by decide +kernel, by decide +kernel⟩, List.mem_of_getElem? (i := 839) (by decide +kernel), List.mem_of_getElem? (i := 1014) (by decide +kernel), List.mem_of_getElem? (i := 1015) (by decide +kernel)⟩
theorem lw_p46 : lw_okq (⟨"SixFiguresModel", "moveAll", "([I[I)V"⟩, 23) := ⟨⟨by decide +kernel, by decide +kernel⟩, List.mem_of_getElem? (i := 839) (by decide +kernel), List.mem_of_getElem? (i := 1047) (by decide +kernel), List.mem_of_getElem? (i := 1048) (by decide +kernel)⟩
theorem lw_p47 : lw_okq (⟨"SixFiguresModel", "asks", "(I)I"⟩, 23) := ⟨⟨by decide +kernel, by decide +kernel⟩, List.mem_of_getElem? (i := 839) (by decide +kernel), List.mem_of_getElem? (i := 1056) (by decide +kernel), List.mem_of_getElem? (i := 1057) (by decide +kernel)⟩
def lw_privs_3 : List (MethodName × Nat) := [(⟨"SixFiguresModel", "lateAt", "(II)I"⟩, 23), (⟨"SixFiguresModel", "lawOf", "(IIII)I"⟩, 23), (⟨"SixFiguresModel", "walks", "(IIII)I"⟩, 23), (⟨"SixFiguresModel", "whole", "()I"⟩, 23), (⟨"SixFiguresModel", "both", "()I"⟩, 23), (⟨"SixFiguresModel", "compared", "()I"⟩, 23), (⟨"SixFiguresModel", "sum", "()I"⟩, 23), (⟨"SixFiguresModel", "product", "()I"⟩, 23), (⟨"SixFiguresModel", "factor", "()I"⟩, 23), (⟨"SixFiguresModel", "byteAt", "(I)I"⟩, 23), (⟨"SixFiguresModel", "number", "()I"⟩, 23), (⟨"SixFiguresModel", "named", "(I)I"⟩, 23), (⟨"SixFiguresModel", "fails", "()I"⟩, 23), (⟨"SixFiguresModel", "lasts", "(I)I"⟩, 23), (⟨"SixFiguresModel", "moveAll", "([I[I)V"⟩, 23), (⟨"SixFiguresModel", "asks", "(I)I"⟩, 23)]
theorem lw_r3 : ∀ q ∈ lw_privs_3, lw_okq q := List.forall_mem_cons.mpr ⟨lw_p32, List.forall_mem_cons.mpr ⟨lw_p33, List.forall_mem_cons.mpr ⟨lw_p34, List.forall_mem_cons.mpr ⟨lw_p35, List.forall_mem_cons.mpr ⟨lw_p36, List.forall_mem_cons.mpr ⟨lw_p37, List.forall_mem_cons.mpr ⟨lw_p38, List.forall_mem_cons.mpr ⟨lw_p39, List.forall_mem_cons.mpr ⟨lw_p40, List.forall_mem_cons.mpr ⟨lw_p41, List.forall_mem_cons.mpr ⟨lw_p42, List.forall_mem_cons.mpr ⟨lw_p43, List.forall_mem_cons.mpr ⟨lw_p44, List.forall_mem_cons.mpr ⟨lw_p45, List.forall_mem_cons.mpr ⟨lw_p46, List.forall_mem_cons.mpr ⟨lw_p47, fun _ h => absurd h List.not_mem_nil⟩⟩⟩⟩⟩⟩⟩⟩⟩⟩⟩⟩⟩⟩⟩⟩
theorem lw_p48 : lw_okq (⟨"SixFiguresModel", "numbers", "()I"⟩, 23) := ⟨⟨by decide +kernel, by decide +kernel⟩, List.mem_of_getElem? (i := 839) (by decide +kernel), List.mem_of_getElem? (i := 1060) (by decide +kernel), List.mem_of_getElem? (i := 1061) (by decide +kernel)⟩
theorem lw_p49 : lw_okq (⟨"SixFiguresModel", "drawn", "(I)I"⟩, 23) := ⟨⟨by decide +kernel, by decide +kernel⟩, List.mem_of_getElem? (i := 839) (by decide +kernel), List.mem_of_getElem? (i := 1064) (by decide +kernel), List.mem_of_getElem? (i := 1065) (by decide +kernel)⟩
theorem lw_p50 : lw_okq (⟨"SixFiguresModel", "isCode", "(I)Z"⟩, 23) := ⟨⟨by decide +kernel, by decide +kernel⟩, List.mem_of_getElem? (i := 839) (by decide +kernel), List.mem_of_getElem? (i := 1073) (by decide +kernel), List.mem_of_getElem? (i := 1074) (by decide +kernel)⟩
theorem lw_p51 : lw_okq (⟨"SixFiguresModel", "of", "(II)I"⟩, 23) := ⟨⟨by decide +kernel, by decide +kernel⟩, List.mem_of_getElem? (i := 839) (by decide +kernel), List.mem_of_getElem? (i := 1077) (by decide +kernel), List.mem_of_getElem? (i := 1078) (by decide +kernel)⟩
theorem lw_p52 : lw_okq (⟨"SixFiguresModel", "counts", "(I)Z"⟩, 23) := ⟨⟨by decide +kernel, by decide +kernel⟩, List.mem_of_getElem? (i := 839) (by decide +kernel), List.mem_of_getElem? (i := 1081) (by decide +kernel), List.mem_of_getElem? (i := 1082) (by decide +kernel)⟩
theorem lw_p53 : lw_okq (⟨"SixFiguresModel", "takes", "(I)I"⟩, 23) := ⟨⟨by decide +kernel, by decide +kernel⟩, List.mem_of_getElem? (i := 839) (by decide +kernel), List.mem_of_getElem? (i := 1102) (by decide +kernel), List.mem_of_getElem? (i := 1103) (by decide +kernel)⟩
theorem lw_p54 : lw_okq (⟨"SixFiguresModel", "backAt", "(II)I"⟩, 23) := ⟨⟨by decide +kernel, by decide +kernel⟩, List.mem_of_getElem? (i := 839) (by decide +kernel), List.mem_of_getElem? (i := 1106) (by decide +kernel), List.mem_of_getElem? (i := 1107) (by decide +kernel)⟩
theorem lw_p55 : lw_okq (⟨"SixFiguresModel", "getsInAt", "(II)Z"⟩, 23) := ⟨⟨by decide +kernel, by decide +kernel⟩, List.mem_of_getElem? (i := 839) (by decide +kernel), List.mem_of_getElem? (i := 1110) (by decide +kernel), List.mem_of_getElem? (i := 1111) (by decide +kernel)⟩
theorem lw_p56 : lw_okq (⟨"SixFiguresModel", "leftBut", "(I)I"⟩, 23) := ⟨⟨by decide +kernel, by decide +kernel⟩, List.mem_of_getElem? (i := 839) (by decide +kernel), List.mem_of_getElem? (i := 1139) (by decide +kernel), List.mem_of_getElem? (i := 1140) (by decide +kernel)⟩
theorem lw_p57 : lw_okq (⟨"SixFiguresModel", "sendsIn", "(II)I"⟩, 23) := ⟨⟨by decide +kernel, by decide +kernel⟩, List.mem_of_getElem? (i := 839) (by decide +kernel), List.mem_of_getElem? (i := 1180) (by decide +kernel), List.mem_of_getElem? (i := 1181) (by decide +kernel)⟩
theorem lw_p58 : lw_okq (⟨"SixFiguresModel", "ran", "(I)V"⟩, 23) := ⟨⟨by decide +kernel, by decide +kernel⟩, List.mem_of_getElem? (i := 839) (by decide +kernel), List.mem_of_getElem? (i := 1184) (by decide +kernel), List.mem_of_getElem? (i := 1185) (by decide +kernel)⟩
theorem lw_p59 : lw_okq (⟨"SixFiguresModel", "holdsIn", "(II)I"⟩, 23) := ⟨⟨by decide +kernel, by decide +kernel⟩, List.mem_of_getElem? (i := 839) (by decide +kernel), List.mem_of_getElem? (i := 1188) (by decide +kernel), List.mem_of_getElem? (i := 1189) (by decide +kernel)⟩
theorem lw_p60 : lw_okq (⟨"SixFiguresModel", "shutsIn", "(II)I"⟩, 23) := ⟨⟨by decide +kernel, by decide +kernel⟩, List.mem_of_getElem? (i := 839) (by decide +kernel), List.mem_of_getElem? (i := 1192) (by decide +kernel), List.mem_of_getElem? (i := 1193) (by decide +kernel)⟩
theorem lw_p61 : lw_okq (⟨"SixFiguresModel", "tellsIn", "(II)I"⟩, 23) := ⟨⟨by decide +kernel, by decide +kernel⟩, List.mem_of_getElem? (i := 839) (by decide +kernel), List.mem_of_getElem? (i := 1196) (by decide +kernel), List.mem_of_getElem? (i := 1197) (by decide +kernel)⟩
def lw_privs_4 : List (MethodName × Nat) := [(⟨"SixFiguresModel", "numbers", "()I"⟩, 23), (⟨"SixFiguresModel", "drawn", "(I)I"⟩, 23), (⟨"SixFiguresModel", "isCode", "(I)Z"⟩, 23), (⟨"SixFiguresModel", "of", "(II)I"⟩, 23), (⟨"SixFiguresModel", "counts", "(I)Z"⟩, 23), (⟨"SixFiguresModel", "takes", "(I)I"⟩, 23), (⟨"SixFiguresModel", "backAt", "(II)I"⟩, 23), (⟨"SixFiguresModel", "getsInAt", "(II)Z"⟩, 23), (⟨"SixFiguresModel", "leftBut", "(I)I"⟩, 23), (⟨"SixFiguresModel", "sendsIn", "(II)I"⟩, 23), (⟨"SixFiguresModel", "ran", "(I)V"⟩, 23), (⟨"SixFiguresModel", "holdsIn", "(II)I"⟩, 23), (⟨"SixFiguresModel", "shutsIn", "(II)I"⟩, 23), (⟨"SixFiguresModel", "tellsIn", "(II)I"⟩, 23)]
theorem lw_r4 : ∀ q ∈ lw_privs_4, lw_okq q := List.forall_mem_cons.mpr ⟨lw_p48, List.forall_mem_cons.mpr ⟨lw_p49, List.forall_mem_cons.mpr ⟨lw_p50, List.forall_mem_cons.mpr ⟨lw_p51, List.forall_mem_cons.mpr ⟨lw_p52, List.forall_mem_cons.mpr ⟨lw_p53, List.forall_mem_cons.mpr ⟨lw_p54, List.forall_mem_cons.mpr ⟨lw_p55, List.forall_mem_cons.mpr ⟨lw_p56, List.forall_mem_cons.mpr ⟨lw_p57, List.forall_mem_cons.mpr ⟨lw_p58, List.forall_mem_cons.mpr ⟨lw_p59, List.forall_mem_cons.mpr ⟨lw_p60, List.forall_mem_cons.mpr ⟨lw_p61, fun _ h => absurd h List.not_mem_nil⟩⟩⟩⟩⟩⟩⟩⟩⟩⟩⟩⟩⟩⟩
def lw_privs : List (MethodName × Nat) := lw_privs_1 ++ (lw_privs_2 ++ (lw_privs_3 ++ (lw_privs_4)))
def lw_tbl : List Cond := k2_sels lw_privs ++ tables_1
theorem lw_privs_ok : ∀ q ∈ lw_privs, lw_okq q := by
  show ∀ q ∈ lw_privs_1 ++ (lw_privs_2 ++ (lw_privs_3 ++ (lw_privs_4))), lw_okq q
  exact List.forall_mem_append.mpr ⟨lw_r1, List.forall_mem_append.mpr ⟨lw_r2, List.forall_mem_append.mpr ⟨lw_r3, lw_r4⟩⟩⟩
end
section
def RX0 : String := "SixFigures$Book"
def TX0 : u_T := fun k => match k with
  | 0 => ("SixFigures$Book", "door", "[I", true)
  | 1 => ("SixFigures$Book", "second", "I", false)
  | 2 => ("SixFigures$Book", "wrong", "I", false)
  | 3 => ("SixFigures$Book", "shutTill", "I", false)
  | 4 => ("SixFigures$Book", "in", "I", false)
  | 5 => ("SixFigures$Book", "z", "I", false)
  | 6 => ("SixFigures$Book", "ways", "[[I", true)
  | 7 => ("SixFigures$Book", "wayCount", "I", false)
  | 8 => ("SixFigures$Book", "codes", "[[I", true)
  | 9 => ("SixFigures$Book", "codeCount", "I", false)
  | 10 => ("SixFigures$Book", "tape", "[I", true)
  | 11 => ("SixFigures$Book", "tapeSize", "I", false)
  | 12 => ("SixFigures$Book", "texts", "[LSixFigures$Text;", true)
  | 13 => ("SixFigures$Book", "waiting", "[I", true)
  | _ => ("SixFigures$Book", "waitingCount", "I", false)
def tyX0 : Nat → FieldType := fun k => match k with
  | 0 => .array .int
  | 1 => .int
  | 2 => .int
  | 3 => .int
  | 4 => .int
  | 5 => .int
  | 6 => .array (.array .int)
  | 7 => .int
  | 8 => .array (.array .int)
  | 9 => .int
  | 10 => .array .int
  | 11 => .int
  | 12 => .array (.object "SixFigures$Text")
  | 13 => .array .int
  | _ => .int
abbrev wsX00 : List Cond := u_ws RX0 TX0 15
theorem nmX0 : ∀ a, a < 15 → ∀ b, b < 15 → a ≠ b → (TX0 a).2.1 ≠ (TX0 b).2.1 := by decide +kernel
theorem tyX0_ok : ∀ k, k < 15 → parseFieldDescriptor (TX0 k).2.2.1 = some (tyX0 k) := by decide +kernel
abbrev cX0_init : ByteArray := prog_2_method_1_code
def yX0_init : MethodName := ⟨RX0, "<init>", "()V"⟩
abbrev cX0_roomForCode : ByteArray := prog_2_method_2_code
def yX0_roomForCode : MethodName := ⟨RX0, "roomForCode", "()[I"⟩
abbrev cX0_copyFrom : ByteArray := prog_2_method_3_code
def yX0_copyFrom : MethodName := ⟨RX0, "copyFrom", "(LSixFigures$Book;)V"⟩
abbrev cX0_copyRow : ByteArray := prog_2_method_4_code
def yX0_copyRow : MethodName := ⟨RX0, "copyRow", "([I[I)V"⟩
def RX1 : String := "SixFigures$Card"
def TX1 : u_T := fun k => match k with
  | _ => ("", "", "", false)
def tyX1 : Nat → FieldType := fun k => match k with
  | _ => .int
abbrev wsX10 : List Cond := u_ws RX1 TX1 0
theorem nmX1 : ∀ a, a < 0 → ∀ b, b < 0 → a ≠ b → (TX1 a).2.1 ≠ (TX1 b).2.1 := by decide +kernel
theorem tyX1_ok : ∀ k, k < 0 → parseFieldDescriptor (TX1 k).2.2.1 = some (tyX1 k) := by decide +kernel
abbrev cX1_init : ByteArray := prog_3_method_1_code
def yX1_init : MethodName := ⟨RX1, "<init>", "()V"⟩
abbrev cX1_late : ByteArray := prog_3_method_2_code
def yX1_late : MethodName := ⟨RX1, "late", "(II)I"⟩
abbrev cX1_holds : ByteArray := prog_3_method_3_code
def yX1_holds : MethodName := ⟨RX1, "holds", "(LSixFigures$Trace;I)I"⟩
def RX2 : String := "SixFigures$CodeList"
def TX2 : u_T := fun k => match k with
  | _ => ("", "", "", false)
def tyX2 : Nat → FieldType := fun k => match k with
  | _ => .int
abbrev wsX20 : List Cond := u_ws RX2 TX2 0
theorem nmX2 : ∀ a, a < 0 → ∀ b, b < 0 → a ≠ b → (TX2 a).2.1 ≠ (TX2 b).2.1 := by decide +kernel
theorem tyX2_ok : ∀ k, k < 0 → parseFieldDescriptor (TX2 k).2.2.1 = some (tyX2 k) := by decide +kernel
abbrev cX2_init : ByteArray := prog_4_method_1_code
def yX2_init : MethodName := ⟨RX2, "<init>", "()V"⟩
abbrev cX2_late : ByteArray := prog_4_method_2_code
def yX2_late : MethodName := ⟨RX2, "late", "(II)I"⟩
abbrev cX2_lasts : ByteArray := prog_4_method_3_code
def yX2_lasts : MethodName := ⟨RX2, "lasts", "(I)I"⟩
abbrev cX2_shuts : ByteArray := prog_4_method_4_code
def yX2_shuts : MethodName := ⟨RX2, "shuts", "(LSixFigures$Trace;I)I"⟩
def RX3 : String := "SixFigures$Grid"
def TX3 : u_T := fun k => match k with
  | _ => ("", "", "", false)
def tyX3 : Nat → FieldType := fun k => match k with
  | _ => .int
abbrev wsX30 : List Cond := u_ws RX3 TX3 0
theorem nmX3 : ∀ a, a < 0 → ∀ b, b < 0 → a ≠ b → (TX3 a).2.1 ≠ (TX3 b).2.1 := by decide +kernel
theorem tyX3_ok : ∀ k, k < 0 → parseFieldDescriptor (TX3 k).2.2.1 = some (tyX3 k) := by decide +kernel
abbrev cX3_init : ByteArray := prog_5_method_1_code
def yX3_init : MethodName := ⟨RX3, "<init>", "()V"⟩
abbrev cX3_late : ByteArray := prog_5_method_2_code
def yX3_late : MethodName := ⟨RX3, "late", "(II)I"⟩
abbrev cX3_holds : ByteArray := prog_5_method_3_code
def yX3_holds : MethodName := ⟨RX3, "holds", "(LSixFigures$Trace;I)I"⟩
def RX4 : String := "SixFigures$Phone"
def TX4 : u_T := fun k => match k with
  | _ => ("", "", "", false)
def tyX4 : Nat → FieldType := fun k => match k with
  | _ => .int
abbrev wsX40 : List Cond := u_ws RX4 TX4 0
theorem nmX4 : ∀ a, a < 0 → ∀ b, b < 0 → a ≠ b → (TX4 a).2.1 ≠ (TX4 b).2.1 := by decide +kernel
theorem tyX4_ok : ∀ k, k < 0 → parseFieldDescriptor (TX4 k).2.2.1 = some (tyX4 k) := by decide +kernel
abbrev cX4_init : ByteArray := prog_6_method_1_code
def yX4_init : MethodName := ⟨RX4, "<init>", "()V"⟩
abbrev cX4_sends : ByteArray := prog_6_method_2_code
def yX4_sends : MethodName := ⟨RX4, "sends", "(LSixFigures$Trace;I)I"⟩
def RX5 : String := "SixFigures$Reader"
def TX5 : u_T := fun k => match k with
  | 0 => ("SixFigures$Reader", "tape", "[I", true)
  | 1 => ("SixFigures$Reader", "read", "LSixFigures$Text;", true)
  | 2 => ("SixFigures$Reader", "at", "I", false)
  | 3 => ("SixFigures$Reader", "end", "I", false)
  | _ => ("SixFigures$Reader", "names", "Ljava/lang/String;", false)
def tyX5 : Nat → FieldType := fun k => match k with
  | 0 => .array .int
  | 1 => .object "SixFigures$Text"
  | 2 => .int
  | 3 => .int
  | _ => .object "java/lang/String"
abbrev wsX50 : List Cond := u_ws RX5 TX5 5
theorem nmX5 : ∀ a, a < 5 → ∀ b, b < 5 → a ≠ b → (TX5 a).2.1 ≠ (TX5 b).2.1 := by decide +kernel
theorem tyX5_ok : ∀ k, k < 5 → parseFieldDescriptor (TX5 k).2.2.1 = some (tyX5 k) := by decide +kernel
abbrev cX5_init : ByteArray := prog_7_method_1_code
def yX5_init : MethodName := ⟨RX5, "<init>", "([I)V"⟩
abbrev cX5_reads : ByteArray := prog_7_method_2_code
def yX5_reads : MethodName := ⟨RX5, "reads", "(ILjava/lang/String;)Z"⟩
abbrev cX5_readLevel : ByteArray := prog_7_method_3_code
def yX5_readLevel : MethodName := ⟨RX5, "readLevel", "(II)Z"⟩
abbrev cX5_readOperand : ByteArray := prog_7_method_4_code
def yX5_readOperand : MethodName := ⟨RX5, "readOperand", "(I)Z"⟩
abbrev cX5_readNumber : ByteArray := prog_7_method_5_code
def yX5_readNumber : MethodName := ⟨RX5, "readNumber", "()V"⟩
abbrev cX5_readNot : ByteArray := prog_7_method_6_code
def yX5_readNot : MethodName := ⟨RX5, "readNot", "(I)Z"⟩
abbrev cX5_readBracket : ByteArray := prog_7_method_7_code
def yX5_readBracket : MethodName := ⟨RX5, "readBracket", "(I)Z"⟩
abbrev cX5_next : ByteArray := prog_7_method_8_code
def yX5_next : MethodName := ⟨RX5, "next", "()I"⟩
abbrev cX5_isDigit : ByteArray := prog_7_method_9_code
def yX5_isDigit : MethodName := ⟨RX5, "isDigit", "(I)Z"⟩
abbrev cX5_levelOf : ByteArray := prog_7_method_10_code
def yX5_levelOf : MethodName := ⟨RX5, "levelOf", "(I)I"⟩
def RX6 : String := "SixFigures$Shared"
def TX6 : u_T := fun k => match k with
  | _ => ("", "", "", false)
def tyX6 : Nat → FieldType := fun k => match k with
  | _ => .int
abbrev wsX60 : List Cond := u_ws RX6 TX6 0
theorem nmX6 : ∀ a, a < 0 → ∀ b, b < 0 → a ≠ b → (TX6 a).2.1 ≠ (TX6 b).2.1 := by decide +kernel
theorem tyX6_ok : ∀ k, k < 0 → parseFieldDescriptor (TX6 k).2.2.1 = some (tyX6 k) := by decide +kernel
abbrev cX6_init : ByteArray := prog_8_method_1_code
def yX6_init : MethodName := ⟨RX6, "<init>", "()V"⟩
abbrev cX6_late : ByteArray := prog_8_method_2_code
def yX6_late : MethodName := ⟨RX6, "late", "(II)I"⟩
abbrev cX6_lasts : ByteArray := prog_8_method_3_code
def yX6_lasts : MethodName := ⟨RX6, "lasts", "(I)I"⟩
abbrev cX6_tells : ByteArray := prog_8_method_4_code
def yX6_tells : MethodName := ⟨RX6, "tells", "(LSixFigures$Trace;I)I"⟩
def RX7 : String := "SixFigures$Spare"
def TX7 : u_T := fun k => match k with
  | _ => ("", "", "", false)
def tyX7 : Nat → FieldType := fun k => match k with
  | _ => .int
abbrev wsX70 : List Cond := u_ws RX7 TX7 0
theorem nmX7 : ∀ a, a < 0 → ∀ b, b < 0 → a ≠ b → (TX7 a).2.1 ≠ (TX7 b).2.1 := by decide +kernel
theorem tyX7_ok : ∀ k, k < 0 → parseFieldDescriptor (TX7 k).2.2.1 = some (tyX7 k) := by decide +kernel
abbrev cX7_init : ByteArray := prog_9_method_1_code
def yX7_init : MethodName := ⟨RX7, "<init>", "()V"⟩
abbrev cX7_late : ByteArray := prog_9_method_2_code
def yX7_late : MethodName := ⟨RX7, "late", "(II)I"⟩
abbrev cX7_lasts : ByteArray := prog_9_method_3_code
def yX7_lasts : MethodName := ⟨RX7, "lasts", "(I)I"⟩
abbrev cX7_shuts : ByteArray := prog_9_method_4_code
def yX7_shuts : MethodName := ⟨RX7, "shuts", "(LSixFigures$Trace;I)I"⟩
abbrev cX7_tells : ByteArray := prog_9_method_5_code
def yX7_tells : MethodName := ⟨RX7, "tells", "(LSixFigures$Trace;I)I"⟩
def RX8 : String := "SixFigures$Text"
def TX8 : u_T := fun k => match k with
  | 0 => ("SixFigures$Text", "steps", "[I", true)
  | _ => ("SixFigures$Text", "size", "I", false)
def tyX8 : Nat → FieldType := fun k => match k with
  | 0 => .array .int
  | _ => .int
abbrev wsX80 : List Cond := u_ws RX8 TX8 2
theorem nmX8 : ∀ a, a < 2 → ∀ b, b < 2 → a ≠ b → (TX8 a).2.1 ≠ (TX8 b).2.1 := by decide +kernel
theorem tyX8_ok : ∀ k, k < 2 → parseFieldDescriptor (TX8 k).2.2.1 = some (tyX8 k) := by decide +kernel
abbrev cX8_init : ByteArray := prog_10_method_1_code
def yX8_init : MethodName := ⟨RX8, "<init>", "()V"⟩
abbrev cX8_add : ByteArray := prog_10_method_2_code
def yX8_add : MethodName := ⟨RX8, "add", "(I)V"⟩
abbrev cX8_copyFrom : ByteArray := prog_10_method_3_code
def yX8_copyFrom : MethodName := ⟨RX8, "copyFrom", "(LSixFigures$Text;)V"⟩
abbrev cX8_workedOut : ByteArray := prog_10_method_4_code
def yX8_workedOut : MethodName := ⟨RX8, "workedOut", "([IIII)I"⟩
abbrev cX8_valueOf : ByteArray := prog_10_method_5_code
def yX8_valueOf : MethodName := ⟨RX8, "valueOf", "(IIII)I"⟩
abbrev cX8_joined : ByteArray := prog_10_method_6_code
def yX8_joined : MethodName := ⟨RX8, "joined", "(III)I"⟩
abbrev cX8_truth : ByteArray := prog_10_method_7_code
def yX8_truth : MethodName := ⟨RX8, "truth", "(Z)I"⟩
def RX9 : String := "SixFigures$Trace"
def TX9 : u_T := fun k => match k with
  | 0 => ("SixFigures$Trace", "numbers", "[I", true)
  | 1 => ("SixFigures$Trace", "size", "I", false)
  | 2 => ("SixFigures$Trace", "n", "I", false)
  | _ => ("SixFigures$Trace", "m", "I", false)
def tyX9 : Nat → FieldType := fun k => match k with
  | 0 => .array .int
  | 1 => .int
  | 2 => .int
  | _ => .int
abbrev wsX90 : List Cond := u_ws RX9 TX9 4
theorem nmX9 : ∀ a, a < 4 → ∀ b, b < 4 → a ≠ b → (TX9 a).2.1 ≠ (TX9 b).2.1 := by decide +kernel
theorem tyX9_ok : ∀ k, k < 4 → parseFieldDescriptor (TX9 k).2.2.1 = some (tyX9 k) := by decide +kernel
abbrev cX9_init : ByteArray := prog_11_method_1_code
def yX9_init : MethodName := ⟨RX9, "<init>", "()V"⟩
abbrev cX9_begin : ByteArray := prog_11_method_2_code
def yX9_begin : MethodName := ⟨RX9, "begin", "(II)V"⟩
abbrev cX9_add : ByteArray := prog_11_method_3_code
def yX9_add : MethodName := ⟨RX9, "add", "(I)V"⟩
def RX10 : String := "SixFigures$Way"
def TX10 : u_T := fun k => match k with
  | _ => ("", "", "", false)
def tyX10 : Nat → FieldType := fun k => match k with
  | _ => .int
abbrev wsX100 : List Cond := u_ws RX10 TX10 0
theorem nmX10 : ∀ a, a < 0 → ∀ b, b < 0 → a ≠ b → (TX10 a).2.1 ≠ (TX10 b).2.1 := by decide +kernel
theorem tyX10_ok : ∀ k, k < 0 → parseFieldDescriptor (TX10 k).2.2.1 = some (tyX10 k) := by decide +kernel
abbrev cX10_init : ByteArray := prog_12_method_1_code
def yX10_init : MethodName := ⟨RX10, "<init>", "()V"⟩
abbrev cX10_late : ByteArray := prog_12_method_2_code
def yX10_late : MethodName := ⟨RX10, "late", "(II)I"⟩
abbrev cX10_lasts : ByteArray := prog_12_method_3_code
def yX10_lasts : MethodName := ⟨RX10, "lasts", "(I)I"⟩
abbrev cX10_sends : ByteArray := prog_12_method_4_code
def yX10_sends : MethodName := ⟨RX10, "sends", "(LSixFigures$Trace;I)I"⟩
abbrev cX10_holds : ByteArray := prog_12_method_5_code
def yX10_holds : MethodName := ⟨RX10, "holds", "(LSixFigures$Trace;I)I"⟩
abbrev cX10_shuts : ByteArray := prog_12_method_6_code
def yX10_shuts : MethodName := ⟨RX10, "shuts", "(LSixFigures$Trace;I)I"⟩
abbrev cX10_tells : ByteArray := prog_12_method_7_code
def yX10_tells : MethodName := ⟨RX10, "tells", "(LSixFigures$Trace;I)I"⟩
def RX11 : String := "SixFigures"
def TX11 : u_T := fun k => match k with
  | 0 => ("SixFigures", "book", "LSixFigures$Book;", true)
  | 1 => ("SixFigures", "kept", "LSixFigures$Book;", false)
  | 2 => ("SixFigures", "images", "I", false)
  | 3 => ("SixFigures", "errors", "[I", true)
  | 4 => ("SixFigures", "kinds", "[LSixFigures$Way;", true)
  | 5 => ("SixFigures", "reader", "LSixFigures$Reader;", true)
  | 6 => ("SixFigures", "stack", "[I", true)
  | 7 => ("SixFigures", "bodies", "LSixFigures$Trace;", true)
  | 8 => ("SixFigures", "sheets", "[[I", true)
  | 9 => ("SixFigures", "sheetBits", "[I", true)
  | _ => ("SixFigures", "sheetSizes", "[I", true)
def tyX11 : Nat → FieldType := fun k => match k with
  | 0 => .object "SixFigures$Book"
  | 1 => .object "SixFigures$Book"
  | 2 => .int
  | 3 => .array .int
  | 4 => .array (.object "SixFigures$Way")
  | 5 => .object "SixFigures$Reader"
  | 6 => .array .int
  | 7 => .object "SixFigures$Trace"
  | 8 => .array (.array .int)
  | 9 => .array .int
  | _ => .array .int
abbrev wsX110 : List Cond := u_ws RX11 TX11 11
theorem nmX11 : ∀ a, a < 11 → ∀ b, b < 11 → a ≠ b → (TX11 a).2.1 ≠ (TX11 b).2.1 := by decide +kernel
theorem tyX11_ok : ∀ k, k < 11 → parseFieldDescriptor (TX11 k).2.2.1 = some (tyX11 k) := by decide +kernel
abbrev cX11_init : ByteArray := prog_1_method_1_code
def yX11_init : MethodName := ⟨RX11, "<init>", "()V"⟩
abbrev cX11_rule : ByteArray := prog_1_method_2_code
def yX11_rule : MethodName := ⟨RX11, "rule", "(II)I"⟩
abbrev cX11_way : ByteArray := prog_1_method_3_code
def yX11_way : MethodName := ⟨RX11, "way", "(III)I"⟩
abbrev cX11_ofWay : ByteArray := prog_1_method_4_code
def yX11_ofWay : MethodName := ⟨RX11, "ofWay", "(II)I"⟩
abbrev cX11_change : ByteArray := prog_1_method_5_code
def yX11_change : MethodName := ⟨RX11, "change", "(III)I"⟩
abbrev cX11_become : ByteArray := prog_1_method_6_code
def yX11_become : MethodName := ⟨RX11, "become", "(II)I"⟩
abbrev cX11_as : ByteArray := prog_1_method_7_code
def yX11_as : MethodName := ⟨RX11, "as", "(II)I"⟩
abbrev cX11_within : ByteArray := prog_1_method_8_code
def yX11_within : MethodName := ⟨RX11, "within", "(II)Z"⟩
abbrev cX11_isWay : ByteArray := prog_1_method_9_code
def yX11_isWay : MethodName := ⟨RX11, "isWay", "(I)Z"⟩
abbrev cX11_isPlace : ByteArray := prog_1_method_10_code
def yX11_isPlace : MethodName := ⟨RX11, "isPlace", "(I)Z"⟩
abbrev cX11_mostOf : ByteArray := prog_1_method_11_code
def yX11_mostOf : MethodName := ⟨RX11, "mostOf", "(I)I"⟩
abbrev cX11_isUnder : ByteArray := prog_1_method_12_code
def yX11_isUnder : MethodName := ⟨RX11, "isUnder", "(II)Z"⟩
abbrev cX11_isLost : ByteArray := prog_1_method_13_code
def yX11_isLost : MethodName := ⟨RX11, "isLost", "(I)Z"⟩
abbrev cX11_lateAt : ByteArray := prog_1_method_14_code
def yX11_lateAt : MethodName := ⟨RX11, "lateAt", "(II)I"⟩
abbrev cX11_lastsWith : ByteArray := prog_1_method_15_code
def yX11_lastsWith : MethodName := ⟨RX11, "lastsWith", "(II)I"⟩
abbrev cX11_error : ByteArray := prog_1_method_16_code
def yX11_error : MethodName := ⟨RX11, "error", "(I)I"⟩
abbrev cX11_feed : ByteArray := prog_1_method_17_code
def yX11_feed : MethodName := ⟨RX11, "feed", "(JI)I"⟩
abbrev cX11_text : ByteArray := prog_1_method_18_code
def yX11_text : MethodName := ⟨RX11, "text", "(I)I"⟩
abbrev cX11_law : ByteArray := prog_1_method_19_code
def yX11_law : MethodName := ⟨RX11, "law", "(IIII)I"⟩
abbrev cX11_gives : ByteArray := prog_1_method_20_code
def yX11_gives : MethodName := ⟨RX11, "gives", "(IIII)I"⟩
abbrev cX11_withoutText : ByteArray := prog_1_method_21_code
def yX11_withoutText : MethodName := ⟨RX11, "withoutText", "(II)I"⟩
abbrev cX11_ask : ByteArray := prog_1_method_22_code
def yX11_ask : MethodName := ⟨RX11, "ask", "(I)I"⟩
abbrev cX11_ofCode : ByteArray := prog_1_method_23_code
def yX11_ofCode : MethodName := ⟨RX11, "ofCode", "(II)I"⟩
abbrev cX11_enter : ByteArray := prog_1_method_24_code
def yX11_enter : MethodName := ⟨RX11, "enter", "(I)I"⟩
abbrev cX11_pass : ByteArray := prog_1_method_25_code
def yX11_pass : MethodName := ⟨RX11, "pass", "(I)I"⟩
abbrev cX11_loose : ByteArray := prog_1_method_26_code
def yX11_loose : MethodName := ⟨RX11, "loose", "(I)I"⟩
abbrev cX11_asksByDraws : ByteArray := prog_1_method_27_code
def yX11_asksByDraws : MethodName := ⟨RX11, "asksByDraws", "()Z"⟩
abbrev cX11_refusalOfAsking : ByteArray := prog_1_method_28_code
def yX11_refusalOfAsking : MethodName := ⟨RX11, "refusalOfAsking", "(I)I"⟩
abbrev cX11_draw : ByteArray := prog_1_method_29_code
def yX11_draw : MethodName := ⟨RX11, "draw", "()I"⟩
abbrev cX11_send : ByteArray := prog_1_method_30_code
def yX11_send : MethodName := ⟨RX11, "send", "(I)I"⟩
abbrev cX11_tens : ByteArray := prog_1_method_31_code
def yX11_tens : MethodName := ⟨RX11, "tens", "(I)I"⟩
abbrev cX11_isCounting : ByteArray := prog_1_method_32_code
def yX11_isCounting : MethodName := ⟨RX11, "isCounting", "(I)Z"⟩
abbrev cX11_codeThatOpens : ByteArray := prog_1_method_33_code
def yX11_codeThatOpens : MethodName := ⟨RX11, "codeThatOpens", "(I)I"⟩
abbrev cX11_fetched : ByteArray := prog_1_method_34_code
def yX11_fetched : MethodName := ⟨RX11, "fetched", "(II)I"⟩
abbrev cX11_holdFor : ByteArray := prog_1_method_35_code
def yX11_holdFor : MethodName := ⟨RX11, "holdFor", "(I)I"⟩
abbrev cX11_fastest : ByteArray := prog_1_method_36_code
def yX11_fastest : MethodName := ⟨RX11, "fastest", "(I)I"⟩
abbrev cX11_figuresFor : ByteArray := prog_1_method_37_code
def yX11_figuresFor : MethodName := ⟨RX11, "figuresFor", "(I)I"⟩
abbrev cX11_counting : ByteArray := prog_1_method_38_code
def yX11_counting : MethodName := ⟨RX11, "counting", "()I"⟩
abbrev cX11_crossed : ByteArray := prog_1_method_39_code
def yX11_crossed : MethodName := ⟨RX11, "crossed", "()I"⟩
abbrev cX11_atOnce : ByteArray := prog_1_method_40_code
def yX11_atOnce : MethodName := ⟨RX11, "atOnce", "(II)I"⟩
abbrev cX11_together : ByteArray := prog_1_method_41_code
def yX11_together : MethodName := ⟨RX11, "together", "()I"⟩
abbrev cX11_waitFor : ByteArray := prog_1_method_42_code
def yX11_waitFor : MethodName := ⟨RX11, "waitFor", "()I"⟩
abbrev cX11_which : ByteArray := prog_1_method_43_code
def yX11_which : MethodName := ⟨RX11, "which", "(I)I"⟩
abbrev cX11_guess : ByteArray := prog_1_method_44_code
def yX11_guess : MethodName := ⟨RX11, "guess", "(I)I"⟩
abbrev cX11_odds : ByteArray := prog_1_method_45_code
def yX11_odds : MethodName := ⟨RX11, "odds", "(II)I"⟩
abbrev cX11_secondsToEnter : ByteArray := prog_1_method_46_code
def yX11_secondsToEnter : MethodName := ⟨RX11, "secondsToEnter", "(II)I"⟩
abbrev cX11_isEntered : ByteArray := prog_1_method_47_code
def yX11_isEntered : MethodName := ⟨RX11, "isEntered", "(II)Z"⟩
abbrev cX11_getsIn : ByteArray := prog_1_method_48_code
def yX11_getsIn : MethodName := ⟨RX11, "getsIn", "(II)Z"⟩
abbrev cX11_leftWithout : ByteArray := prog_1_method_49_code
def yX11_leftWithout : MethodName := ⟨RX11, "leftWithout", "(I)I"⟩
abbrev cX11_waysAt : ByteArray := prog_1_method_50_code
def yX11_waysAt : MethodName := ⟨RX11, "waysAt", "(I)I"⟩
abbrev cX11_tellsLateOf : ByteArray := prog_1_method_51_code
def yX11_tellsLateOf : MethodName := ⟨RX11, "tellsLateOf", "(II)Z"⟩
abbrev cX11_partOfFraction : ByteArray := prog_1_method_52_code
def yX11_partOfFraction : MethodName := ⟨RX11, "partOfFraction", "(III)I"⟩
abbrev cX11_seed : ByteArray := prog_1_method_53_code
def yX11_seed : MethodName := ⟨RX11, "seed", "(I)I"⟩
abbrev cX11_voice : ByteArray := prog_1_method_54_code
def yX11_voice : MethodName := ⟨RX11, "voice", "(III)I"⟩
abbrev cX11_trace : ByteArray := prog_1_method_55_code
def yX11_trace : MethodName := ⟨RX11, "trace", "(I)I"⟩
abbrev cX11_sheet : ByteArray := prog_1_method_56_code
def yX11_sheet : MethodName := ⟨RX11, "sheet", "(III)I"⟩
abbrev cX11_put : ByteArray := prog_1_method_57_code
def yX11_put : MethodName := ⟨RX11, "put", "(III)I"⟩
abbrev cX11_move : ByteArray := prog_1_method_58_code
def yX11_move : MethodName := ⟨RX11, "move", "(IIIII)I"⟩
abbrev cX11_fars : ByteArray := prog_1_method_59_code
def yX11_fars : MethodName := ⟨RX11, "fars", "(I)I"⟩
abbrev cX11_judge : ByteArray := prog_1_method_60_code
def yX11_judge : MethodName := ⟨RX11, "judge", "(I)I"⟩
abbrev cX11_image : ByteArray := prog_1_method_61_code
def yX11_image : MethodName := ⟨RX11, "image", "()I"⟩
abbrev cX11_restore : ByteArray := prog_1_method_62_code
def yX11_restore : MethodName := ⟨RX11, "restore", "()I"⟩
abbrev cX11_tell : ByteArray := prog_1_method_63_code
def yX11_tell : MethodName := ⟨RX11, "tell", "(I)I"⟩
abbrev cX11_check : ByteArray := prog_1_method_64_code
def yX11_check : MethodName := ⟨RX11, "check", "()I"⟩
abbrev cX11_count : ByteArray := prog_1_method_65_code
def yX11_count : MethodName := ⟨RX11, "count", "(I)I"⟩
abbrev cX11_told : ByteArray := prog_1_method_66_code
def yX11_told : MethodName := ⟨RX11, "told", "(I)I"⟩
abbrev cX11_isSheet : ByteArray := prog_1_method_67_code
def yX11_isSheet : MethodName := ⟨RX11, "isSheet", "(I)Z"⟩
abbrev cX11_isMissing : ByteArray := prog_1_method_68_code
def yX11_isMissing : MethodName := ⟨RX11, "isMissing", "(I)Z"⟩
abbrev cX11_refusalOfSheet : ByteArray := prog_1_method_69_code
def yX11_refusalOfSheet : MethodName := ⟨RX11, "refusalOfSheet", "(I)I"⟩
abbrev cX11_lowestBits : ByteArray := prog_1_method_70_code
def yX11_lowestBits : MethodName := ⟨RX11, "lowestBits", "(II)I"⟩
abbrev cX11_standThere : ByteArray := prog_1_method_71_code
def yX11_standThere : MethodName := ⟨RX11, "standThere", "(III)Z"⟩
def RX12 : String := "SixFiguresModel"
def TX12 : u_T := fun k => match k with
  | 0 => ("SixFiguresModel", "row", "[I", true)
  | 1 => ("SixFiguresModel", "kept", "[I", true)
  | 2 => ("SixFiguresModel", "before", "[I", true)
  | 3 => ("SixFiguresModel", "isKept", "Z", false)
  | 4 => ("SixFiguresModel", "images", "I", false)
  | 5 => ("SixFiguresModel", "found", "[I", true)
  | 6 => ("SixFiguresModel", "use", "I", false)
  | 7 => ("SixFiguresModel", "at", "I", false)
  | 8 => ("SixFiguresModel", "end", "I", false)
  | 9 => ("SixFiguresModel", "open", "I", false)
  | 10 => ("SixFiguresModel", "namedA", "I", false)
  | 11 => ("SixFiguresModel", "namedB", "I", false)
  | 12 => ("SixFiguresModel", "namedC", "I", false)
  | 13 => ("SixFiguresModel", "good", "Z", false)
  | 14 => ("SixFiguresModel", "bitsOf", "[I", true)
  | 15 => ("SixFiguresModel", "sizeOf", "[I", true)
  | 16 => ("SixFiguresModel", "sheets", "[I", true)
  | 17 => ("SixFiguresModel", "moved", "[I", true)
  | 18 => ("SixFiguresModel", "traced", "[I", true)
  | 19 => ("SixFiguresModel", "tracedMany", "I", false)
  | 20 => ("SixFiguresModel", "voiceKind", "I", false)
  | 21 => ("SixFiguresModel", "voiceN", "I", false)
  | _ => ("SixFiguresModel", "voiceM", "I", false)
def tyX12 : Nat → FieldType := fun k => match k with
  | 0 => .array .int
  | 1 => .array .int
  | 2 => .array .int
  | 3 => .boolean
  | 4 => .int
  | 5 => .array .int
  | 6 => .int
  | 7 => .int
  | 8 => .int
  | 9 => .int
  | 10 => .int
  | 11 => .int
  | 12 => .int
  | 13 => .boolean
  | 14 => .array .int
  | 15 => .array .int
  | 16 => .array .int
  | 17 => .array .int
  | 18 => .array .int
  | 19 => .int
  | 20 => .int
  | 21 => .int
  | _ => .int
abbrev wsX120 : List Cond := u_ws RX12 TX12 23
theorem nmX12 : ∀ a, a < 23 → ∀ b, b < 23 → a ≠ b → (TX12 a).2.1 ≠ (TX12 b).2.1 := by decide +kernel
theorem tyX12_ok : ∀ k, k < 23 → parseFieldDescriptor (TX12 k).2.2.1 = some (tyX12 k) := by decide +kernel
abbrev cX12_init : ByteArray := prog_14_method_1_code
def yX12_init : MethodName := ⟨RX12, "<init>", "()V"⟩
abbrev cX12_in : ByteArray := prog_14_method_2_code
def yX12_in : MethodName := ⟨RX12, "in", "(III)Z"⟩
abbrev cX12_errs : ByteArray := prog_14_method_3_code
def yX12_errs : MethodName := ⟨RX12, "errs", "(I)I"⟩
abbrev cX12_held : ByteArray := prog_14_method_4_code
def yX12_held : MethodName := ⟨RX12, "held", "(III)I"⟩
abbrev cX12_moveAll : ByteArray := prog_14_method_5_code
def yX12_moveAll : MethodName := ⟨RX12, "moveAll", "([I[I)V"⟩
abbrev cX12_bits : ByteArray := prog_14_method_6_code
def yX12_bits : MethodName := ⟨RX12, "bits", "(I)I"⟩
abbrev cX12_its : ByteArray := prog_14_method_7_code
def yX12_its : MethodName := ⟨RX12, "its", "(II)I"⟩
abbrev cX12_gets : ByteArray := prog_14_method_8_code
def yX12_gets : MethodName := ⟨RX12, "gets", "(III)V"⟩
abbrev cX12_of : ByteArray := prog_14_method_9_code
def yX12_of : MethodName := ⟨RX12, "of", "(II)I"⟩
abbrev cX12_isWay : ByteArray := prog_14_method_10_code
def yX12_isWay : MethodName := ⟨RX12, "isWay", "(I)Z"⟩
abbrev cX12_isCode : ByteArray := prog_14_method_11_code
def yX12_isCode : MethodName := ⟨RX12, "isCode", "(I)Z"⟩
abbrev cX12_becomes : ByteArray := prog_14_method_12_code
def yX12_becomes : MethodName := ⟨RX12, "becomes", "(II)I"⟩
abbrev cX12_isRule : ByteArray := prog_14_method_13_code
def yX12_isRule : MethodName := ⟨RX12, "isRule", "(II)Z"⟩
abbrev cX12_rule : ByteArray := prog_14_method_14_code
def yX12_rule : MethodName := ⟨RX12, "rule", "(II)I"⟩
abbrev cX12_way : ByteArray := prog_14_method_15_code
def yX12_way : MethodName := ⟨RX12, "way", "(III)I"⟩
abbrev cX12_ofWay : ByteArray := prog_14_method_16_code
def yX12_ofWay : MethodName := ⟨RX12, "ofWay", "(II)I"⟩
abbrev cX12_change : ByteArray := prog_14_method_17_code
def yX12_change : MethodName := ⟨RX12, "change", "(III)I"⟩
abbrev cX12_become : ByteArray := prog_14_method_18_code
def yX12_become : MethodName := ⟨RX12, "become", "(II)I"⟩
abbrev cX12_above : ByteArray := prog_14_method_19_code
def yX12_above : MethodName := ⟨RX12, "above", "(I)I"⟩
abbrev cX12_as : ByteArray := prog_14_method_20_code
def yX12_as : MethodName := ⟨RX12, "as", "(II)I"⟩
abbrev cX12_byteAt : ByteArray := prog_14_method_21_code
def yX12_byteAt : MethodName := ⟨RX12, "byteAt", "(I)I"⟩
abbrev cX12_isDigit : ByteArray := prog_14_method_22_code
def yX12_isDigit : MethodName := ⟨RX12, "isDigit", "(I)Z"⟩
abbrev cX12_fails : ByteArray := prog_14_method_23_code
def yX12_fails : MethodName := ⟨RX12, "fails", "()I"⟩
abbrev cX12_number : ByteArray := prog_14_method_24_code
def yX12_number : MethodName := ⟨RX12, "number", "()I"⟩
abbrev cX12_named : ByteArray := prog_14_method_25_code
def yX12_named : MethodName := ⟨RX12, "named", "(I)I"⟩
abbrev cX12_factor : ByteArray := prog_14_method_26_code
def yX12_factor : MethodName := ⟨RX12, "factor", "()I"⟩
abbrev cX12_product : ByteArray := prog_14_method_27_code
def yX12_product : MethodName := ⟨RX12, "product", "()I"⟩
abbrev cX12_sum : ByteArray := prog_14_method_28_code
def yX12_sum : MethodName := ⟨RX12, "sum", "()I"⟩
abbrev cX12_compared : ByteArray := prog_14_method_29_code
def yX12_compared : MethodName := ⟨RX12, "compared", "()I"⟩
abbrev cX12_both : ByteArray := prog_14_method_30_code
def yX12_both : MethodName := ⟨RX12, "both", "()I"⟩
abbrev cX12_whole : ByteArray := prog_14_method_31_code
def yX12_whole : MethodName := ⟨RX12, "whole", "()I"⟩
abbrev cX12_walks : ByteArray := prog_14_method_32_code
def yX12_walks : MethodName := ⟨RX12, "walks", "(IIII)I"⟩
abbrev cX12_lawOf : ByteArray := prog_14_method_33_code
def yX12_lawOf : MethodName := ⟨RX12, "lawOf", "(IIII)I"⟩
abbrev cX12_law : ByteArray := prog_14_method_34_code
def yX12_law : MethodName := ⟨RX12, "law", "(IIII)I"⟩
abbrev cX12_feed : ByteArray := prog_14_method_35_code
def yX12_feed : MethodName := ⟨RX12, "feed", "(JI)I"⟩
abbrev cX12_text : ByteArray := prog_14_method_36_code
def yX12_text : MethodName := ⟨RX12, "text", "(I)I"⟩
abbrev cX12_lateAt : ByteArray := prog_14_method_37_code
def yX12_lateAt : MethodName := ⟨RX12, "lateAt", "(II)I"⟩
abbrev cX12_lasts : ByteArray := prog_14_method_38_code
def yX12_lasts : MethodName := ⟨RX12, "lasts", "(I)I"⟩
abbrev cX12_numbers : ByteArray := prog_14_method_39_code
def yX12_numbers : MethodName := ⟨RX12, "numbers", "()I"⟩
abbrev cX12_drawn : ByteArray := prog_14_method_40_code
def yX12_drawn : MethodName := ⟨RX12, "drawn", "(I)I"⟩
abbrev cX12_asks : ByteArray := prog_14_method_41_code
def yX12_asks : MethodName := ⟨RX12, "asks", "(I)I"⟩
abbrev cX12_ask : ByteArray := prog_14_method_42_code
def yX12_ask : MethodName := ⟨RX12, "ask", "(I)I"⟩
abbrev cX12_counts : ByteArray := prog_14_method_43_code
def yX12_counts : MethodName := ⟨RX12, "counts", "(I)Z"⟩
abbrev cX12_ofCode : ByteArray := prog_14_method_44_code
def yX12_ofCode : MethodName := ⟨RX12, "ofCode", "(II)I"⟩
abbrev cX12_enter : ByteArray := prog_14_method_45_code
def yX12_enter : MethodName := ⟨RX12, "enter", "(I)I"⟩
abbrev cX12_pass : ByteArray := prog_14_method_46_code
def yX12_pass : MethodName := ⟨RX12, "pass", "(I)I"⟩
abbrev cX12_loose : ByteArray := prog_14_method_47_code
def yX12_loose : MethodName := ⟨RX12, "loose", "(I)I"⟩
abbrev cX12_backAt : ByteArray := prog_14_method_48_code
def yX12_backAt : MethodName := ⟨RX12, "backAt", "(II)I"⟩
abbrev cX12_getsInAt : ByteArray := prog_14_method_49_code
def yX12_getsInAt : MethodName := ⟨RX12, "getsInAt", "(II)Z"⟩
abbrev cX12_takes : ByteArray := prog_14_method_50_code
def yX12_takes : MethodName := ⟨RX12, "takes", "(I)I"⟩
abbrev cX12_fetched : ByteArray := prog_14_method_51_code
def yX12_fetched : MethodName := ⟨RX12, "fetched", "(II)I"⟩
abbrev cX12_holdFor : ByteArray := prog_14_method_52_code
def yX12_holdFor : MethodName := ⟨RX12, "holdFor", "(I)I"⟩
abbrev cX12_fastest : ByteArray := prog_14_method_53_code
def yX12_fastest : MethodName := ⟨RX12, "fastest", "(I)I"⟩
abbrev cX12_figuresFor : ByteArray := prog_14_method_54_code
def yX12_figuresFor : MethodName := ⟨RX12, "figuresFor", "(I)I"⟩
abbrev cX12_counting : ByteArray := prog_14_method_55_code
def yX12_counting : MethodName := ⟨RX12, "counting", "()I"⟩
abbrev cX12_crossed : ByteArray := prog_14_method_56_code
def yX12_crossed : MethodName := ⟨RX12, "crossed", "()I"⟩
abbrev cX12_leftBut : ByteArray := prog_14_method_57_code
def yX12_leftBut : MethodName := ⟨RX12, "leftBut", "(I)I"⟩
abbrev cX12_atOnce : ByteArray := prog_14_method_58_code
def yX12_atOnce : MethodName := ⟨RX12, "atOnce", "(II)I"⟩
abbrev cX12_together : ByteArray := prog_14_method_59_code
def yX12_together : MethodName := ⟨RX12, "together", "()I"⟩
abbrev cX12_waitFor : ByteArray := prog_14_method_60_code
def yX12_waitFor : MethodName := ⟨RX12, "waitFor", "()I"⟩
abbrev cX12_isSheet : ByteArray := prog_14_method_61_code
def yX12_isSheet : MethodName := ⟨RX12, "isSheet", "(I)Z"⟩
abbrev cX12_which : ByteArray := prog_14_method_62_code
def yX12_which : MethodName := ⟨RX12, "which", "(I)I"⟩
abbrev cX12_divisor : ByteArray := prog_14_method_63_code
def yX12_divisor : MethodName := ⟨RX12, "divisor", "(II)I"⟩
abbrev cX12_guess : ByteArray := prog_14_method_64_code
def yX12_guess : MethodName := ⟨RX12, "guess", "(I)I"⟩
abbrev cX12_odds : ByteArray := prog_14_method_65_code
def yX12_odds : MethodName := ⟨RX12, "odds", "(II)I"⟩
abbrev cX12_seed : ByteArray := prog_14_method_66_code
def yX12_seed : MethodName := ⟨RX12, "seed", "(I)I"⟩
abbrev cX12_ran : ByteArray := prog_14_method_67_code
def yX12_ran : MethodName := ⟨RX12, "ran", "(I)V"⟩
abbrev cX12_sendsIn : ByteArray := prog_14_method_68_code
def yX12_sendsIn : MethodName := ⟨RX12, "sendsIn", "(II)I"⟩
abbrev cX12_shutsIn : ByteArray := prog_14_method_69_code
def yX12_shutsIn : MethodName := ⟨RX12, "shutsIn", "(II)I"⟩
abbrev cX12_holdsIn : ByteArray := prog_14_method_70_code
def yX12_holdsIn : MethodName := ⟨RX12, "holdsIn", "(II)I"⟩
abbrev cX12_tellsIn : ByteArray := prog_14_method_71_code
def yX12_tellsIn : MethodName := ⟨RX12, "tellsIn", "(II)I"⟩
abbrev cX12_voice : ByteArray := prog_14_method_72_code
def yX12_voice : MethodName := ⟨RX12, "voice", "(III)I"⟩
abbrev cX12_trace : ByteArray := prog_14_method_73_code
def yX12_trace : MethodName := ⟨RX12, "trace", "(I)I"⟩
abbrev cX12_narrow : ByteArray := prog_14_method_74_code
def yX12_narrow : MethodName := ⟨RX12, "narrow", "(II)I"⟩
abbrev cX12_sheet : ByteArray := prog_14_method_75_code
def yX12_sheet : MethodName := ⟨RX12, "sheet", "(III)I"⟩
abbrev cX12_put : ByteArray := prog_14_method_76_code
def yX12_put : MethodName := ⟨RX12, "put", "(III)I"⟩
abbrev cX12_move : ByteArray := prog_14_method_77_code
def yX12_move : MethodName := ⟨RX12, "move", "(IIIII)I"⟩
abbrev cX12_fars : ByteArray := prog_14_method_78_code
def yX12_fars : MethodName := ⟨RX12, "fars", "(I)I"⟩
abbrev cX12_judge : ByteArray := prog_14_method_79_code
def yX12_judge : MethodName := ⟨RX12, "judge", "(I)I"⟩
abbrev cX12_image : ByteArray := prog_14_method_80_code
def yX12_image : MethodName := ⟨RX12, "image", "()I"⟩
abbrev cX12_restore : ByteArray := prog_14_method_81_code
def yX12_restore : MethodName := ⟨RX12, "restore", "()I"⟩
abbrev cX12_tell : ByteArray := prog_14_method_82_code
def yX12_tell : MethodName := ⟨RX12, "tell", "(I)I"⟩
abbrev cX12_check : ByteArray := prog_14_method_83_code
def yX12_check : MethodName := ⟨RX12, "check", "()I"⟩
abbrev cX12_count : ByteArray := prog_14_method_84_code
def yX12_count : MethodName := ⟨RX12, "count", "(I)I"⟩
abbrev cX12_told : ByteArray := prog_14_method_85_code
def yX12_told : MethodName := ⟨RX12, "told", "(I)I"⟩
def RJ11 : String := "java/lang/Character"
def TJ11 : u_T := fun k => match k with
  | _ => ("", "", "", false)
def tyJ11 : Nat → FieldType := fun k => match k with
  | _ => .int
abbrev wsJ110 : List Cond := u_ws RJ11 TJ11 0
theorem nmJ11 : ∀ a, a < 0 → ∀ b, b < 0 → a ≠ b → (TJ11 a).2.1 ≠ (TJ11 b).2.1 := by decide +kernel
theorem tyJ11_ok : ∀ k, k < 0 → parseFieldDescriptor (TJ11 k).2.2.1 = some (tyJ11 k) := by decide +kernel
abbrev cJ11_isValidCodePoint_9a6ad : ByteArray := prog_15_method_11_code
def yJ11_isValidCodePoint_9a6ad : MethodName := ⟨RJ11, "isValidCodePoint", "(I)Z"⟩
abbrev cJ11_highSurrogate_5068e : ByteArray := prog_15_method_28_code
def yJ11_highSurrogate_5068e : MethodName := ⟨RJ11, "highSurrogate", "(I)C"⟩
abbrev cJ11_lowSurrogate_5068e : ByteArray := prog_15_method_29_code
def yJ11_lowSurrogate_5068e : MethodName := ⟨RJ11, "lowSurrogate", "(I)C"⟩
def RJ6 : String := "java/lang/Integer"
def TJ6 : u_T := fun k => match k with
  | _ => ("", "", "", false)
def tyJ6 : Nat → FieldType := fun k => match k with
  | _ => .int
abbrev wsJ60 : List Cond := u_ws RJ6 TJ6 0
theorem nmJ6 : ∀ a, a < 0 → ∀ b, b < 0 → a ≠ b → (TJ6 a).2.1 ≠ (TJ6 b).2.1 := by decide +kernel
theorem tyJ6_ok : ∀ k, k < 0 → parseFieldDescriptor (TJ6 k).2.2.1 = some (tyJ6 k) := by decide +kernel
abbrev cJ6_bitCount_0f7a4 : ByteArray := prog_16_method_49_code
def yJ6_bitCount_0f7a4 : MethodName := ⟨RJ6, "bitCount", "(I)I"⟩
def RJ9 : String := "java/lang/Math"
def TJ9 : u_T := fun k => match k with
  | _ => ("", "", "", false)
def tyJ9 : Nat → FieldType := fun k => match k with
  | _ => .int
abbrev wsJ90 : List Cond := u_ws RJ9 TJ9 0
theorem nmJ9 : ∀ a, a < 0 → ∀ b, b < 0 → a ≠ b → (TJ9 a).2.1 ≠ (TJ9 b).2.1 := by decide +kernel
theorem tyJ9_ok : ∀ k, k < 0 → parseFieldDescriptor (TJ9 k).2.2.1 = some (tyJ9 k) := by decide +kernel
abbrev cJ9_max_7cf53 : ByteArray := prog_17_method_65_code
def yJ9_max_7cf53 : MethodName := ⟨RJ9, "max", "(II)I"⟩
abbrev cJ9_min_7cf53 : ByteArray := prog_17_method_69_code
def yJ9_min_7cf53 : MethodName := ⟨RJ9, "min", "(II)I"⟩
def RJ0 : String := "java/lang/String"
def TJ0 : u_T := fun k => match k with
  | _ => ("", "", "", false)
def tyJ0 : Nat → FieldType := fun k => match k with
  | _ => .int
abbrev wsJ00 : List Cond := u_ws RJ0 TJ0 0
theorem nmJ0 : ∀ a, a < 0 → ∀ b, b < 0 → a ≠ b → (TJ0 a).2.1 ≠ (TJ0 b).2.1 := by decide +kernel
theorem tyJ0_ok : ∀ k, k < 0 → parseFieldDescriptor (TJ0 k).2.2.1 = some (tyJ0 k) := by decide +kernel
abbrev cJ0_length_8abf5 : ByteArray := prog_18_method_54_code
def yJ0_length_8abf5 : MethodName := ⟨RJ0, "length", "()I"⟩
abbrev cJ0_indexOf_0f7a4 : ByteArray := prog_18_method_79_code
def yJ0_indexOf_0f7a4 : MethodName := ⟨RJ0, "indexOf", "(I)I"⟩
abbrev cJ0_indexOf_7cf53 : ByteArray := prog_18_method_80_code
def yJ0_indexOf_7cf53 : MethodName := ⟨RJ0, "indexOf", "(II)I"⟩
abbrev cJ0_coder_7d493 : ByteArray := prog_18_method_152_code
def yJ0_coder_7d493 : MethodName := ⟨RJ0, "coder", "()B"⟩
abbrev cJ0_isLatin1_aae02 : ByteArray := prog_18_method_154_code
def yJ0_isLatin1_aae02 : MethodName := ⟨RJ0, "isLatin1", "()Z"⟩
abbrev cJ0_checkBoundsBeginEnd_23922 : ByteArray := prog_18_method_158_code
def yJ0_checkBoundsBeginEnd_23922 : MethodName := ⟨RJ0, "checkBoundsBeginEnd", "(III)V"⟩
def RJ1 : String := "java/lang/StringLatin1"
def TJ1 : u_T := fun k => match k with
  | _ => ("", "", "", false)
def tyJ1 : Nat → FieldType := fun k => match k with
  | _ => .int
abbrev wsJ10 : List Cond := u_ws RJ1 TJ1 0
theorem nmJ1 : ∀ a, a < 0 → ∀ b, b < 0 → a ≠ b → (TJ1 a).2.1 ≠ (TJ1 b).2.1 := by decide +kernel
theorem tyJ1_ok : ∀ k, k < 0 → parseFieldDescriptor (TJ1 k).2.2.1 = some (tyJ1 k) := by decide +kernel
abbrev cJ1_canEncode_9a6ad : ByteArray := prog_19_method_4_code
def yJ1_canEncode_9a6ad : MethodName := ⟨RJ1, "canEncode", "(I)Z"⟩
abbrev cJ1_indexOf_4cfef : ByteArray := prog_19_method_22_code
def yJ1_indexOf_4cfef : MethodName := ⟨RJ1, "indexOf", "([BIII)I"⟩
abbrev cJ1_indexOfChar_4cfef : ByteArray := prog_19_method_23_code
def yJ1_indexOfChar_4cfef : MethodName := ⟨RJ1, "indexOfChar", "([BIII)I"⟩
def RJ2 : String := "java/lang/StringUTF16"
def TJ2 : u_T := fun k => match k with
  | _ => ("", "", "", false)
def tyJ2 : Nat → FieldType := fun k => match k with
  | _ => .int
abbrev wsJ20 : List Cond := u_ws RJ2 TJ2 0
theorem nmJ2 : ∀ a, a < 0 → ∀ b, b < 0 → a ≠ b → (TJ2 a).2.1 ≠ (TJ2 b).2.1 := by decide +kernel
theorem tyJ2_ok : ∀ k, k < 0 → parseFieldDescriptor (TJ2 k).2.2.1 = some (tyJ2 k) := by decide +kernel
abbrev cJ2_getChar_3b067 : ByteArray := prog_20_method_5_code
def yJ2_getChar_3b067 : MethodName := ⟨RJ2, "getChar", "([BI)C"⟩
abbrev cJ2_length_9d52b : ByteArray := prog_20_method_6_code
def yJ2_length_9d52b : MethodName := ⟨RJ2, "length", "([B)I"⟩
abbrev cJ2_indexOf_4cfef : ByteArray := prog_20_method_40_code
def yJ2_indexOf_4cfef : MethodName := ⟨RJ2, "indexOf", "([BIII)I"⟩
abbrev cJ2_indexOfChar_4cfef : ByteArray := prog_20_method_47_code
def yJ2_indexOfChar_4cfef : MethodName := ⟨RJ2, "indexOfChar", "([BIII)I"⟩
abbrev cJ2_indexOfCharUnsafe_4cfef : ByteArray := prog_20_method_48_code
def yJ2_indexOfCharUnsafe_4cfef : MethodName := ⟨RJ2, "indexOfCharUnsafe", "([BIII)I"⟩
abbrev cJ2_indexOfSupplementary_4cfef : ByteArray := prog_20_method_49_code
def yJ2_indexOfSupplementary_4cfef : MethodName := ⟨RJ2, "indexOfSupplementary", "([BIII)I"⟩
abbrev cJ2_checkBoundsBeginEnd_d044e : ByteArray := prog_20_method_93_code
def yJ2_checkBoundsBeginEnd_d044e : MethodName := ⟨RJ2, "checkBoundsBeginEnd", "(II[B)V"⟩
def RJ10 : String := "java/lang/System"
def TJ10 : u_T := fun k => match k with
  | _ => ("", "", "", false)
def tyJ10 : Nat → FieldType := fun k => match k with
  | _ => .int
abbrev wsJ100 : List Cond := u_ws RJ10 TJ10 0
theorem nmJ10 : ∀ a, a < 0 → ∀ b, b < 0 → a ≠ b → (TJ10 a).2.1 ≠ (TJ10 b).2.1 := by decide +kernel
theorem tyJ10_ok : ∀ k, k < 0 → parseFieldDescriptor (TJ10 k).2.2.1 = some (tyJ10 k) := by decide +kernel
def RJ3 : String := "jdk/internal/util/Preconditions"
def TJ3 : u_T := fun k => match k with
  | _ => ("", "", "", false)
def tyJ3 : Nat → FieldType := fun k => match k with
  | _ => .int
abbrev wsJ30 : List Cond := u_ws RJ3 TJ3 0
theorem nmJ3 : ∀ a, a < 0 → ∀ b, b < 0 → a ≠ b → (TJ3 a).2.1 ≠ (TJ3 b).2.1 := by decide +kernel
theorem tyJ3_ok : ∀ k, k < 0 → parseFieldDescriptor (TJ3 k).2.2.1 = some (tyJ3 k) := by decide +kernel
abbrev cJ3_checkFromToIndex_8c36e : ByteArray := prog_22_method_12_code
def yJ3_checkFromToIndex_8c36e : MethodName := ⟨RJ3, "checkFromToIndex", "(IIILjava/util/function/BiFunction;)I"⟩
def RL : String := "SixFiguresLaw"
abbrev cL_law : ByteArray := code
def yL_law : MethodName := ⟨RL, "law", "([I)Z"⟩
abbrev vwCl : List vw_C := [(RX0, TX0, 15), (RX1, TX1, 0), (RX2, TX2, 0), (RX3, TX3, 0), (RX4, TX4, 0), (RX5, TX5, 5), (RX6, TX6, 0), (RX7, TX7, 0), (RX8, TX8, 2), (RX9, TX9, 4), (RX10, TX10, 0), (RX11, TX11, 11), (RX12, TX12, 23)]
end
section
theorem dX0_init_0 : decode cX0_init 0 = .ok (.aload_n 0, 1) := by decide +kernel
theorem dX0_init_1 : decode cX0_init 1 = .ok (.invokespecial 3, 3) := by decide +kernel
theorem dX0_init_4 : decode cX0_init 4 = .ok (.aload_n 0, 1) := by decide +kernel
theorem dX0_init_5 : decode cX0_init 5 = .ok (.iconst 5, 1) := by decide +kernel
theorem dX0_init_6 : decode cX0_init 6 = .ok (.newarray .int, 2) := by decide +kernel
theorem dX0_init_8 : decode cX0_init 8 = .ok (.dup, 1) := by decide +kernel
theorem dX0_init_9 : decode cX0_init 9 = .ok (.iconst 0, 1) := by decide +kernel
theorem dX0_init_10 : decode cX0_init 10 = .ok (.bipush 6, 2) := by decide +kernel
theorem dX0_init_12 : decode cX0_init 12 = .ok (.iastore, 1) := by decide +kernel
theorem dX0_init_13 : decode cX0_init 13 = .ok (.dup, 1) := by decide +kernel
theorem dX0_init_14 : decode cX0_init 14 = .ok (.iconst 1, 1) := by decide +kernel
theorem dX0_init_15 : decode cX0_init 15 = .ok (.bipush 30, 2) := by decide +kernel
theorem dX0_init_17 : decode cX0_init 17 = .ok (.iastore, 1) := by decide +kernel
theorem dX0_init_18 : decode cX0_init 18 = .ok (.dup, 1) := by decide +kernel
theorem dX0_init_19 : decode cX0_init 19 = .ok (.iconst 2, 1) := by decide +kernel
theorem dX0_init_20 : decode cX0_init 20 = .ok (.iconst 3, 1) := by decide +kernel
theorem dX0_init_21 : decode cX0_init 21 = .ok (.iastore, 1) := by decide +kernel
theorem dX0_init_22 : decode cX0_init 22 = .ok (.dup, 1) := by decide +kernel
theorem dX0_init_23 : decode cX0_init 23 = .ok (.iconst 3, 1) := by decide +kernel
theorem dX0_init_24 : decode cX0_init 24 = .ok (.sipush 3600, 3) := by decide +kernel
theorem dX0_init_27 : decode cX0_init 27 = .ok (.iastore, 1) := by decide +kernel
theorem dX0_init_28 : decode cX0_init 28 = .ok (.dup, 1) := by decide +kernel
theorem dX0_init_29 : decode cX0_init 29 = .ok (.iconst 4, 1) := by decide +kernel
theorem dX0_init_30 : decode cX0_init 30 = .ok (.iconst 0, 1) := by decide +kernel
theorem dX0_init_31 : decode cX0_init 31 = .ok (.iastore, 1) := by decide +kernel
theorem dX0_init_32 : decode cX0_init 32 = .ok (.putfield 9, 3) := by decide +kernel
theorem dX0_init_35 : decode cX0_init 35 = .ok (.aload_n 0, 1) := by decide +kernel
theorem dX0_init_36 : decode cX0_init 36 = .ok (.iconst 0, 1) := by decide +kernel
theorem dX0_init_37 : decode cX0_init 37 = .ok (.putfield 15, 3) := by decide +kernel
theorem dX0_init_40 : decode cX0_init 40 = .ok (.aload_n 0, 1) := by decide +kernel
theorem dX0_init_41 : decode cX0_init 41 = .ok (.iconst 0, 1) := by decide +kernel
theorem dX0_init_42 : decode cX0_init 42 = .ok (.putfield 19, 3) := by decide +kernel
theorem dX0_init_45 : decode cX0_init 45 = .ok (.aload_n 0, 1) := by decide +kernel
theorem dX0_init_46 : decode cX0_init 46 = .ok (.iconst 0, 1) := by decide +kernel
theorem dX0_init_47 : decode cX0_init 47 = .ok (.putfield 22, 3) := by decide +kernel
theorem dX0_init_50 : decode cX0_init 50 = .ok (.aload_n 0, 1) := by decide +kernel
theorem dX0_init_51 : decode cX0_init 51 = .ok (.iconst 0, 1) := by decide +kernel
theorem dX0_init_52 : decode cX0_init 52 = .ok (.putfield 25, 3) := by decide +kernel
theorem dX0_init_55 : decode cX0_init 55 = .ok (.aload_n 0, 1) := by decide +kernel
theorem dX0_init_56 : decode cX0_init 56 = .ok (.iconst 1, 1) := by decide +kernel
theorem dX0_init_57 : decode cX0_init 57 = .ok (.putfield 28, 3) := by decide +kernel
theorem dX0_init_60 : decode cX0_init 60 = .ok (.aload_n 0, 1) := by decide +kernel
theorem dX0_init_61 : decode cX0_init 61 = .ok (.bipush 6, 2) := by decide +kernel
theorem dX0_init_63 : decode cX0_init 63 = .ok (.iconst 5, 1) := by decide +kernel
theorem dX0_init_64 : decode cX0_init 64 = .ok (.multianewarray 31 2, 4) := by decide +kernel
theorem dX0_init_68 : decode cX0_init 68 = .ok (.putfield 33, 3) := by decide +kernel
theorem dX0_init_71 : decode cX0_init 71 = .ok (.aload_n 0, 1) := by decide +kernel
theorem dX0_init_72 : decode cX0_init 72 = .ok (.iconst 0, 1) := by decide +kernel
theorem dX0_init_73 : decode cX0_init 73 = .ok (.putfield 36, 3) := by decide +kernel
theorem dX0_init_76 : decode cX0_init 76 = .ok (.aload_n 0, 1) := by decide +kernel
theorem dX0_init_77 : decode cX0_init 77 = .ok (.bipush 10, 2) := by decide +kernel
theorem dX0_init_79 : decode cX0_init 79 = .ok (.bipush 6, 2) := by decide +kernel
theorem dX0_init_81 : decode cX0_init 81 = .ok (.multianewarray 31 2, 4) := by decide +kernel
theorem dX0_init_85 : decode cX0_init 85 = .ok (.putfield 39, 3) := by decide +kernel
theorem dX0_init_88 : decode cX0_init 88 = .ok (.aload_n 0, 1) := by decide +kernel
theorem dX0_init_89 : decode cX0_init 89 = .ok (.iconst 0, 1) := by decide +kernel
theorem dX0_init_90 : decode cX0_init 90 = .ok (.putfield 42, 3) := by decide +kernel
theorem dX0_init_93 : decode cX0_init 93 = .ok (.aload_n 0, 1) := by decide +kernel
theorem dX0_init_94 : decode cX0_init 94 = .ok (.bipush 50, 2) := by decide +kernel
theorem dX0_init_96 : decode cX0_init 96 = .ok (.newarray .int, 2) := by decide +kernel
theorem dX0_init_98 : decode cX0_init 98 = .ok (.putfield 45, 3) := by decide +kernel
theorem dX0_init_101 : decode cX0_init 101 = .ok (.aload_n 0, 1) := by decide +kernel
theorem dX0_init_102 : decode cX0_init 102 = .ok (.iconst 0, 1) := by decide +kernel
theorem dX0_init_103 : decode cX0_init 103 = .ok (.putfield 48, 3) := by decide +kernel
theorem dX0_init_106 : decode cX0_init 106 = .ok (.aload_n 0, 1) := by decide +kernel
theorem dX0_init_107 : decode cX0_init 107 = .ok (.iconst 2, 1) := by decide +kernel
theorem dX0_init_108 : decode cX0_init 108 = .ok (.anewarray 51, 3) := by decide +kernel
theorem dX0_init_111 : decode cX0_init 111 = .ok (.dup, 1) := by decide +kernel
theorem dX0_init_112 : decode cX0_init 112 = .ok (.iconst 0, 1) := by decide +kernel
theorem dX0_init_113 : decode cX0_init 113 = .ok (.new 51, 3) := by decide +kernel
theorem dX0_init_116 : decode cX0_init 116 = .ok (.dup, 1) := by decide +kernel
theorem dX0_init_117 : decode cX0_init 117 = .ok (.invokespecial 53, 3) := by decide +kernel
theorem dX0_init_120 : decode cX0_init 120 = .ok (.aastore, 1) := by decide +kernel
theorem dX0_init_121 : decode cX0_init 121 = .ok (.dup, 1) := by decide +kernel
theorem dX0_init_122 : decode cX0_init 122 = .ok (.iconst 1, 1) := by decide +kernel
theorem dX0_init_123 : decode cX0_init 123 = .ok (.new 51, 3) := by decide +kernel
theorem dX0_init_126 : decode cX0_init 126 = .ok (.dup, 1) := by decide +kernel
theorem dX0_init_127 : decode cX0_init 127 = .ok (.invokespecial 53, 3) := by decide +kernel
theorem dX0_init_130 : decode cX0_init 130 = .ok (.aastore, 1) := by decide +kernel
theorem dX0_init_131 : decode cX0_init 131 = .ok (.putfield 54, 3) := by decide +kernel
theorem dX0_init_134 : decode cX0_init 134 = .ok (.aload_n 0, 1) := by decide +kernel
theorem dX0_init_135 : decode cX0_init 135 = .ok (.bipush 20, 2) := by decide +kernel
theorem dX0_init_137 : decode cX0_init 137 = .ok (.newarray .int, 2) := by decide +kernel
theorem dX0_init_139 : decode cX0_init 139 = .ok (.putfield 58, 3) := by decide +kernel
theorem dX0_init_142 : decode cX0_init 142 = .ok (.aload_n 0, 1) := by decide +kernel
theorem dX0_init_143 : decode cX0_init 143 = .ok (.iconst 0, 1) := by decide +kernel
theorem dX0_init_144 : decode cX0_init 144 = .ok (.putfield 61, 3) := by decide +kernel
theorem dX0_init_147 : decode cX0_init 147 = .ok (.return_, 1) := by decide +kernel
theorem dX0_roomForCode_0 : decode cX0_roomForCode 0 = .ok (.aload_n 0, 1) := by decide +kernel
theorem dX0_roomForCode_1 : decode cX0_roomForCode 1 = .ok (.getfield 42, 3) := by decide +kernel
theorem dX0_roomForCode_4 : decode cX0_roomForCode 4 = .ok (.bipush 10, 2) := by decide +kernel
theorem dX0_roomForCode_6 : decode cX0_roomForCode 6 = .ok (.if_icmp .ge 25, 3) := by decide +kernel
theorem dX0_roomForCode_9 : decode cX0_roomForCode 9 = .ok (.aload_n 0, 1) := by decide +kernel
theorem dX0_roomForCode_10 : decode cX0_roomForCode 10 = .ok (.dup, 1) := by decide +kernel
theorem dX0_roomForCode_11 : decode cX0_roomForCode 11 = .ok (.getfield 42, 3) := by decide +kernel
theorem dX0_roomForCode_14 : decode cX0_roomForCode 14 = .ok (.iconst 1, 1) := by decide +kernel
theorem dX0_roomForCode_15 : decode cX0_roomForCode 15 = .ok (.iadd, 1) := by decide +kernel
theorem dX0_roomForCode_16 : decode cX0_roomForCode 16 = .ok (.putfield 42, 3) := by decide +kernel
theorem dX0_roomForCode_19 : decode cX0_roomForCode 19 = .ok (.aload_n 0, 1) := by decide +kernel
theorem dX0_roomForCode_20 : decode cX0_roomForCode 20 = .ok (.getfield 39, 3) := by decide +kernel
theorem dX0_roomForCode_23 : decode cX0_roomForCode 23 = .ok (.aload_n 0, 1) := by decide +kernel
theorem dX0_roomForCode_24 : decode cX0_roomForCode 24 = .ok (.getfield 42, 3) := by decide +kernel
theorem dX0_roomForCode_27 : decode cX0_roomForCode 27 = .ok (.iconst 1, 1) := by decide +kernel
theorem dX0_roomForCode_28 : decode cX0_roomForCode 28 = .ok (.isub, 1) := by decide +kernel
theorem dX0_roomForCode_29 : decode cX0_roomForCode 29 = .ok (.aaload, 1) := by decide +kernel
theorem dX0_roomForCode_30 : decode cX0_roomForCode 30 = .ok (.areturn, 1) := by decide +kernel
theorem dX0_roomForCode_31 : decode cX0_roomForCode 31 = .ok (.aload_n 0, 1) := by decide +kernel
theorem dX0_roomForCode_32 : decode cX0_roomForCode 32 = .ok (.getfield 39, 3) := by decide +kernel
theorem dX0_roomForCode_35 : decode cX0_roomForCode 35 = .ok (.iconst 0, 1) := by decide +kernel
theorem dX0_roomForCode_36 : decode cX0_roomForCode 36 = .ok (.aaload, 1) := by decide +kernel
theorem dX0_roomForCode_37 : decode cX0_roomForCode 37 = .ok (.astore_n 1, 1) := by decide +kernel
theorem dX0_roomForCode_38 : decode cX0_roomForCode 38 = .ok (.iconst 1, 1) := by decide +kernel
theorem dX0_roomForCode_39 : decode cX0_roomForCode 39 = .ok (.istore_n 2, 1) := by decide +kernel
theorem dX0_roomForCode_40 : decode cX0_roomForCode 40 = .ok (.iload_n 2, 1) := by decide +kernel
theorem dX0_roomForCode_41 : decode cX0_roomForCode 41 = .ok (.bipush 10, 2) := by decide +kernel
theorem dX0_roomForCode_43 : decode cX0_roomForCode 43 = .ok (.if_icmp .ge 23, 3) := by decide +kernel
theorem dX0_roomForCode_46 : decode cX0_roomForCode 46 = .ok (.aload_n 0, 1) := by decide +kernel
theorem dX0_roomForCode_47 : decode cX0_roomForCode 47 = .ok (.getfield 39, 3) := by decide +kernel
theorem dX0_roomForCode_50 : decode cX0_roomForCode 50 = .ok (.iload_n 2, 1) := by decide +kernel
theorem dX0_roomForCode_51 : decode cX0_roomForCode 51 = .ok (.iconst 1, 1) := by decide +kernel
theorem dX0_roomForCode_52 : decode cX0_roomForCode 52 = .ok (.isub, 1) := by decide +kernel
theorem dX0_roomForCode_53 : decode cX0_roomForCode 53 = .ok (.aload_n 0, 1) := by decide +kernel
theorem dX0_roomForCode_54 : decode cX0_roomForCode 54 = .ok (.getfield 39, 3) := by decide +kernel
theorem dX0_roomForCode_57 : decode cX0_roomForCode 57 = .ok (.iload_n 2, 1) := by decide +kernel
theorem dX0_roomForCode_58 : decode cX0_roomForCode 58 = .ok (.aaload, 1) := by decide +kernel
theorem dX0_roomForCode_59 : decode cX0_roomForCode 59 = .ok (.aastore, 1) := by decide +kernel
theorem dX0_roomForCode_60 : decode cX0_roomForCode 60 = .ok (.iinc 2 1, 3) := by decide +kernel
theorem dX0_roomForCode_63 : decode cX0_roomForCode 63 = .ok (.goto (-23), 3) := by decide +kernel
theorem dX0_roomForCode_66 : decode cX0_roomForCode 66 = .ok (.aload_n 0, 1) := by decide +kernel
theorem dX0_roomForCode_67 : decode cX0_roomForCode 67 = .ok (.getfield 39, 3) := by decide +kernel
theorem dX0_roomForCode_70 : decode cX0_roomForCode 70 = .ok (.bipush 9, 2) := by decide +kernel
theorem dX0_roomForCode_72 : decode cX0_roomForCode 72 = .ok (.aload_n 1, 1) := by decide +kernel
theorem dX0_roomForCode_73 : decode cX0_roomForCode 73 = .ok (.aastore, 1) := by decide +kernel
theorem dX0_roomForCode_74 : decode cX0_roomForCode 74 = .ok (.aload_n 1, 1) := by decide +kernel
theorem dX0_roomForCode_75 : decode cX0_roomForCode 75 = .ok (.areturn, 1) := by decide +kernel
theorem dX0_copyFrom_0 : decode cX0_copyFrom 0 = .ok (.aload_n 1, 1) := by decide +kernel
theorem dX0_copyFrom_1 : decode cX0_copyFrom 1 = .ok (.getfield 9, 3) := by decide +kernel
theorem dX0_copyFrom_4 : decode cX0_copyFrom 4 = .ok (.aload_n 0, 1) := by decide +kernel
theorem dX0_copyFrom_5 : decode cX0_copyFrom 5 = .ok (.getfield 9, 3) := by decide +kernel
theorem dX0_copyFrom_8 : decode cX0_copyFrom 8 = .ok (.invokestatic 64, 3) := by decide +kernel
theorem dX0_copyFrom_11 : decode cX0_copyFrom 11 = .ok (.aload_n 0, 1) := by decide +kernel
theorem dX0_copyFrom_12 : decode cX0_copyFrom 12 = .ok (.aload_n 1, 1) := by decide +kernel
theorem dX0_copyFrom_13 : decode cX0_copyFrom 13 = .ok (.getfield 15, 3) := by decide +kernel
theorem dX0_copyFrom_16 : decode cX0_copyFrom 16 = .ok (.putfield 15, 3) := by decide +kernel
theorem dX0_copyFrom_19 : decode cX0_copyFrom 19 = .ok (.aload_n 0, 1) := by decide +kernel
theorem dX0_copyFrom_20 : decode cX0_copyFrom 20 = .ok (.aload_n 1, 1) := by decide +kernel
theorem dX0_copyFrom_21 : decode cX0_copyFrom 21 = .ok (.getfield 19, 3) := by decide +kernel
theorem dX0_copyFrom_24 : decode cX0_copyFrom 24 = .ok (.putfield 19, 3) := by decide +kernel
theorem dX0_copyFrom_27 : decode cX0_copyFrom 27 = .ok (.aload_n 0, 1) := by decide +kernel
theorem dX0_copyFrom_28 : decode cX0_copyFrom 28 = .ok (.aload_n 1, 1) := by decide +kernel
theorem dX0_copyFrom_29 : decode cX0_copyFrom 29 = .ok (.getfield 22, 3) := by decide +kernel
theorem dX0_copyFrom_32 : decode cX0_copyFrom 32 = .ok (.putfield 22, 3) := by decide +kernel
theorem dX0_copyFrom_35 : decode cX0_copyFrom 35 = .ok (.aload_n 0, 1) := by decide +kernel
theorem dX0_copyFrom_36 : decode cX0_copyFrom 36 = .ok (.aload_n 1, 1) := by decide +kernel
theorem dX0_copyFrom_37 : decode cX0_copyFrom 37 = .ok (.getfield 25, 3) := by decide +kernel
theorem dX0_copyFrom_40 : decode cX0_copyFrom 40 = .ok (.putfield 25, 3) := by decide +kernel
theorem dX0_copyFrom_43 : decode cX0_copyFrom 43 = .ok (.aload_n 0, 1) := by decide +kernel
theorem dX0_copyFrom_44 : decode cX0_copyFrom 44 = .ok (.aload_n 1, 1) := by decide +kernel
theorem dX0_copyFrom_45 : decode cX0_copyFrom 45 = .ok (.getfield 28, 3) := by decide +kernel
theorem dX0_copyFrom_48 : decode cX0_copyFrom 48 = .ok (.putfield 28, 3) := by decide +kernel
theorem dX0_copyFrom_51 : decode cX0_copyFrom 51 = .ok (.iconst 0, 1) := by decide +kernel
theorem dX0_copyFrom_52 : decode cX0_copyFrom 52 = .ok (.istore_n 2, 1) := by decide +kernel
theorem dX0_copyFrom_53 : decode cX0_copyFrom 53 = .ok (.iload_n 2, 1) := by decide +kernel
theorem dX0_copyFrom_54 : decode cX0_copyFrom 54 = .ok (.bipush 6, 2) := by decide +kernel
theorem dX0_copyFrom_56 : decode cX0_copyFrom 56 = .ok (.if_icmp .ge 24, 3) := by decide +kernel
theorem dX0_copyFrom_59 : decode cX0_copyFrom 59 = .ok (.aload_n 1, 1) := by decide +kernel
theorem dX0_copyFrom_60 : decode cX0_copyFrom 60 = .ok (.getfield 33, 3) := by decide +kernel
theorem dX0_copyFrom_63 : decode cX0_copyFrom 63 = .ok (.iload_n 2, 1) := by decide +kernel
theorem dX0_copyFrom_64 : decode cX0_copyFrom 64 = .ok (.aaload, 1) := by decide +kernel
theorem dX0_copyFrom_65 : decode cX0_copyFrom 65 = .ok (.aload_n 0, 1) := by decide +kernel
theorem dX0_copyFrom_66 : decode cX0_copyFrom 66 = .ok (.getfield 33, 3) := by decide +kernel
theorem dX0_copyFrom_69 : decode cX0_copyFrom 69 = .ok (.iload_n 2, 1) := by decide +kernel
theorem dX0_copyFrom_70 : decode cX0_copyFrom 70 = .ok (.aaload, 1) := by decide +kernel
theorem dX0_copyFrom_71 : decode cX0_copyFrom 71 = .ok (.invokestatic 64, 3) := by decide +kernel
theorem dX0_copyFrom_74 : decode cX0_copyFrom 74 = .ok (.iinc 2 1, 3) := by decide +kernel
theorem dX0_copyFrom_77 : decode cX0_copyFrom 77 = .ok (.goto (-24), 3) := by decide +kernel
theorem dX0_copyFrom_80 : decode cX0_copyFrom 80 = .ok (.aload_n 0, 1) := by decide +kernel
theorem dX0_copyFrom_81 : decode cX0_copyFrom 81 = .ok (.aload_n 1, 1) := by decide +kernel
theorem dX0_copyFrom_82 : decode cX0_copyFrom 82 = .ok (.getfield 36, 3) := by decide +kernel
theorem dX0_copyFrom_85 : decode cX0_copyFrom 85 = .ok (.putfield 36, 3) := by decide +kernel
theorem dX0_copyFrom_88 : decode cX0_copyFrom 88 = .ok (.iconst 0, 1) := by decide +kernel
theorem dX0_copyFrom_89 : decode cX0_copyFrom 89 = .ok (.istore_n 2, 1) := by decide +kernel
theorem dX0_copyFrom_90 : decode cX0_copyFrom 90 = .ok (.iload_n 2, 1) := by decide +kernel
theorem dX0_copyFrom_91 : decode cX0_copyFrom 91 = .ok (.bipush 10, 2) := by decide +kernel
theorem dX0_copyFrom_93 : decode cX0_copyFrom 93 = .ok (.if_icmp .ge 24, 3) := by decide +kernel
theorem dX0_copyFrom_96 : decode cX0_copyFrom 96 = .ok (.aload_n 1, 1) := by decide +kernel
theorem dX0_copyFrom_97 : decode cX0_copyFrom 97 = .ok (.getfield 39, 3) := by decide +kernel
theorem dX0_copyFrom_100 : decode cX0_copyFrom 100 = .ok (.iload_n 2, 1) := by decide +kernel
theorem dX0_copyFrom_101 : decode cX0_copyFrom 101 = .ok (.aaload, 1) := by decide +kernel
theorem dX0_copyFrom_102 : decode cX0_copyFrom 102 = .ok (.aload_n 0, 1) := by decide +kernel
theorem dX0_copyFrom_103 : decode cX0_copyFrom 103 = .ok (.getfield 39, 3) := by decide +kernel
theorem dX0_copyFrom_106 : decode cX0_copyFrom 106 = .ok (.iload_n 2, 1) := by decide +kernel
theorem dX0_copyFrom_107 : decode cX0_copyFrom 107 = .ok (.aaload, 1) := by decide +kernel
theorem dX0_copyFrom_108 : decode cX0_copyFrom 108 = .ok (.invokestatic 64, 3) := by decide +kernel
theorem dX0_copyFrom_111 : decode cX0_copyFrom 111 = .ok (.iinc 2 1, 3) := by decide +kernel
theorem dX0_copyFrom_114 : decode cX0_copyFrom 114 = .ok (.goto (-24), 3) := by decide +kernel
theorem dX0_copyFrom_117 : decode cX0_copyFrom 117 = .ok (.aload_n 0, 1) := by decide +kernel
theorem dX0_copyFrom_118 : decode cX0_copyFrom 118 = .ok (.aload_n 1, 1) := by decide +kernel
theorem dX0_copyFrom_119 : decode cX0_copyFrom 119 = .ok (.getfield 42, 3) := by decide +kernel
theorem dX0_copyFrom_122 : decode cX0_copyFrom 122 = .ok (.putfield 42, 3) := by decide +kernel
theorem dX0_copyFrom_125 : decode cX0_copyFrom 125 = .ok (.aload_n 1, 1) := by decide +kernel
theorem dX0_copyFrom_126 : decode cX0_copyFrom 126 = .ok (.getfield 45, 3) := by decide +kernel
theorem dX0_copyFrom_129 : decode cX0_copyFrom 129 = .ok (.aload_n 0, 1) := by decide +kernel
theorem dX0_copyFrom_130 : decode cX0_copyFrom 130 = .ok (.getfield 45, 3) := by decide +kernel
theorem dX0_copyFrom_133 : decode cX0_copyFrom 133 = .ok (.invokestatic 64, 3) := by decide +kernel
theorem dX0_copyFrom_136 : decode cX0_copyFrom 136 = .ok (.aload_n 0, 1) := by decide +kernel
theorem dX0_copyFrom_137 : decode cX0_copyFrom 137 = .ok (.aload_n 1, 1) := by decide +kernel
theorem dX0_copyFrom_138 : decode cX0_copyFrom 138 = .ok (.getfield 48, 3) := by decide +kernel
theorem dX0_copyFrom_141 : decode cX0_copyFrom 141 = .ok (.putfield 48, 3) := by decide +kernel
theorem dX0_copyFrom_144 : decode cX0_copyFrom 144 = .ok (.iconst 0, 1) := by decide +kernel
theorem dX0_copyFrom_145 : decode cX0_copyFrom 145 = .ok (.istore_n 2, 1) := by decide +kernel
theorem dX0_copyFrom_146 : decode cX0_copyFrom 146 = .ok (.iload_n 2, 1) := by decide +kernel
theorem dX0_copyFrom_147 : decode cX0_copyFrom 147 = .ok (.iconst 2, 1) := by decide +kernel
theorem dX0_copyFrom_148 : decode cX0_copyFrom 148 = .ok (.if_icmp .ge 24, 3) := by decide +kernel
theorem dX0_copyFrom_151 : decode cX0_copyFrom 151 = .ok (.aload_n 0, 1) := by decide +kernel
theorem dX0_copyFrom_152 : decode cX0_copyFrom 152 = .ok (.getfield 54, 3) := by decide +kernel
theorem dX0_copyFrom_155 : decode cX0_copyFrom 155 = .ok (.iload_n 2, 1) := by decide +kernel
theorem dX0_copyFrom_156 : decode cX0_copyFrom 156 = .ok (.aaload, 1) := by decide +kernel
theorem dX0_copyFrom_157 : decode cX0_copyFrom 157 = .ok (.aload_n 1, 1) := by decide +kernel
theorem dX0_copyFrom_158 : decode cX0_copyFrom 158 = .ok (.getfield 54, 3) := by decide +kernel
theorem dX0_copyFrom_161 : decode cX0_copyFrom 161 = .ok (.iload_n 2, 1) := by decide +kernel
theorem dX0_copyFrom_162 : decode cX0_copyFrom 162 = .ok (.aaload, 1) := by decide +kernel
theorem dX0_copyFrom_163 : decode cX0_copyFrom 163 = .ok (.invokevirtual 68, 3) := by decide +kernel
theorem dX0_copyFrom_166 : decode cX0_copyFrom 166 = .ok (.iinc 2 1, 3) := by decide +kernel
theorem dX0_copyFrom_169 : decode cX0_copyFrom 169 = .ok (.goto (-23), 3) := by decide +kernel
theorem dX0_copyFrom_172 : decode cX0_copyFrom 172 = .ok (.aload_n 1, 1) := by decide +kernel
theorem dX0_copyFrom_173 : decode cX0_copyFrom 173 = .ok (.getfield 58, 3) := by decide +kernel
theorem dX0_copyFrom_176 : decode cX0_copyFrom 176 = .ok (.aload_n 0, 1) := by decide +kernel
theorem dX0_copyFrom_177 : decode cX0_copyFrom 177 = .ok (.getfield 58, 3) := by decide +kernel
theorem dX0_copyFrom_180 : decode cX0_copyFrom 180 = .ok (.invokestatic 64, 3) := by decide +kernel
theorem dX0_copyFrom_183 : decode cX0_copyFrom 183 = .ok (.aload_n 0, 1) := by decide +kernel
theorem dX0_copyFrom_184 : decode cX0_copyFrom 184 = .ok (.aload_n 1, 1) := by decide +kernel
theorem dX0_copyFrom_185 : decode cX0_copyFrom 185 = .ok (.getfield 61, 3) := by decide +kernel
theorem dX0_copyFrom_188 : decode cX0_copyFrom 188 = .ok (.putfield 61, 3) := by decide +kernel
theorem dX0_copyFrom_191 : decode cX0_copyFrom 191 = .ok (.return_, 1) := by decide +kernel
theorem dX0_copyRow_0 : decode cX0_copyRow 0 = .ok (.aload_n 0, 1) := by decide +kernel
theorem dX0_copyRow_1 : decode cX0_copyRow 1 = .ok (.iconst 0, 1) := by decide +kernel
theorem dX0_copyRow_2 : decode cX0_copyRow 2 = .ok (.aload_n 1, 1) := by decide +kernel
theorem dX0_copyRow_3 : decode cX0_copyRow 3 = .ok (.iconst 0, 1) := by decide +kernel
theorem dX0_copyRow_4 : decode cX0_copyRow 4 = .ok (.aload_n 0, 1) := by decide +kernel
theorem dX0_copyRow_5 : decode cX0_copyRow 5 = .ok (.arraylength, 1) := by decide +kernel
theorem dX0_copyRow_6 : decode cX0_copyRow 6 = .ok (.aload_n 1, 1) := by decide +kernel
theorem dX0_copyRow_7 : decode cX0_copyRow 7 = .ok (.arraylength, 1) := by decide +kernel
theorem dX0_copyRow_8 : decode cX0_copyRow 8 = .ok (.invokestatic 72, 3) := by decide +kernel
theorem dX0_copyRow_11 : decode cX0_copyRow 11 = .ok (.invokestatic 78, 3) := by decide +kernel
theorem dX0_copyRow_14 : decode cX0_copyRow 14 = .ok (.return_, 1) := by decide +kernel
theorem dX1_init_0 : decode cX1_init 0 = .ok (.aload_n 0, 1) := by decide +kernel
theorem dX1_init_1 : decode cX1_init 1 = .ok (.invokespecial 1, 3) := by decide +kernel
theorem dX1_init_4 : decode cX1_init 4 = .ok (.return_, 1) := by decide +kernel
theorem dX1_late_0 : decode cX1_late 0 = .ok (.iconst 0, 1) := by decide +kernel
theorem dX1_late_1 : decode cX1_late 1 = .ok (.ireturn, 1) := by decide +kernel
theorem dX1_holds_0 : decode cX1_holds 0 = .ok (.aload_n 1, 1) := by decide +kernel
theorem dX1_holds_1 : decode cX1_holds 1 = .ok (.bipush 30, 2) := by decide +kernel
theorem dX1_holds_3 : decode cX1_holds 3 = .ok (.invokevirtual 7, 3) := by decide +kernel
theorem dX1_holds_6 : decode cX1_holds 6 = .ok (.aload_n 0, 1) := by decide +kernel
theorem dX1_holds_7 : decode cX1_holds 7 = .ok (.aload_n 1, 1) := by decide +kernel
theorem dX1_holds_8 : decode cX1_holds 8 = .ok (.iload_n 2, 1) := by decide +kernel
theorem dX1_holds_9 : decode cX1_holds 9 = .ok (.invokespecial 13, 3) := by decide +kernel
theorem dX1_holds_12 : decode cX1_holds 12 = .ok (.aload_n 0, 1) := by decide +kernel
theorem dX1_holds_13 : decode cX1_holds 13 = .ok (.aload_n 1, 1) := by decide +kernel
theorem dX1_holds_14 : decode cX1_holds 14 = .ok (.iconst 1, 1) := by decide +kernel
theorem dX1_holds_15 : decode cX1_holds 15 = .ok (.invokevirtual 17, 3) := by decide +kernel
theorem dX1_holds_18 : decode cX1_holds 18 = .ok (.isub, 1) := by decide +kernel
theorem dX1_holds_19 : decode cX1_holds 19 = .ok (.ireturn, 1) := by decide +kernel
theorem dX2_init_0 : decode cX2_init 0 = .ok (.aload_n 0, 1) := by decide +kernel
theorem dX2_init_1 : decode cX2_init 1 = .ok (.invokespecial 1, 3) := by decide +kernel
theorem dX2_init_4 : decode cX2_init 4 = .ok (.return_, 1) := by decide +kernel
theorem dX2_late_0 : decode cX2_late 0 = .ok (.iload_n 1, 1) := by decide +kernel
theorem dX2_late_1 : decode cX2_late 1 = .ok (.iconst 2, 1) := by decide +kernel
theorem dX2_late_2 : decode cX2_late 2 = .ok (.idiv, 1) := by decide +kernel
theorem dX2_late_3 : decode cX2_late 3 = .ok (.ireturn, 1) := by decide +kernel
theorem dX2_lasts_0 : decode cX2_lasts 0 = .ok (.bipush 10, 2) := by decide +kernel
theorem dX2_lasts_2 : decode cX2_lasts 2 = .ok (.iload_n 1, 1) := by decide +kernel
theorem dX2_lasts_3 : decode cX2_lasts 3 = .ok (.imul, 1) := by decide +kernel
theorem dX2_lasts_4 : decode cX2_lasts 4 = .ok (.ireturn, 1) := by decide +kernel
theorem dX2_shuts_0 : decode cX2_shuts 0 = .ok (.aload_n 1, 1) := by decide +kernel
theorem dX2_shuts_1 : decode cX2_shuts 1 = .ok (.bipush 40, 2) := by decide +kernel
theorem dX2_shuts_3 : decode cX2_shuts 3 = .ok (.invokevirtual 7, 3) := by decide +kernel
theorem dX2_shuts_6 : decode cX2_shuts 6 = .ok (.aload_n 0, 1) := by decide +kernel
theorem dX2_shuts_7 : decode cX2_shuts 7 = .ok (.aload_n 1, 1) := by decide +kernel
theorem dX2_shuts_8 : decode cX2_shuts 8 = .ok (.iload_n 2, 1) := by decide +kernel
theorem dX2_shuts_9 : decode cX2_shuts 9 = .ok (.invokespecial 13, 3) := by decide +kernel
theorem dX2_shuts_12 : decode cX2_shuts 12 = .ok (.ineg, 1) := by decide +kernel
theorem dX2_shuts_13 : decode cX2_shuts 13 = .ok (.ireturn, 1) := by decide +kernel
theorem dX3_init_0 : decode cX3_init 0 = .ok (.aload_n 0, 1) := by decide +kernel
theorem dX3_init_1 : decode cX3_init 1 = .ok (.invokespecial 1, 3) := by decide +kernel
theorem dX3_init_4 : decode cX3_init 4 = .ok (.return_, 1) := by decide +kernel
theorem dX3_late_0 : decode cX3_late 0 = .ok (.aload_n 0, 1) := by decide +kernel
theorem dX3_late_1 : decode cX3_late 1 = .ok (.iload_n 1, 1) := by decide +kernel
theorem dX3_late_2 : decode cX3_late 2 = .ok (.iload_n 2, 1) := by decide +kernel
theorem dX3_late_3 : decode cX3_late 3 = .ok (.invokespecial 7, 3) := by decide +kernel
theorem dX3_late_6 : decode cX3_late 6 = .ok (.iconst 1, 1) := by decide +kernel
theorem dX3_late_7 : decode cX3_late 7 = .ok (.iadd, 1) := by decide +kernel
theorem dX3_late_8 : decode cX3_late 8 = .ok (.ireturn, 1) := by decide +kernel
theorem dX3_holds_0 : decode cX3_holds 0 = .ok (.aload_n 1, 1) := by decide +kernel
theorem dX3_holds_1 : decode cX3_holds 1 = .ok (.bipush 60, 2) := by decide +kernel
theorem dX3_holds_3 : decode cX3_holds 3 = .ok (.invokevirtual 11, 3) := by decide +kernel
theorem dX3_holds_6 : decode cX3_holds 6 = .ok (.aload_n 0, 1) := by decide +kernel
theorem dX3_holds_7 : decode cX3_holds 7 = .ok (.aload_n 1, 1) := by decide +kernel
theorem dX3_holds_8 : decode cX3_holds 8 = .ok (.iload_n 2, 1) := by decide +kernel
theorem dX3_holds_9 : decode cX3_holds 9 = .ok (.iconst 1, 1) := by decide +kernel
theorem dX3_holds_10 : decode cX3_holds 10 = .ok (.iadd, 1) := by decide +kernel
theorem dX3_holds_11 : decode cX3_holds 11 = .ok (.invokespecial 17, 3) := by decide +kernel
theorem dX3_holds_14 : decode cX3_holds 14 = .ok (.ireturn, 1) := by decide +kernel
theorem dX4_init_0 : decode cX4_init 0 = .ok (.aload_n 0, 1) := by decide +kernel
theorem dX4_init_1 : decode cX4_init 1 = .ok (.invokespecial 1, 3) := by decide +kernel
theorem dX4_init_4 : decode cX4_init 4 = .ok (.return_, 1) := by decide +kernel
theorem dX4_sends_0 : decode cX4_sends 0 = .ok (.aload_n 1, 1) := by decide +kernel
theorem dX4_sends_1 : decode cX4_sends 1 = .ok (.bipush 20, 2) := by decide +kernel
theorem dX4_sends_3 : decode cX4_sends 3 = .ok (.invokevirtual 7, 3) := by decide +kernel
theorem dX4_sends_6 : decode cX4_sends 6 = .ok (.aload_n 0, 1) := by decide +kernel
theorem dX4_sends_7 : decode cX4_sends 7 = .ok (.aload_n 1, 1) := by decide +kernel
theorem dX4_sends_8 : decode cX4_sends 8 = .ok (.iload_n 2, 1) := by decide +kernel
theorem dX4_sends_9 : decode cX4_sends 9 = .ok (.invokespecial 13, 3) := by decide +kernel
theorem dX4_sends_12 : decode cX4_sends 12 = .ok (.iconst 3, 1) := by decide +kernel
theorem dX4_sends_13 : decode cX4_sends 13 = .ok (.imul, 1) := by decide +kernel
theorem dX4_sends_14 : decode cX4_sends 14 = .ok (.ireturn, 1) := by decide +kernel
theorem dX5_init_0 : decode cX5_init 0 = .ok (.aload_n 0, 1) := by decide +kernel
theorem dX5_init_1 : decode cX5_init 1 = .ok (.invokespecial 3, 3) := by decide +kernel
theorem dX5_init_4 : decode cX5_init 4 = .ok (.aload_n 0, 1) := by decide +kernel
theorem dX5_init_5 : decode cX5_init 5 = .ok (.new 9, 3) := by decide +kernel
theorem dX5_init_8 : decode cX5_init 8 = .ok (.dup, 1) := by decide +kernel
theorem dX5_init_9 : decode cX5_init 9 = .ok (.invokespecial 11, 3) := by decide +kernel
theorem dX5_init_12 : decode cX5_init 12 = .ok (.putfield 12, 3) := by decide +kernel
theorem dX5_init_15 : decode cX5_init 15 = .ok (.aload_n 0, 1) := by decide +kernel
theorem dX5_init_16 : decode cX5_init 16 = .ok (.iconst 0, 1) := by decide +kernel
theorem dX5_init_17 : decode cX5_init 17 = .ok (.putfield 18, 3) := by decide +kernel
theorem dX5_init_20 : decode cX5_init 20 = .ok (.aload_n 0, 1) := by decide +kernel
theorem dX5_init_21 : decode cX5_init 21 = .ok (.iconst 0, 1) := by decide +kernel
theorem dX5_init_22 : decode cX5_init 22 = .ok (.putfield 22, 3) := by decide +kernel
theorem dX5_init_25 : decode cX5_init 25 = .ok (.aload_n 0, 1) := by decide +kernel
theorem dX5_init_26 : decode cX5_init 26 = .ok (.ldc 25, 2) := by decide +kernel
theorem dX5_init_28 : decode cX5_init 28 = .ok (.putfield 27, 3) := by decide +kernel
theorem dX5_init_31 : decode cX5_init 31 = .ok (.aload_n 0, 1) := by decide +kernel
theorem dX5_init_32 : decode cX5_init 32 = .ok (.aload_n 1, 1) := by decide +kernel
theorem dX5_init_33 : decode cX5_init 33 = .ok (.putfield 31, 3) := by decide +kernel
theorem dX5_init_36 : decode cX5_init 36 = .ok (.return_, 1) := by decide +kernel
theorem dX5_reads_0 : decode cX5_reads 0 = .ok (.aload_n 0, 1) := by decide +kernel
theorem dX5_reads_1 : decode cX5_reads 1 = .ok (.iconst 0, 1) := by decide +kernel
theorem dX5_reads_2 : decode cX5_reads 2 = .ok (.putfield 18, 3) := by decide +kernel
theorem dX5_reads_5 : decode cX5_reads 5 = .ok (.aload_n 0, 1) := by decide +kernel
theorem dX5_reads_6 : decode cX5_reads 6 = .ok (.iload_n 1, 1) := by decide +kernel
theorem dX5_reads_7 : decode cX5_reads 7 = .ok (.aload_n 0, 1) := by decide +kernel
theorem dX5_reads_8 : decode cX5_reads 8 = .ok (.getfield 31, 3) := by decide +kernel
theorem dX5_reads_11 : decode cX5_reads 11 = .ok (.arraylength, 1) := by decide +kernel
theorem dX5_reads_12 : decode cX5_reads 12 = .ok (.invokestatic 35, 3) := by decide +kernel
theorem dX5_reads_15 : decode cX5_reads 15 = .ok (.putfield 22, 3) := by decide +kernel
theorem dX5_reads_18 : decode cX5_reads 18 = .ok (.aload_n 0, 1) := by decide +kernel
theorem dX5_reads_19 : decode cX5_reads 19 = .ok (.aload_n 2, 1) := by decide +kernel
theorem dX5_reads_20 : decode cX5_reads 20 = .ok (.putfield 27, 3) := by decide +kernel
theorem dX5_reads_23 : decode cX5_reads 23 = .ok (.aload_n 0, 1) := by decide +kernel
theorem dX5_reads_24 : decode cX5_reads 24 = .ok (.getfield 12, 3) := by decide +kernel
theorem dX5_reads_27 : decode cX5_reads 27 = .ok (.iconst 0, 1) := by decide +kernel
theorem dX5_reads_28 : decode cX5_reads 28 = .ok (.putfield 41, 3) := by decide +kernel
theorem dX5_reads_31 : decode cX5_reads 31 = .ok (.aload_n 0, 1) := by decide +kernel
theorem dX5_reads_32 : decode cX5_reads 32 = .ok (.iconst 0, 1) := by decide +kernel
theorem dX5_reads_33 : decode cX5_reads 33 = .ok (.iconst 0, 1) := by decide +kernel
theorem dX5_reads_34 : decode cX5_reads 34 = .ok (.invokevirtual 44, 3) := by decide +kernel
theorem dX5_reads_37 : decode cX5_reads 37 = .ok (.ifCond .eq 18, 3) := by decide +kernel
theorem dX5_reads_40 : decode cX5_reads 40 = .ok (.aload_n 0, 1) := by decide +kernel
theorem dX5_reads_41 : decode cX5_reads 41 = .ok (.getfield 18, 3) := by decide +kernel
theorem dX5_reads_44 : decode cX5_reads 44 = .ok (.aload_n 0, 1) := by decide +kernel
theorem dX5_reads_45 : decode cX5_reads 45 = .ok (.getfield 22, 3) := by decide +kernel
theorem dX5_reads_48 : decode cX5_reads 48 = .ok (.if_icmp .ne 7, 3) := by decide +kernel
theorem dX5_reads_51 : decode cX5_reads 51 = .ok (.iconst 1, 1) := by decide +kernel
theorem dX5_reads_52 : decode cX5_reads 52 = .ok (.goto 4, 3) := by decide +kernel
theorem dX5_reads_55 : decode cX5_reads 55 = .ok (.iconst 0, 1) := by decide +kernel
theorem dX5_reads_56 : decode cX5_reads 56 = .ok (.ireturn, 1) := by decide +kernel
theorem dX5_readLevel_0 : decode cX5_readLevel 0 = .ok (.iload_n 1, 1) := by decide +kernel
theorem dX5_readLevel_1 : decode cX5_readLevel 1 = .ok (.iconst 5, 1) := by decide +kernel
theorem dX5_readLevel_2 : decode cX5_readLevel 2 = .ok (.if_icmp .lt 9, 3) := by decide +kernel
theorem dX5_readLevel_5 : decode cX5_readLevel 5 = .ok (.aload_n 0, 1) := by decide +kernel
theorem dX5_readLevel_6 : decode cX5_readLevel 6 = .ok (.iload_n 2, 1) := by decide +kernel
theorem dX5_readLevel_7 : decode cX5_readLevel 7 = .ok (.invokevirtual 48, 3) := by decide +kernel
theorem dX5_readLevel_10 : decode cX5_readLevel 10 = .ok (.ireturn, 1) := by decide +kernel
theorem dX5_readLevel_11 : decode cX5_readLevel 11 = .ok (.aload_n 0, 1) := by decide +kernel
theorem dX5_readLevel_12 : decode cX5_readLevel 12 = .ok (.iload_n 1, 1) := by decide +kernel
theorem dX5_readLevel_13 : decode cX5_readLevel 13 = .ok (.iconst 1, 1) := by decide +kernel
theorem dX5_readLevel_14 : decode cX5_readLevel 14 = .ok (.iadd, 1) := by decide +kernel
theorem dX5_readLevel_15 : decode cX5_readLevel 15 = .ok (.iload_n 2, 1) := by decide +kernel
theorem dX5_readLevel_16 : decode cX5_readLevel 16 = .ok (.invokevirtual 44, 3) := by decide +kernel
theorem dX5_readLevel_19 : decode cX5_readLevel 19 = .ok (.ifCond .ne 5, 3) := by decide +kernel
theorem dX5_readLevel_22 : decode cX5_readLevel 22 = .ok (.iconst 0, 1) := by decide +kernel
theorem dX5_readLevel_23 : decode cX5_readLevel 23 = .ok (.ireturn, 1) := by decide +kernel
theorem dX5_readLevel_24 : decode cX5_readLevel 24 = .ok (.iload_n 1, 1) := by decide +kernel
theorem dX5_readLevel_25 : decode cX5_readLevel 25 = .ok (.iconst 2, 1) := by decide +kernel
theorem dX5_readLevel_26 : decode cX5_readLevel 26 = .ok (.if_icmp .ne 7, 3) := by decide +kernel
theorem dX5_readLevel_29 : decode cX5_readLevel 29 = .ok (.iconst 1, 1) := by decide +kernel
theorem dX5_readLevel_30 : decode cX5_readLevel 30 = .ok (.goto 5, 3) := by decide +kernel
theorem dX5_readLevel_33 : decode cX5_readLevel 33 = .ok (.bipush 50, 2) := by decide +kernel
theorem dX5_readLevel_35 : decode cX5_readLevel 35 = .ok (.istore_n 3, 1) := by decide +kernel
theorem dX5_readLevel_36 : decode cX5_readLevel 36 = .ok (.iconst 0, 1) := by decide +kernel
theorem dX5_readLevel_37 : decode cX5_readLevel 37 = .ok (.istore 4, 2) := by decide +kernel
theorem dX5_readLevel_39 : decode cX5_readLevel 39 = .ok (.iload 4, 2) := by decide +kernel
theorem dX5_readLevel_41 : decode cX5_readLevel 41 = .ok (.iload_n 3, 1) := by decide +kernel
theorem dX5_readLevel_42 : decode cX5_readLevel 42 = .ok (.if_icmp .ge 59, 3) := by decide +kernel
theorem dX5_readLevel_45 : decode cX5_readLevel 45 = .ok (.aload_n 0, 1) := by decide +kernel
theorem dX5_readLevel_46 : decode cX5_readLevel 46 = .ok (.invokevirtual 52, 3) := by decide +kernel
theorem dX5_readLevel_49 : decode cX5_readLevel 49 = .ok (.invokestatic 56, 3) := by decide +kernel
theorem dX5_readLevel_52 : decode cX5_readLevel 52 = .ok (.iload_n 1, 1) := by decide +kernel
theorem dX5_readLevel_53 : decode cX5_readLevel 53 = .ok (.if_icmp .ne 48, 3) := by decide +kernel
theorem dX5_readLevel_56 : decode cX5_readLevel 56 = .ok (.aload_n 0, 1) := by decide +kernel
theorem dX5_readLevel_57 : decode cX5_readLevel 57 = .ok (.invokevirtual 52, 3) := by decide +kernel
theorem dX5_readLevel_60 : decode cX5_readLevel 60 = .ok (.istore 5, 2) := by decide +kernel
theorem dX5_readLevel_62 : decode cX5_readLevel 62 = .ok (.aload_n 0, 1) := by decide +kernel
theorem dX5_readLevel_63 : decode cX5_readLevel 63 = .ok (.dup, 1) := by decide +kernel
theorem dX5_readLevel_64 : decode cX5_readLevel 64 = .ok (.getfield 18, 3) := by decide +kernel
theorem dX5_readLevel_67 : decode cX5_readLevel 67 = .ok (.iconst 1, 1) := by decide +kernel
theorem dX5_readLevel_68 : decode cX5_readLevel 68 = .ok (.iadd, 1) := by decide +kernel
theorem dX5_readLevel_69 : decode cX5_readLevel 69 = .ok (.putfield 18, 3) := by decide +kernel
theorem dX5_readLevel_72 : decode cX5_readLevel 72 = .ok (.aload_n 0, 1) := by decide +kernel
theorem dX5_readLevel_73 : decode cX5_readLevel 73 = .ok (.iload_n 1, 1) := by decide +kernel
theorem dX5_readLevel_74 : decode cX5_readLevel 74 = .ok (.iconst 1, 1) := by decide +kernel
theorem dX5_readLevel_75 : decode cX5_readLevel 75 = .ok (.iadd, 1) := by decide +kernel
theorem dX5_readLevel_76 : decode cX5_readLevel 76 = .ok (.iload_n 2, 1) := by decide +kernel
theorem dX5_readLevel_77 : decode cX5_readLevel 77 = .ok (.invokevirtual 44, 3) := by decide +kernel
theorem dX5_readLevel_80 : decode cX5_readLevel 80 = .ok (.ifCond .ne 5, 3) := by decide +kernel
theorem dX5_readLevel_83 : decode cX5_readLevel 83 = .ok (.iconst 0, 1) := by decide +kernel
theorem dX5_readLevel_84 : decode cX5_readLevel 84 = .ok (.ireturn, 1) := by decide +kernel
theorem dX5_readLevel_85 : decode cX5_readLevel 85 = .ok (.aload_n 0, 1) := by decide +kernel
theorem dX5_readLevel_86 : decode cX5_readLevel 86 = .ok (.getfield 12, 3) := by decide +kernel
theorem dX5_readLevel_89 : decode cX5_readLevel 89 = .ok (.iload 5, 2) := by decide +kernel
theorem dX5_readLevel_91 : decode cX5_readLevel 91 = .ok (.ineg, 1) := by decide +kernel
theorem dX5_readLevel_92 : decode cX5_readLevel 92 = .ok (.invokevirtual 60, 3) := by decide +kernel
theorem dX5_readLevel_95 : decode cX5_readLevel 95 = .ok (.iinc 4 1, 3) := by decide +kernel
theorem dX5_readLevel_98 : decode cX5_readLevel 98 = .ok (.goto (-59), 3) := by decide +kernel
theorem dX5_readLevel_101 : decode cX5_readLevel 101 = .ok (.iconst 1, 1) := by decide +kernel
theorem dX5_readLevel_102 : decode cX5_readLevel 102 = .ok (.ireturn, 1) := by decide +kernel
theorem dX5_readOperand_0 : decode cX5_readOperand 0 = .ok (.aload_n 0, 1) := by decide +kernel
theorem dX5_readOperand_1 : decode cX5_readOperand 1 = .ok (.invokevirtual 52, 3) := by decide +kernel
theorem dX5_readOperand_4 : decode cX5_readOperand 4 = .ok (.istore_n 2, 1) := by decide +kernel
theorem dX5_readOperand_5 : decode cX5_readOperand 5 = .ok (.iload_n 2, 1) := by decide +kernel
theorem dX5_readOperand_6 : decode cX5_readOperand 6 = .ok (.invokestatic 64, 3) := by decide +kernel
theorem dX5_readOperand_9 : decode cX5_readOperand 9 = .ok (.ifCond .eq 9, 3) := by decide +kernel
theorem dX5_readOperand_12 : decode cX5_readOperand 12 = .ok (.aload_n 0, 1) := by decide +kernel
theorem dX5_readOperand_13 : decode cX5_readOperand 13 = .ok (.invokevirtual 67, 3) := by decide +kernel
theorem dX5_readOperand_16 : decode cX5_readOperand 16 = .ok (.iconst 1, 1) := by decide +kernel
theorem dX5_readOperand_17 : decode cX5_readOperand 17 = .ok (.ireturn, 1) := by decide +kernel
theorem dX5_readOperand_18 : decode cX5_readOperand 18 = .ok (.iload_n 2, 1) := by decide +kernel
theorem dX5_readOperand_19 : decode cX5_readOperand 19 = .ok (.bipush 33, 2) := by decide +kernel
theorem dX5_readOperand_21 : decode cX5_readOperand 21 = .ok (.if_icmp .eq 9, 3) := by decide +kernel
theorem dX5_readOperand_24 : decode cX5_readOperand 24 = .ok (.iload_n 2, 1) := by decide +kernel
theorem dX5_readOperand_25 : decode cX5_readOperand 25 = .ok (.bipush 40, 2) := by decide +kernel
theorem dX5_readOperand_27 : decode cX5_readOperand 27 = .ok (.if_icmp .ne 43, 3) := by decide +kernel
theorem dX5_readOperand_30 : decode cX5_readOperand 30 = .ok (.iload_n 1, 1) := by decide +kernel
theorem dX5_readOperand_31 : decode cX5_readOperand 31 = .ok (.iconst 5, 1) := by decide +kernel
theorem dX5_readOperand_32 : decode cX5_readOperand 32 = .ok (.if_icmp .ge 36, 3) := by decide +kernel
theorem dX5_readOperand_35 : decode cX5_readOperand 35 = .ok (.iload_n 2, 1) := by decide +kernel
theorem dX5_readOperand_36 : decode cX5_readOperand 36 = .ok (.bipush 33, 2) := by decide +kernel
theorem dX5_readOperand_38 : decode cX5_readOperand 38 = .ok (.if_icmp .ne 16, 3) := by decide +kernel
theorem dX5_readOperand_41 : decode cX5_readOperand 41 = .ok (.aload_n 0, 1) := by decide +kernel
theorem dX5_readOperand_42 : decode cX5_readOperand 42 = .ok (.iload_n 1, 1) := by decide +kernel
theorem dX5_readOperand_43 : decode cX5_readOperand 43 = .ok (.iconst 1, 1) := by decide +kernel
theorem dX5_readOperand_44 : decode cX5_readOperand 44 = .ok (.iadd, 1) := by decide +kernel
theorem dX5_readOperand_45 : decode cX5_readOperand 45 = .ok (.invokevirtual 70, 3) := by decide +kernel
theorem dX5_readOperand_48 : decode cX5_readOperand 48 = .ok (.ifCond .eq 20, 3) := by decide +kernel
theorem dX5_readOperand_51 : decode cX5_readOperand 51 = .ok (.goto 13, 3) := by decide +kernel
theorem dX5_readOperand_54 : decode cX5_readOperand 54 = .ok (.aload_n 0, 1) := by decide +kernel
theorem dX5_readOperand_55 : decode cX5_readOperand 55 = .ok (.iload_n 1, 1) := by decide +kernel
theorem dX5_readOperand_56 : decode cX5_readOperand 56 = .ok (.iconst 1, 1) := by decide +kernel
theorem dX5_readOperand_57 : decode cX5_readOperand 57 = .ok (.iadd, 1) := by decide +kernel
theorem dX5_readOperand_58 : decode cX5_readOperand 58 = .ok (.invokevirtual 73, 3) := by decide +kernel
theorem dX5_readOperand_61 : decode cX5_readOperand 61 = .ok (.ifCond .eq 7, 3) := by decide +kernel
theorem dX5_readOperand_64 : decode cX5_readOperand 64 = .ok (.iconst 1, 1) := by decide +kernel
theorem dX5_readOperand_65 : decode cX5_readOperand 65 = .ok (.goto 4, 3) := by decide +kernel
theorem dX5_readOperand_68 : decode cX5_readOperand 68 = .ok (.iconst 0, 1) := by decide +kernel
theorem dX5_readOperand_69 : decode cX5_readOperand 69 = .ok (.ireturn, 1) := by decide +kernel
theorem dX5_readOperand_70 : decode cX5_readOperand 70 = .ok (.iload_n 2, 1) := by decide +kernel
theorem dX5_readOperand_71 : decode cX5_readOperand 71 = .ok (.ifCond .ge 7, 3) := by decide +kernel
theorem dX5_readOperand_74 : decode cX5_readOperand 74 = .ok (.iconst (-1), 1) := by decide +kernel
theorem dX5_readOperand_75 : decode cX5_readOperand 75 = .ok (.goto 12, 3) := by decide +kernel
theorem dX5_readOperand_78 : decode cX5_readOperand 78 = .ok (.aload_n 0, 1) := by decide +kernel
theorem dX5_readOperand_79 : decode cX5_readOperand 79 = .ok (.getfield 27, 3) := by decide +kernel
theorem dX5_readOperand_82 : decode cX5_readOperand 82 = .ok (.iload_n 2, 1) := by decide +kernel
theorem dX5_readOperand_83 : decode cX5_readOperand 83 = .ok (.i2c, 1) := by decide +kernel
theorem dX5_readOperand_84 : decode cX5_readOperand 84 = .ok (.invokevirtual 76, 3) := by decide +kernel
theorem dX5_readOperand_87 : decode cX5_readOperand 87 = .ok (.istore_n 3, 1) := by decide +kernel
theorem dX5_readOperand_88 : decode cX5_readOperand 88 = .ok (.iload_n 3, 1) := by decide +kernel
theorem dX5_readOperand_89 : decode cX5_readOperand 89 = .ok (.ifCond .ge 5, 3) := by decide +kernel
theorem dX5_readOperand_92 : decode cX5_readOperand 92 = .ok (.iconst 0, 1) := by decide +kernel
theorem dX5_readOperand_93 : decode cX5_readOperand 93 = .ok (.ireturn, 1) := by decide +kernel
theorem dX5_readOperand_94 : decode cX5_readOperand 94 = .ok (.aload_n 0, 1) := by decide +kernel
theorem dX5_readOperand_95 : decode cX5_readOperand 95 = .ok (.dup, 1) := by decide +kernel
theorem dX5_readOperand_96 : decode cX5_readOperand 96 = .ok (.getfield 18, 3) := by decide +kernel
theorem dX5_readOperand_99 : decode cX5_readOperand 99 = .ok (.iconst 1, 1) := by decide +kernel
theorem dX5_readOperand_100 : decode cX5_readOperand 100 = .ok (.iadd, 1) := by decide +kernel
theorem dX5_readOperand_101 : decode cX5_readOperand 101 = .ok (.putfield 18, 3) := by decide +kernel
theorem dX5_readOperand_104 : decode cX5_readOperand 104 = .ok (.aload_n 0, 1) := by decide +kernel
theorem dX5_readOperand_105 : decode cX5_readOperand 105 = .ok (.getfield 12, 3) := by decide +kernel
theorem dX5_readOperand_108 : decode cX5_readOperand 108 = .ok (.iconst (-1), 1) := by decide +kernel
theorem dX5_readOperand_109 : decode cX5_readOperand 109 = .ok (.iload_n 3, 1) := by decide +kernel
theorem dX5_readOperand_110 : decode cX5_readOperand 110 = .ok (.isub, 1) := by decide +kernel
theorem dX5_readOperand_111 : decode cX5_readOperand 111 = .ok (.invokevirtual 60, 3) := by decide +kernel
theorem dX5_readOperand_114 : decode cX5_readOperand 114 = .ok (.iconst 1, 1) := by decide +kernel
theorem dX5_readOperand_115 : decode cX5_readOperand 115 = .ok (.ireturn, 1) := by decide +kernel
theorem dX5_readNumber_0 : decode cX5_readNumber 0 = .ok (.iconst 0, 1) := by decide +kernel
theorem dX5_readNumber_1 : decode cX5_readNumber 1 = .ok (.istore_n 1, 1) := by decide +kernel
theorem dX5_readNumber_2 : decode cX5_readNumber 2 = .ok (.iconst 0, 1) := by decide +kernel
theorem dX5_readNumber_3 : decode cX5_readNumber 3 = .ok (.istore_n 2, 1) := by decide +kernel
theorem dX5_readNumber_4 : decode cX5_readNumber 4 = .ok (.iload_n 2, 1) := by decide +kernel
theorem dX5_readNumber_5 : decode cX5_readNumber 5 = .ok (.iconst 4, 1) := by decide +kernel
theorem dX5_readNumber_6 : decode cX5_readNumber 6 = .ok (.if_icmp .ge 42, 3) := by decide +kernel
theorem dX5_readNumber_9 : decode cX5_readNumber 9 = .ok (.aload_n 0, 1) := by decide +kernel
theorem dX5_readNumber_10 : decode cX5_readNumber 10 = .ok (.invokevirtual 52, 3) := by decide +kernel
theorem dX5_readNumber_13 : decode cX5_readNumber 13 = .ok (.invokestatic 64, 3) := by decide +kernel
theorem dX5_readNumber_16 : decode cX5_readNumber 16 = .ok (.ifCond .eq 32, 3) := by decide +kernel
theorem dX5_readNumber_19 : decode cX5_readNumber 19 = .ok (.iload_n 1, 1) := by decide +kernel
theorem dX5_readNumber_20 : decode cX5_readNumber 20 = .ok (.bipush 10, 2) := by decide +kernel
theorem dX5_readNumber_22 : decode cX5_readNumber 22 = .ok (.imul, 1) := by decide +kernel
theorem dX5_readNumber_23 : decode cX5_readNumber 23 = .ok (.aload_n 0, 1) := by decide +kernel
theorem dX5_readNumber_24 : decode cX5_readNumber 24 = .ok (.invokevirtual 52, 3) := by decide +kernel
theorem dX5_readNumber_27 : decode cX5_readNumber 27 = .ok (.iadd, 1) := by decide +kernel
theorem dX5_readNumber_28 : decode cX5_readNumber 28 = .ok (.bipush 48, 2) := by decide +kernel
theorem dX5_readNumber_30 : decode cX5_readNumber 30 = .ok (.isub, 1) := by decide +kernel
theorem dX5_readNumber_31 : decode cX5_readNumber 31 = .ok (.istore_n 1, 1) := by decide +kernel
theorem dX5_readNumber_32 : decode cX5_readNumber 32 = .ok (.aload_n 0, 1) := by decide +kernel
theorem dX5_readNumber_33 : decode cX5_readNumber 33 = .ok (.dup, 1) := by decide +kernel
theorem dX5_readNumber_34 : decode cX5_readNumber 34 = .ok (.getfield 18, 3) := by decide +kernel
theorem dX5_readNumber_37 : decode cX5_readNumber 37 = .ok (.iconst 1, 1) := by decide +kernel
theorem dX5_readNumber_38 : decode cX5_readNumber 38 = .ok (.iadd, 1) := by decide +kernel
theorem dX5_readNumber_39 : decode cX5_readNumber 39 = .ok (.putfield 18, 3) := by decide +kernel
theorem dX5_readNumber_42 : decode cX5_readNumber 42 = .ok (.iinc 2 1, 3) := by decide +kernel
theorem dX5_readNumber_45 : decode cX5_readNumber 45 = .ok (.goto (-41), 3) := by decide +kernel
theorem dX5_readNumber_48 : decode cX5_readNumber 48 = .ok (.aload_n 0, 1) := by decide +kernel
theorem dX5_readNumber_49 : decode cX5_readNumber 49 = .ok (.getfield 12, 3) := by decide +kernel
theorem dX5_readNumber_52 : decode cX5_readNumber 52 = .ok (.iload_n 1, 1) := by decide +kernel
theorem dX5_readNumber_53 : decode cX5_readNumber 53 = .ok (.invokevirtual 60, 3) := by decide +kernel
theorem dX5_readNumber_56 : decode cX5_readNumber 56 = .ok (.return_, 1) := by decide +kernel
theorem dX5_readNot_0 : decode cX5_readNot 0 = .ok (.aload_n 0, 1) := by decide +kernel
theorem dX5_readNot_1 : decode cX5_readNot 1 = .ok (.dup, 1) := by decide +kernel
theorem dX5_readNot_2 : decode cX5_readNot 2 = .ok (.getfield 18, 3) := by decide +kernel
theorem dX5_readNot_5 : decode cX5_readNot 5 = .ok (.iconst 1, 1) := by decide +kernel
theorem dX5_readNot_6 : decode cX5_readNot 6 = .ok (.iadd, 1) := by decide +kernel
theorem dX5_readNot_7 : decode cX5_readNot 7 = .ok (.putfield 18, 3) := by decide +kernel
theorem dX5_readNot_10 : decode cX5_readNot 10 = .ok (.aload_n 0, 1) := by decide +kernel
theorem dX5_readNot_11 : decode cX5_readNot 11 = .ok (.iload_n 1, 1) := by decide +kernel
theorem dX5_readNot_12 : decode cX5_readNot 12 = .ok (.invokevirtual 48, 3) := by decide +kernel
theorem dX5_readNot_15 : decode cX5_readNot 15 = .ok (.ifCond .ne 5, 3) := by decide +kernel
theorem dX5_readNot_18 : decode cX5_readNot 18 = .ok (.iconst 0, 1) := by decide +kernel
theorem dX5_readNot_19 : decode cX5_readNot 19 = .ok (.ireturn, 1) := by decide +kernel
theorem dX5_readNot_20 : decode cX5_readNot 20 = .ok (.aload_n 0, 1) := by decide +kernel
theorem dX5_readNot_21 : decode cX5_readNot 21 = .ok (.getfield 12, 3) := by decide +kernel
theorem dX5_readNot_24 : decode cX5_readNot 24 = .ok (.bipush (-33), 2) := by decide +kernel
theorem dX5_readNot_26 : decode cX5_readNot 26 = .ok (.invokevirtual 60, 3) := by decide +kernel
theorem dX5_readNot_29 : decode cX5_readNot 29 = .ok (.iconst 1, 1) := by decide +kernel
theorem dX5_readNot_30 : decode cX5_readNot 30 = .ok (.ireturn, 1) := by decide +kernel
theorem dX5_readBracket_0 : decode cX5_readBracket 0 = .ok (.aload_n 0, 1) := by decide +kernel
theorem dX5_readBracket_1 : decode cX5_readBracket 1 = .ok (.dup, 1) := by decide +kernel
theorem dX5_readBracket_2 : decode cX5_readBracket 2 = .ok (.getfield 18, 3) := by decide +kernel
theorem dX5_readBracket_5 : decode cX5_readBracket 5 = .ok (.iconst 1, 1) := by decide +kernel
theorem dX5_readBracket_6 : decode cX5_readBracket 6 = .ok (.iadd, 1) := by decide +kernel
theorem dX5_readBracket_7 : decode cX5_readBracket 7 = .ok (.putfield 18, 3) := by decide +kernel
theorem dX5_readBracket_10 : decode cX5_readBracket 10 = .ok (.aload_n 0, 1) := by decide +kernel
theorem dX5_readBracket_11 : decode cX5_readBracket 11 = .ok (.iconst 0, 1) := by decide +kernel
theorem dX5_readBracket_12 : decode cX5_readBracket 12 = .ok (.iload_n 1, 1) := by decide +kernel
theorem dX5_readBracket_13 : decode cX5_readBracket 13 = .ok (.invokevirtual 44, 3) := by decide +kernel
theorem dX5_readBracket_16 : decode cX5_readBracket 16 = .ok (.ifCond .eq 12, 3) := by decide +kernel
theorem dX5_readBracket_19 : decode cX5_readBracket 19 = .ok (.aload_n 0, 1) := by decide +kernel
theorem dX5_readBracket_20 : decode cX5_readBracket 20 = .ok (.invokevirtual 52, 3) := by decide +kernel
theorem dX5_readBracket_23 : decode cX5_readBracket 23 = .ok (.bipush 41, 2) := by decide +kernel
theorem dX5_readBracket_25 : decode cX5_readBracket 25 = .ok (.if_icmp .eq 5, 3) := by decide +kernel
theorem dX5_readBracket_28 : decode cX5_readBracket 28 = .ok (.iconst 0, 1) := by decide +kernel
theorem dX5_readBracket_29 : decode cX5_readBracket 29 = .ok (.ireturn, 1) := by decide +kernel
theorem dX5_readBracket_30 : decode cX5_readBracket 30 = .ok (.aload_n 0, 1) := by decide +kernel
theorem dX5_readBracket_31 : decode cX5_readBracket 31 = .ok (.dup, 1) := by decide +kernel
theorem dX5_readBracket_32 : decode cX5_readBracket 32 = .ok (.getfield 18, 3) := by decide +kernel
theorem dX5_readBracket_35 : decode cX5_readBracket 35 = .ok (.iconst 1, 1) := by decide +kernel
theorem dX5_readBracket_36 : decode cX5_readBracket 36 = .ok (.iadd, 1) := by decide +kernel
theorem dX5_readBracket_37 : decode cX5_readBracket 37 = .ok (.putfield 18, 3) := by decide +kernel
theorem dX5_readBracket_40 : decode cX5_readBracket 40 = .ok (.iconst 1, 1) := by decide +kernel
theorem dX5_readBracket_41 : decode cX5_readBracket 41 = .ok (.ireturn, 1) := by decide +kernel
theorem dX5_next_0 : decode cX5_next 0 = .ok (.aload_n 0, 1) := by decide +kernel
theorem dX5_next_1 : decode cX5_next 1 = .ok (.getfield 18, 3) := by decide +kernel
theorem dX5_next_4 : decode cX5_next 4 = .ok (.ifCond .lt 26, 3) := by decide +kernel
theorem dX5_next_7 : decode cX5_next 7 = .ok (.aload_n 0, 1) := by decide +kernel
theorem dX5_next_8 : decode cX5_next 8 = .ok (.getfield 18, 3) := by decide +kernel
theorem dX5_next_11 : decode cX5_next 11 = .ok (.aload_n 0, 1) := by decide +kernel
theorem dX5_next_12 : decode cX5_next 12 = .ok (.getfield 22, 3) := by decide +kernel
theorem dX5_next_15 : decode cX5_next 15 = .ok (.if_icmp .ge 15, 3) := by decide +kernel
theorem dX5_next_18 : decode cX5_next 18 = .ok (.aload_n 0, 1) := by decide +kernel
theorem dX5_next_19 : decode cX5_next 19 = .ok (.getfield 31, 3) := by decide +kernel
theorem dX5_next_22 : decode cX5_next 22 = .ok (.aload_n 0, 1) := by decide +kernel
theorem dX5_next_23 : decode cX5_next 23 = .ok (.getfield 18, 3) := by decide +kernel
theorem dX5_next_26 : decode cX5_next 26 = .ok (.iaload, 1) := by decide +kernel
theorem dX5_next_27 : decode cX5_next 27 = .ok (.goto 4, 3) := by decide +kernel
theorem dX5_next_30 : decode cX5_next 30 = .ok (.iconst (-1), 1) := by decide +kernel
theorem dX5_next_31 : decode cX5_next 31 = .ok (.ireturn, 1) := by decide +kernel
theorem dX5_isDigit_0 : decode cX5_isDigit 0 = .ok (.iload_n 0, 1) := by decide +kernel
theorem dX5_isDigit_1 : decode cX5_isDigit 1 = .ok (.bipush 48, 2) := by decide +kernel
theorem dX5_isDigit_3 : decode cX5_isDigit 3 = .ok (.if_icmp .lt 13, 3) := by decide +kernel
theorem dX5_isDigit_6 : decode cX5_isDigit 6 = .ok (.iload_n 0, 1) := by decide +kernel
theorem dX5_isDigit_7 : decode cX5_isDigit 7 = .ok (.bipush 57, 2) := by decide +kernel
theorem dX5_isDigit_9 : decode cX5_isDigit 9 = .ok (.if_icmp .gt 7, 3) := by decide +kernel
theorem dX5_isDigit_12 : decode cX5_isDigit 12 = .ok (.iconst 1, 1) := by decide +kernel
theorem dX5_isDigit_13 : decode cX5_isDigit 13 = .ok (.goto 4, 3) := by decide +kernel
theorem dX5_isDigit_16 : decode cX5_isDigit 16 = .ok (.iconst 0, 1) := by decide +kernel
theorem dX5_isDigit_17 : decode cX5_isDigit 17 = .ok (.ireturn, 1) := by decide +kernel
theorem dX5_levelOf_0 : decode cX5_levelOf 0 = .ok (.iload_n 0, 1) := by decide +kernel
theorem dX5_levelOf_1 : decode cX5_levelOf 1 = .ok (.lookupswitch 101 #[(37, 99), (38, 93), (42, 99), (43, 97), (45, 97), (47, 99), (60, 95), (61, 95), (62, 95), (124, 91)], 91) := by decide +kernel
theorem dX5_levelOf_92 : decode cX5_levelOf 92 = .ok (.iconst 0, 1) := by decide +kernel
theorem dX5_levelOf_93 : decode cX5_levelOf 93 = .ok (.ireturn, 1) := by decide +kernel
theorem dX5_levelOf_94 : decode cX5_levelOf 94 = .ok (.iconst 1, 1) := by decide +kernel
theorem dX5_levelOf_95 : decode cX5_levelOf 95 = .ok (.ireturn, 1) := by decide +kernel
theorem dX5_levelOf_96 : decode cX5_levelOf 96 = .ok (.iconst 2, 1) := by decide +kernel
theorem dX5_levelOf_97 : decode cX5_levelOf 97 = .ok (.ireturn, 1) := by decide +kernel
theorem dX5_levelOf_98 : decode cX5_levelOf 98 = .ok (.iconst 3, 1) := by decide +kernel
theorem dX5_levelOf_99 : decode cX5_levelOf 99 = .ok (.ireturn, 1) := by decide +kernel
theorem dX5_levelOf_100 : decode cX5_levelOf 100 = .ok (.iconst 4, 1) := by decide +kernel
theorem dX5_levelOf_101 : decode cX5_levelOf 101 = .ok (.ireturn, 1) := by decide +kernel
theorem dX5_levelOf_102 : decode cX5_levelOf 102 = .ok (.iconst (-1), 1) := by decide +kernel
theorem dX5_levelOf_103 : decode cX5_levelOf 103 = .ok (.ireturn, 1) := by decide +kernel
theorem dX6_init_0 : decode cX6_init 0 = .ok (.aload_n 0, 1) := by decide +kernel
theorem dX6_init_1 : decode cX6_init 1 = .ok (.invokespecial 1, 3) := by decide +kernel
theorem dX6_init_4 : decode cX6_init 4 = .ok (.return_, 1) := by decide +kernel
theorem dX6_late_0 : decode cX6_late 0 = .ok (.aload_n 0, 1) := by decide +kernel
theorem dX6_late_1 : decode cX6_late 1 = .ok (.iload_n 1, 1) := by decide +kernel
theorem dX6_late_2 : decode cX6_late 2 = .ok (.iload_n 2, 1) := by decide +kernel
theorem dX6_late_3 : decode cX6_late 3 = .ok (.invokespecial 7, 3) := by decide +kernel
theorem dX6_late_6 : decode cX6_late 6 = .ok (.iload_n 2, 1) := by decide +kernel
theorem dX6_late_7 : decode cX6_late 7 = .ok (.iadd, 1) := by decide +kernel
theorem dX6_late_8 : decode cX6_late 8 = .ok (.ireturn, 1) := by decide +kernel
theorem dX6_lasts_0 : decode cX6_lasts 0 = .ok (.aload_n 0, 1) := by decide +kernel
theorem dX6_lasts_1 : decode cX6_lasts 1 = .ok (.iload_n 1, 1) := by decide +kernel
theorem dX6_lasts_2 : decode cX6_lasts 2 = .ok (.invokespecial 11, 3) := by decide +kernel
theorem dX6_lasts_5 : decode cX6_lasts 5 = .ok (.iconst 2, 1) := by decide +kernel
theorem dX6_lasts_6 : decode cX6_lasts 6 = .ok (.idiv, 1) := by decide +kernel
theorem dX6_lasts_7 : decode cX6_lasts 7 = .ok (.ireturn, 1) := by decide +kernel
theorem dX6_tells_0 : decode cX6_tells 0 = .ok (.aload_n 1, 1) := by decide +kernel
theorem dX6_tells_1 : decode cX6_tells 1 = .ok (.bipush 50, 2) := by decide +kernel
theorem dX6_tells_3 : decode cX6_tells 3 = .ok (.invokevirtual 15, 3) := by decide +kernel
theorem dX6_tells_6 : decode cX6_tells 6 = .ok (.aload_n 0, 1) := by decide +kernel
theorem dX6_tells_7 : decode cX6_tells 7 = .ok (.aload_n 1, 1) := by decide +kernel
theorem dX6_tells_8 : decode cX6_tells 8 = .ok (.iload_n 2, 1) := by decide +kernel
theorem dX6_tells_9 : decode cX6_tells 9 = .ok (.invokespecial 21, 3) := by decide +kernel
theorem dX6_tells_12 : decode cX6_tells 12 = .ok (.aload_n 0, 1) := by decide +kernel
theorem dX6_tells_13 : decode cX6_tells 13 = .ok (.aload_n 1, 1) := by decide +kernel
theorem dX6_tells_14 : decode cX6_tells 14 = .ok (.iconst 2, 1) := by decide +kernel
theorem dX6_tells_15 : decode cX6_tells 15 = .ok (.invokevirtual 25, 3) := by decide +kernel
theorem dX6_tells_18 : decode cX6_tells 18 = .ok (.isub, 1) := by decide +kernel
theorem dX6_tells_19 : decode cX6_tells 19 = .ok (.ireturn, 1) := by decide +kernel
theorem dX7_init_0 : decode cX7_init 0 = .ok (.aload_n 0, 1) := by decide +kernel
theorem dX7_init_1 : decode cX7_init 1 = .ok (.invokespecial 1, 3) := by decide +kernel
theorem dX7_init_4 : decode cX7_init 4 = .ok (.return_, 1) := by decide +kernel
theorem dX7_late_0 : decode cX7_late 0 = .ok (.iconst 0, 1) := by decide +kernel
theorem dX7_late_1 : decode cX7_late 1 = .ok (.ireturn, 1) := by decide +kernel
theorem dX7_lasts_0 : decode cX7_lasts 0 = .ok (.sipush 9999, 3) := by decide +kernel
theorem dX7_lasts_3 : decode cX7_lasts 3 = .ok (.ireturn, 1) := by decide +kernel
theorem dX7_shuts_0 : decode cX7_shuts 0 = .ok (.aload_n 1, 1) := by decide +kernel
theorem dX7_shuts_1 : decode cX7_shuts 1 = .ok (.bipush 70, 2) := by decide +kernel
theorem dX7_shuts_3 : decode cX7_shuts 3 = .ok (.invokevirtual 7, 3) := by decide +kernel
theorem dX7_shuts_6 : decode cX7_shuts 6 = .ok (.aload_n 0, 1) := by decide +kernel
theorem dX7_shuts_7 : decode cX7_shuts 7 = .ok (.aload_n 1, 1) := by decide +kernel
theorem dX7_shuts_8 : decode cX7_shuts 8 = .ok (.iload_n 2, 1) := by decide +kernel
theorem dX7_shuts_9 : decode cX7_shuts 9 = .ok (.invokespecial 13, 3) := by decide +kernel
theorem dX7_shuts_12 : decode cX7_shuts 12 = .ok (.aload_n 1, 1) := by decide +kernel
theorem dX7_shuts_13 : decode cX7_shuts 13 = .ok (.getfield 17, 3) := by decide +kernel
theorem dX7_shuts_16 : decode cX7_shuts 16 = .ok (.ixor, 1) := by decide +kernel
theorem dX7_shuts_17 : decode cX7_shuts 17 = .ok (.ireturn, 1) := by decide +kernel
theorem dX7_tells_0 : decode cX7_tells 0 = .ok (.aload_n 1, 1) := by decide +kernel
theorem dX7_tells_1 : decode cX7_tells 1 = .ok (.bipush 71, 2) := by decide +kernel
theorem dX7_tells_3 : decode cX7_tells 3 = .ok (.invokevirtual 7, 3) := by decide +kernel
theorem dX7_tells_6 : decode cX7_tells 6 = .ok (.aload_n 0, 1) := by decide +kernel
theorem dX7_tells_7 : decode cX7_tells 7 = .ok (.aload_n 1, 1) := by decide +kernel
theorem dX7_tells_8 : decode cX7_tells 8 = .ok (.iload_n 2, 1) := by decide +kernel
theorem dX7_tells_9 : decode cX7_tells 9 = .ok (.invokevirtual 21, 3) := by decide +kernel
theorem dX7_tells_12 : decode cX7_tells 12 = .ok (.aload_n 0, 1) := by decide +kernel
theorem dX7_tells_13 : decode cX7_tells 13 = .ok (.aload_n 1, 1) := by decide +kernel
theorem dX7_tells_14 : decode cX7_tells 14 = .ok (.iload_n 2, 1) := by decide +kernel
theorem dX7_tells_15 : decode cX7_tells 15 = .ok (.invokespecial 26, 3) := by decide +kernel
theorem dX7_tells_18 : decode cX7_tells 18 = .ok (.isub, 1) := by decide +kernel
theorem dX7_tells_19 : decode cX7_tells 19 = .ok (.ireturn, 1) := by decide +kernel
theorem dX8_init_0 : decode cX8_init 0 = .ok (.aload_n 0, 1) := by decide +kernel
theorem dX8_init_1 : decode cX8_init 1 = .ok (.invokespecial 3, 3) := by decide +kernel
theorem dX8_init_4 : decode cX8_init 4 = .ok (.aload_n 0, 1) := by decide +kernel
theorem dX8_init_5 : decode cX8_init 5 = .ok (.bipush 50, 2) := by decide +kernel
theorem dX8_init_7 : decode cX8_init 7 = .ok (.newarray .int, 2) := by decide +kernel
theorem dX8_init_9 : decode cX8_init 9 = .ok (.putfield 9, 3) := by decide +kernel
theorem dX8_init_12 : decode cX8_init 12 = .ok (.aload_n 0, 1) := by decide +kernel
theorem dX8_init_13 : decode cX8_init 13 = .ok (.iconst 0, 1) := by decide +kernel
theorem dX8_init_14 : decode cX8_init 14 = .ok (.putfield 15, 3) := by decide +kernel
theorem dX8_init_17 : decode cX8_init 17 = .ok (.return_, 1) := by decide +kernel
theorem dX8_add_0 : decode cX8_add 0 = .ok (.aload_n 0, 1) := by decide +kernel
theorem dX8_add_1 : decode cX8_add 1 = .ok (.getfield 15, 3) := by decide +kernel
theorem dX8_add_4 : decode cX8_add 4 = .ok (.bipush 50, 2) := by decide +kernel
theorem dX8_add_6 : decode cX8_add 6 = .ok (.if_icmp .ge 23, 3) := by decide +kernel
theorem dX8_add_9 : decode cX8_add 9 = .ok (.aload_n 0, 1) := by decide +kernel
theorem dX8_add_10 : decode cX8_add 10 = .ok (.getfield 9, 3) := by decide +kernel
theorem dX8_add_13 : decode cX8_add 13 = .ok (.aload_n 0, 1) := by decide +kernel
theorem dX8_add_14 : decode cX8_add 14 = .ok (.getfield 15, 3) := by decide +kernel
theorem dX8_add_17 : decode cX8_add 17 = .ok (.iload_n 1, 1) := by decide +kernel
theorem dX8_add_18 : decode cX8_add 18 = .ok (.iastore, 1) := by decide +kernel
theorem dX8_add_19 : decode cX8_add 19 = .ok (.aload_n 0, 1) := by decide +kernel
theorem dX8_add_20 : decode cX8_add 20 = .ok (.dup, 1) := by decide +kernel
theorem dX8_add_21 : decode cX8_add 21 = .ok (.getfield 15, 3) := by decide +kernel
theorem dX8_add_24 : decode cX8_add 24 = .ok (.iconst 1, 1) := by decide +kernel
theorem dX8_add_25 : decode cX8_add 25 = .ok (.iadd, 1) := by decide +kernel
theorem dX8_add_26 : decode cX8_add 26 = .ok (.putfield 15, 3) := by decide +kernel
theorem dX8_add_29 : decode cX8_add 29 = .ok (.return_, 1) := by decide +kernel
theorem dX8_copyFrom_0 : decode cX8_copyFrom 0 = .ok (.aload_n 1, 1) := by decide +kernel
theorem dX8_copyFrom_1 : decode cX8_copyFrom 1 = .ok (.getfield 9, 3) := by decide +kernel
theorem dX8_copyFrom_4 : decode cX8_copyFrom 4 = .ok (.iconst 0, 1) := by decide +kernel
theorem dX8_copyFrom_5 : decode cX8_copyFrom 5 = .ok (.aload_n 0, 1) := by decide +kernel
theorem dX8_copyFrom_6 : decode cX8_copyFrom 6 = .ok (.getfield 9, 3) := by decide +kernel
theorem dX8_copyFrom_9 : decode cX8_copyFrom 9 = .ok (.iconst 0, 1) := by decide +kernel
theorem dX8_copyFrom_10 : decode cX8_copyFrom 10 = .ok (.bipush 50, 2) := by decide +kernel
theorem dX8_copyFrom_12 : decode cX8_copyFrom 12 = .ok (.invokestatic 19, 3) := by decide +kernel
theorem dX8_copyFrom_15 : decode cX8_copyFrom 15 = .ok (.aload_n 0, 1) := by decide +kernel
theorem dX8_copyFrom_16 : decode cX8_copyFrom 16 = .ok (.aload_n 1, 1) := by decide +kernel
theorem dX8_copyFrom_17 : decode cX8_copyFrom 17 = .ok (.getfield 15, 3) := by decide +kernel
theorem dX8_copyFrom_20 : decode cX8_copyFrom 20 = .ok (.putfield 15, 3) := by decide +kernel
theorem dX8_copyFrom_23 : decode cX8_copyFrom 23 = .ok (.return_, 1) := by decide +kernel
theorem dX8_workedOut_0 : decode cX8_workedOut 0 = .ok (.iconst 0, 1) := by decide +kernel
theorem dX8_workedOut_1 : decode cX8_workedOut 1 = .ok (.istore 5, 2) := by decide +kernel
theorem dX8_workedOut_3 : decode cX8_workedOut 3 = .ok (.iconst 0, 1) := by decide +kernel
theorem dX8_workedOut_4 : decode cX8_workedOut 4 = .ok (.istore 6, 2) := by decide +kernel
theorem dX8_workedOut_6 : decode cX8_workedOut 6 = .ok (.iload 6, 2) := by decide +kernel
theorem dX8_workedOut_8 : decode cX8_workedOut 8 = .ok (.aload_n 0, 1) := by decide +kernel
theorem dX8_workedOut_9 : decode cX8_workedOut 9 = .ok (.getfield 15, 3) := by decide +kernel
theorem dX8_workedOut_12 : decode cX8_workedOut 12 = .ok (.if_icmp .ge 121, 3) := by decide +kernel
theorem dX8_workedOut_15 : decode cX8_workedOut 15 = .ok (.aload_n 0, 1) := by decide +kernel
theorem dX8_workedOut_16 : decode cX8_workedOut 16 = .ok (.getfield 9, 3) := by decide +kernel
theorem dX8_workedOut_19 : decode cX8_workedOut 19 = .ok (.iload 6, 2) := by decide +kernel
theorem dX8_workedOut_21 : decode cX8_workedOut 21 = .ok (.iaload, 1) := by decide +kernel
theorem dX8_workedOut_22 : decode cX8_workedOut 22 = .ok (.istore 7, 2) := by decide +kernel
theorem dX8_workedOut_24 : decode cX8_workedOut 24 = .ok (.iload 7, 2) := by decide +kernel
theorem dX8_workedOut_26 : decode cX8_workedOut 26 = .ok (.bipush (-3), 2) := by decide +kernel
theorem dX8_workedOut_28 : decode cX8_workedOut 28 = .ok (.if_icmp .lt 29, 3) := by decide +kernel
theorem dX8_workedOut_31 : decode cX8_workedOut 31 = .ok (.iload 5, 2) := by decide +kernel
theorem dX8_workedOut_33 : decode cX8_workedOut 33 = .ok (.aload_n 1, 1) := by decide +kernel
theorem dX8_workedOut_34 : decode cX8_workedOut 34 = .ok (.arraylength, 1) := by decide +kernel
theorem dX8_workedOut_35 : decode cX8_workedOut 35 = .ok (.if_icmp .ge 92, 3) := by decide +kernel
theorem dX8_workedOut_38 : decode cX8_workedOut 38 = .ok (.aload_n 1, 1) := by decide +kernel
theorem dX8_workedOut_39 : decode cX8_workedOut 39 = .ok (.iload 5, 2) := by decide +kernel
theorem dX8_workedOut_41 : decode cX8_workedOut 41 = .ok (.iload 7, 2) := by decide +kernel
theorem dX8_workedOut_43 : decode cX8_workedOut 43 = .ok (.iload_n 2, 1) := by decide +kernel
theorem dX8_workedOut_44 : decode cX8_workedOut 44 = .ok (.iload_n 3, 1) := by decide +kernel
theorem dX8_workedOut_45 : decode cX8_workedOut 45 = .ok (.iload 4, 2) := by decide +kernel
theorem dX8_workedOut_47 : decode cX8_workedOut 47 = .ok (.invokestatic 25, 3) := by decide +kernel
theorem dX8_workedOut_50 : decode cX8_workedOut 50 = .ok (.iastore, 1) := by decide +kernel
theorem dX8_workedOut_51 : decode cX8_workedOut 51 = .ok (.iinc 5 1, 3) := by decide +kernel
theorem dX8_workedOut_54 : decode cX8_workedOut 54 = .ok (.goto 73, 3) := by decide +kernel
theorem dX8_workedOut_57 : decode cX8_workedOut 57 = .ok (.iload 7, 2) := by decide +kernel
theorem dX8_workedOut_59 : decode cX8_workedOut 59 = .ok (.bipush (-33), 2) := by decide +kernel
theorem dX8_workedOut_61 : decode cX8_workedOut 61 = .ok (.if_icmp .ne 35, 3) := by decide +kernel
theorem dX8_workedOut_64 : decode cX8_workedOut 64 = .ok (.iload 5, 2) := by decide +kernel
theorem dX8_workedOut_66 : decode cX8_workedOut 66 = .ok (.iconst 1, 1) := by decide +kernel
theorem dX8_workedOut_67 : decode cX8_workedOut 67 = .ok (.if_icmp .lt 60, 3) := by decide +kernel
theorem dX8_workedOut_70 : decode cX8_workedOut 70 = .ok (.aload_n 1, 1) := by decide +kernel
theorem dX8_workedOut_71 : decode cX8_workedOut 71 = .ok (.iload 5, 2) := by decide +kernel
theorem dX8_workedOut_73 : decode cX8_workedOut 73 = .ok (.iconst 1, 1) := by decide +kernel
theorem dX8_workedOut_74 : decode cX8_workedOut 74 = .ok (.isub, 1) := by decide +kernel
theorem dX8_workedOut_75 : decode cX8_workedOut 75 = .ok (.aload_n 1, 1) := by decide +kernel
theorem dX8_workedOut_76 : decode cX8_workedOut 76 = .ok (.iload 5, 2) := by decide +kernel
theorem dX8_workedOut_78 : decode cX8_workedOut 78 = .ok (.iconst 1, 1) := by decide +kernel
theorem dX8_workedOut_79 : decode cX8_workedOut 79 = .ok (.isub, 1) := by decide +kernel
theorem dX8_workedOut_80 : decode cX8_workedOut 80 = .ok (.iaload, 1) := by decide +kernel
theorem dX8_workedOut_81 : decode cX8_workedOut 81 = .ok (.ifCond .ne 7, 3) := by decide +kernel
theorem dX8_workedOut_84 : decode cX8_workedOut 84 = .ok (.iconst 1, 1) := by decide +kernel
theorem dX8_workedOut_85 : decode cX8_workedOut 85 = .ok (.goto 4, 3) := by decide +kernel
theorem dX8_workedOut_88 : decode cX8_workedOut 88 = .ok (.iconst 0, 1) := by decide +kernel
theorem dX8_workedOut_89 : decode cX8_workedOut 89 = .ok (.invokestatic 29, 3) := by decide +kernel
theorem dX8_workedOut_92 : decode cX8_workedOut 92 = .ok (.iastore, 1) := by decide +kernel
theorem dX8_workedOut_93 : decode cX8_workedOut 93 = .ok (.goto 34, 3) := by decide +kernel
theorem dX8_workedOut_96 : decode cX8_workedOut 96 = .ok (.iload 5, 2) := by decide +kernel
theorem dX8_workedOut_98 : decode cX8_workedOut 98 = .ok (.iconst 2, 1) := by decide +kernel
theorem dX8_workedOut_99 : decode cX8_workedOut 99 = .ok (.if_icmp .lt 28, 3) := by decide +kernel
theorem dX8_workedOut_102 : decode cX8_workedOut 102 = .ok (.iinc 5 (-1), 3) := by decide +kernel
theorem dX8_workedOut_105 : decode cX8_workedOut 105 = .ok (.aload_n 1, 1) := by decide +kernel
theorem dX8_workedOut_106 : decode cX8_workedOut 106 = .ok (.iload 5, 2) := by decide +kernel
theorem dX8_workedOut_108 : decode cX8_workedOut 108 = .ok (.iconst 1, 1) := by decide +kernel
theorem dX8_workedOut_109 : decode cX8_workedOut 109 = .ok (.isub, 1) := by decide +kernel
theorem dX8_workedOut_110 : decode cX8_workedOut 110 = .ok (.iload 7, 2) := by decide +kernel
theorem dX8_workedOut_112 : decode cX8_workedOut 112 = .ok (.ineg, 1) := by decide +kernel
theorem dX8_workedOut_113 : decode cX8_workedOut 113 = .ok (.aload_n 1, 1) := by decide +kernel
theorem dX8_workedOut_114 : decode cX8_workedOut 114 = .ok (.iload 5, 2) := by decide +kernel
theorem dX8_workedOut_116 : decode cX8_workedOut 116 = .ok (.iconst 1, 1) := by decide +kernel
theorem dX8_workedOut_117 : decode cX8_workedOut 117 = .ok (.isub, 1) := by decide +kernel
theorem dX8_workedOut_118 : decode cX8_workedOut 118 = .ok (.iaload, 1) := by decide +kernel
theorem dX8_workedOut_119 : decode cX8_workedOut 119 = .ok (.aload_n 1, 1) := by decide +kernel
theorem dX8_workedOut_120 : decode cX8_workedOut 120 = .ok (.iload 5, 2) := by decide +kernel
theorem dX8_workedOut_122 : decode cX8_workedOut 122 = .ok (.iaload, 1) := by decide +kernel
theorem dX8_workedOut_123 : decode cX8_workedOut 123 = .ok (.invokestatic 33, 3) := by decide +kernel
theorem dX8_workedOut_126 : decode cX8_workedOut 126 = .ok (.iastore, 1) := by decide +kernel
theorem dX8_workedOut_127 : decode cX8_workedOut 127 = .ok (.iinc 6 1, 3) := by decide +kernel
theorem dX8_workedOut_130 : decode cX8_workedOut 130 = .ok (.goto (-124), 3) := by decide +kernel
theorem dX8_workedOut_133 : decode cX8_workedOut 133 = .ok (.iload 5, 2) := by decide +kernel
theorem dX8_workedOut_135 : decode cX8_workedOut 135 = .ok (.ifCond .le 9, 3) := by decide +kernel
theorem dX8_workedOut_138 : decode cX8_workedOut 138 = .ok (.aload_n 1, 1) := by decide +kernel
theorem dX8_workedOut_139 : decode cX8_workedOut 139 = .ok (.iconst 0, 1) := by decide +kernel
theorem dX8_workedOut_140 : decode cX8_workedOut 140 = .ok (.iaload, 1) := by decide +kernel
theorem dX8_workedOut_141 : decode cX8_workedOut 141 = .ok (.goto 4, 3) := by decide +kernel
theorem dX8_workedOut_144 : decode cX8_workedOut 144 = .ok (.iconst 0, 1) := by decide +kernel
theorem dX8_workedOut_145 : decode cX8_workedOut 145 = .ok (.ireturn, 1) := by decide +kernel
theorem dX8_valueOf_0 : decode cX8_valueOf 0 = .ok (.iload_n 0, 1) := by decide +kernel
theorem dX8_valueOf_1 : decode cX8_valueOf 1 = .ok (.tableswitch 33 (-3) (-1) #[31, 29, 27], 27) := by decide +kernel
theorem dX8_valueOf_28 : decode cX8_valueOf 28 = .ok (.iload_n 1, 1) := by decide +kernel
theorem dX8_valueOf_29 : decode cX8_valueOf 29 = .ok (.ireturn, 1) := by decide +kernel
theorem dX8_valueOf_30 : decode cX8_valueOf 30 = .ok (.iload_n 2, 1) := by decide +kernel
theorem dX8_valueOf_31 : decode cX8_valueOf 31 = .ok (.ireturn, 1) := by decide +kernel
theorem dX8_valueOf_32 : decode cX8_valueOf 32 = .ok (.iload_n 3, 1) := by decide +kernel
theorem dX8_valueOf_33 : decode cX8_valueOf 33 = .ok (.ireturn, 1) := by decide +kernel
theorem dX8_valueOf_34 : decode cX8_valueOf 34 = .ok (.iload_n 0, 1) := by decide +kernel
theorem dX8_valueOf_35 : decode cX8_valueOf 35 = .ok (.ireturn, 1) := by decide +kernel
theorem dX8_joined_0 : decode cX8_joined 0 = .ok (.iload_n 0, 1) := by decide +kernel
theorem dX8_joined_1 : decode cX8_joined 1 = .ok (.lookupswitch 183 #[(38, 100), (42, 167), (43, 159), (45, 163), (47, 171), (60, 117), (61, 131), (62, 145), (124, 83)], 83) := by decide +kernel
theorem dX8_joined_84 : decode cX8_joined 84 = .ok (.iload_n 1, 1) := by decide +kernel
theorem dX8_joined_85 : decode cX8_joined 85 = .ok (.ifCond .ne 7, 3) := by decide +kernel
theorem dX8_joined_88 : decode cX8_joined 88 = .ok (.iload_n 2, 1) := by decide +kernel
theorem dX8_joined_89 : decode cX8_joined 89 = .ok (.ifCond .eq 7, 3) := by decide +kernel
theorem dX8_joined_92 : decode cX8_joined 92 = .ok (.iconst 1, 1) := by decide +kernel
theorem dX8_joined_93 : decode cX8_joined 93 = .ok (.goto 4, 3) := by decide +kernel
theorem dX8_joined_96 : decode cX8_joined 96 = .ok (.iconst 0, 1) := by decide +kernel
theorem dX8_joined_97 : decode cX8_joined 97 = .ok (.invokestatic 29, 3) := by decide +kernel
theorem dX8_joined_100 : decode cX8_joined 100 = .ok (.ireturn, 1) := by decide +kernel
theorem dX8_joined_101 : decode cX8_joined 101 = .ok (.iload_n 1, 1) := by decide +kernel
theorem dX8_joined_102 : decode cX8_joined 102 = .ok (.ifCond .eq 11, 3) := by decide +kernel
theorem dX8_joined_105 : decode cX8_joined 105 = .ok (.iload_n 2, 1) := by decide +kernel
theorem dX8_joined_106 : decode cX8_joined 106 = .ok (.ifCond .eq 7, 3) := by decide +kernel
theorem dX8_joined_109 : decode cX8_joined 109 = .ok (.iconst 1, 1) := by decide +kernel
theorem dX8_joined_110 : decode cX8_joined 110 = .ok (.goto 4, 3) := by decide +kernel
theorem dX8_joined_113 : decode cX8_joined 113 = .ok (.iconst 0, 1) := by decide +kernel
theorem dX8_joined_114 : decode cX8_joined 114 = .ok (.invokestatic 29, 3) := by decide +kernel
theorem dX8_joined_117 : decode cX8_joined 117 = .ok (.ireturn, 1) := by decide +kernel
theorem dX8_joined_118 : decode cX8_joined 118 = .ok (.iload_n 1, 1) := by decide +kernel
theorem dX8_joined_119 : decode cX8_joined 119 = .ok (.iload_n 2, 1) := by decide +kernel
theorem dX8_joined_120 : decode cX8_joined 120 = .ok (.if_icmp .ge 7, 3) := by decide +kernel
theorem dX8_joined_123 : decode cX8_joined 123 = .ok (.iconst 1, 1) := by decide +kernel
theorem dX8_joined_124 : decode cX8_joined 124 = .ok (.goto 4, 3) := by decide +kernel
theorem dX8_joined_127 : decode cX8_joined 127 = .ok (.iconst 0, 1) := by decide +kernel
theorem dX8_joined_128 : decode cX8_joined 128 = .ok (.invokestatic 29, 3) := by decide +kernel
theorem dX8_joined_131 : decode cX8_joined 131 = .ok (.ireturn, 1) := by decide +kernel
theorem dX8_joined_132 : decode cX8_joined 132 = .ok (.iload_n 1, 1) := by decide +kernel
theorem dX8_joined_133 : decode cX8_joined 133 = .ok (.iload_n 2, 1) := by decide +kernel
theorem dX8_joined_134 : decode cX8_joined 134 = .ok (.if_icmp .ne 7, 3) := by decide +kernel
theorem dX8_joined_137 : decode cX8_joined 137 = .ok (.iconst 1, 1) := by decide +kernel
theorem dX8_joined_138 : decode cX8_joined 138 = .ok (.goto 4, 3) := by decide +kernel
theorem dX8_joined_141 : decode cX8_joined 141 = .ok (.iconst 0, 1) := by decide +kernel
theorem dX8_joined_142 : decode cX8_joined 142 = .ok (.invokestatic 29, 3) := by decide +kernel
theorem dX8_joined_145 : decode cX8_joined 145 = .ok (.ireturn, 1) := by decide +kernel
theorem dX8_joined_146 : decode cX8_joined 146 = .ok (.iload_n 1, 1) := by decide +kernel
theorem dX8_joined_147 : decode cX8_joined 147 = .ok (.iload_n 2, 1) := by decide +kernel
theorem dX8_joined_148 : decode cX8_joined 148 = .ok (.if_icmp .le 7, 3) := by decide +kernel
theorem dX8_joined_151 : decode cX8_joined 151 = .ok (.iconst 1, 1) := by decide +kernel
theorem dX8_joined_152 : decode cX8_joined 152 = .ok (.goto 4, 3) := by decide +kernel
theorem dX8_joined_155 : decode cX8_joined 155 = .ok (.iconst 0, 1) := by decide +kernel
theorem dX8_joined_156 : decode cX8_joined 156 = .ok (.invokestatic 29, 3) := by decide +kernel
theorem dX8_joined_159 : decode cX8_joined 159 = .ok (.ireturn, 1) := by decide +kernel
theorem dX8_joined_160 : decode cX8_joined 160 = .ok (.iload_n 1, 1) := by decide +kernel
theorem dX8_joined_161 : decode cX8_joined 161 = .ok (.iload_n 2, 1) := by decide +kernel
theorem dX8_joined_162 : decode cX8_joined 162 = .ok (.iadd, 1) := by decide +kernel
theorem dX8_joined_163 : decode cX8_joined 163 = .ok (.ireturn, 1) := by decide +kernel
theorem dX8_joined_164 : decode cX8_joined 164 = .ok (.iload_n 1, 1) := by decide +kernel
theorem dX8_joined_165 : decode cX8_joined 165 = .ok (.iload_n 2, 1) := by decide +kernel
theorem dX8_joined_166 : decode cX8_joined 166 = .ok (.isub, 1) := by decide +kernel
theorem dX8_joined_167 : decode cX8_joined 167 = .ok (.ireturn, 1) := by decide +kernel
theorem dX8_joined_168 : decode cX8_joined 168 = .ok (.iload_n 1, 1) := by decide +kernel
theorem dX8_joined_169 : decode cX8_joined 169 = .ok (.iload_n 2, 1) := by decide +kernel
theorem dX8_joined_170 : decode cX8_joined 170 = .ok (.imul, 1) := by decide +kernel
theorem dX8_joined_171 : decode cX8_joined 171 = .ok (.ireturn, 1) := by decide +kernel
theorem dX8_joined_172 : decode cX8_joined 172 = .ok (.iload_n 2, 1) := by decide +kernel
theorem dX8_joined_173 : decode cX8_joined 173 = .ok (.ifCond .ne 7, 3) := by decide +kernel
theorem dX8_joined_176 : decode cX8_joined 176 = .ok (.iconst 0, 1) := by decide +kernel
theorem dX8_joined_177 : decode cX8_joined 177 = .ok (.goto 6, 3) := by decide +kernel
theorem dX8_joined_180 : decode cX8_joined 180 = .ok (.iload_n 1, 1) := by decide +kernel
theorem dX8_joined_181 : decode cX8_joined 181 = .ok (.iload_n 2, 1) := by decide +kernel
theorem dX8_joined_182 : decode cX8_joined 182 = .ok (.idiv, 1) := by decide +kernel
theorem dX8_joined_183 : decode cX8_joined 183 = .ok (.ireturn, 1) := by decide +kernel
theorem dX8_joined_184 : decode cX8_joined 184 = .ok (.iload_n 2, 1) := by decide +kernel
theorem dX8_joined_185 : decode cX8_joined 185 = .ok (.ifCond .ne 7, 3) := by decide +kernel
theorem dX8_joined_188 : decode cX8_joined 188 = .ok (.iconst 0, 1) := by decide +kernel
theorem dX8_joined_189 : decode cX8_joined 189 = .ok (.goto 6, 3) := by decide +kernel
theorem dX8_joined_192 : decode cX8_joined 192 = .ok (.iload_n 1, 1) := by decide +kernel
theorem dX8_joined_193 : decode cX8_joined 193 = .ok (.iload_n 2, 1) := by decide +kernel
theorem dX8_joined_194 : decode cX8_joined 194 = .ok (.irem, 1) := by decide +kernel
theorem dX8_joined_195 : decode cX8_joined 195 = .ok (.ireturn, 1) := by decide +kernel
theorem dX8_truth_0 : decode cX8_truth 0 = .ok (.iload_n 0, 1) := by decide +kernel
theorem dX8_truth_1 : decode cX8_truth 1 = .ok (.ifCond .eq 7, 3) := by decide +kernel
theorem dX8_truth_4 : decode cX8_truth 4 = .ok (.iconst 1, 1) := by decide +kernel
theorem dX8_truth_5 : decode cX8_truth 5 = .ok (.goto 4, 3) := by decide +kernel
theorem dX8_truth_8 : decode cX8_truth 8 = .ok (.iconst 0, 1) := by decide +kernel
theorem dX8_truth_9 : decode cX8_truth 9 = .ok (.ireturn, 1) := by decide +kernel
theorem dX9_init_0 : decode cX9_init 0 = .ok (.aload_n 0, 1) := by decide +kernel
theorem dX9_init_1 : decode cX9_init 1 = .ok (.invokespecial 3, 3) := by decide +kernel
theorem dX9_init_4 : decode cX9_init 4 = .ok (.aload_n 0, 1) := by decide +kernel
theorem dX9_init_5 : decode cX9_init 5 = .ok (.bipush 40, 2) := by decide +kernel
theorem dX9_init_7 : decode cX9_init 7 = .ok (.newarray .int, 2) := by decide +kernel
theorem dX9_init_9 : decode cX9_init 9 = .ok (.putfield 9, 3) := by decide +kernel
theorem dX9_init_12 : decode cX9_init 12 = .ok (.aload_n 0, 1) := by decide +kernel
theorem dX9_init_13 : decode cX9_init 13 = .ok (.iconst 0, 1) := by decide +kernel
theorem dX9_init_14 : decode cX9_init 14 = .ok (.putfield 15, 3) := by decide +kernel
theorem dX9_init_17 : decode cX9_init 17 = .ok (.aload_n 0, 1) := by decide +kernel
theorem dX9_init_18 : decode cX9_init 18 = .ok (.iconst 0, 1) := by decide +kernel
theorem dX9_init_19 : decode cX9_init 19 = .ok (.putfield 19, 3) := by decide +kernel
theorem dX9_init_22 : decode cX9_init 22 = .ok (.aload_n 0, 1) := by decide +kernel
theorem dX9_init_23 : decode cX9_init 23 = .ok (.iconst 0, 1) := by decide +kernel
theorem dX9_init_24 : decode cX9_init 24 = .ok (.putfield 22, 3) := by decide +kernel
theorem dX9_init_27 : decode cX9_init 27 = .ok (.return_, 1) := by decide +kernel
theorem dX9_begin_0 : decode cX9_begin 0 = .ok (.aload_n 0, 1) := by decide +kernel
theorem dX9_begin_1 : decode cX9_begin 1 = .ok (.iconst 0, 1) := by decide +kernel
theorem dX9_begin_2 : decode cX9_begin 2 = .ok (.putfield 15, 3) := by decide +kernel
theorem dX9_begin_5 : decode cX9_begin 5 = .ok (.aload_n 0, 1) := by decide +kernel
theorem dX9_begin_6 : decode cX9_begin 6 = .ok (.iload_n 1, 1) := by decide +kernel
theorem dX9_begin_7 : decode cX9_begin 7 = .ok (.putfield 19, 3) := by decide +kernel
theorem dX9_begin_10 : decode cX9_begin 10 = .ok (.aload_n 0, 1) := by decide +kernel
theorem dX9_begin_11 : decode cX9_begin 11 = .ok (.iload_n 2, 1) := by decide +kernel
theorem dX9_begin_12 : decode cX9_begin 12 = .ok (.putfield 22, 3) := by decide +kernel
theorem dX9_begin_15 : decode cX9_begin 15 = .ok (.return_, 1) := by decide +kernel
theorem dX9_add_0 : decode cX9_add 0 = .ok (.aload_n 0, 1) := by decide +kernel
theorem dX9_add_1 : decode cX9_add 1 = .ok (.getfield 15, 3) := by decide +kernel
theorem dX9_add_4 : decode cX9_add 4 = .ok (.bipush 40, 2) := by decide +kernel
theorem dX9_add_6 : decode cX9_add 6 = .ok (.if_icmp .ge 23, 3) := by decide +kernel
theorem dX9_add_9 : decode cX9_add 9 = .ok (.aload_n 0, 1) := by decide +kernel
theorem dX9_add_10 : decode cX9_add 10 = .ok (.getfield 9, 3) := by decide +kernel
theorem dX9_add_13 : decode cX9_add 13 = .ok (.aload_n 0, 1) := by decide +kernel
theorem dX9_add_14 : decode cX9_add 14 = .ok (.getfield 15, 3) := by decide +kernel
theorem dX9_add_17 : decode cX9_add 17 = .ok (.iload_n 1, 1) := by decide +kernel
theorem dX9_add_18 : decode cX9_add 18 = .ok (.iastore, 1) := by decide +kernel
theorem dX9_add_19 : decode cX9_add 19 = .ok (.aload_n 0, 1) := by decide +kernel
theorem dX9_add_20 : decode cX9_add 20 = .ok (.dup, 1) := by decide +kernel
theorem dX9_add_21 : decode cX9_add 21 = .ok (.getfield 15, 3) := by decide +kernel
theorem dX9_add_24 : decode cX9_add 24 = .ok (.iconst 1, 1) := by decide +kernel
theorem dX9_add_25 : decode cX9_add 25 = .ok (.iadd, 1) := by decide +kernel
theorem dX9_add_26 : decode cX9_add 26 = .ok (.putfield 15, 3) := by decide +kernel
theorem dX9_add_29 : decode cX9_add 29 = .ok (.return_, 1) := by decide +kernel
theorem dX10_init_0 : decode cX10_init 0 = .ok (.aload_n 0, 1) := by decide +kernel
theorem dX10_init_1 : decode cX10_init 1 = .ok (.invokespecial 1, 3) := by decide +kernel
theorem dX10_init_4 : decode cX10_init 4 = .ok (.return_, 1) := by decide +kernel
theorem dX10_late_0 : decode cX10_late 0 = .ok (.iload_n 1, 1) := by decide +kernel
theorem dX10_late_1 : decode cX10_late 1 = .ok (.ireturn, 1) := by decide +kernel
theorem dX10_lasts_0 : decode cX10_lasts 0 = .ok (.iload_n 1, 1) := by decide +kernel
theorem dX10_lasts_1 : decode cX10_lasts 1 = .ok (.ireturn, 1) := by decide +kernel
theorem dX10_sends_0 : decode cX10_sends 0 = .ok (.aload_n 1, 1) := by decide +kernel
theorem dX10_sends_1 : decode cX10_sends 1 = .ok (.bipush 10, 2) := by decide +kernel
theorem dX10_sends_3 : decode cX10_sends 3 = .ok (.invokevirtual 7, 3) := by decide +kernel
theorem dX10_sends_6 : decode cX10_sends 6 = .ok (.iload_n 2, 1) := by decide +kernel
theorem dX10_sends_7 : decode cX10_sends 7 = .ok (.aload_n 1, 1) := by decide +kernel
theorem dX10_sends_8 : decode cX10_sends 8 = .ok (.getfield 13, 3) := by decide +kernel
theorem dX10_sends_11 : decode cX10_sends 11 = .ok (.iadd, 1) := by decide +kernel
theorem dX10_sends_12 : decode cX10_sends 12 = .ok (.ireturn, 1) := by decide +kernel
theorem dX10_holds_0 : decode cX10_holds 0 = .ok (.aload_n 1, 1) := by decide +kernel
theorem dX10_holds_1 : decode cX10_holds 1 = .ok (.bipush 11, 2) := by decide +kernel
theorem dX10_holds_3 : decode cX10_holds 3 = .ok (.invokevirtual 7, 3) := by decide +kernel
theorem dX10_holds_6 : decode cX10_holds 6 = .ok (.aload_n 0, 1) := by decide +kernel
theorem dX10_holds_7 : decode cX10_holds 7 = .ok (.aload_n 1, 1) := by decide +kernel
theorem dX10_holds_8 : decode cX10_holds 8 = .ok (.iload_n 2, 1) := by decide +kernel
theorem dX10_holds_9 : decode cX10_holds 9 = .ok (.invokevirtual 17, 3) := by decide +kernel
theorem dX10_holds_12 : decode cX10_holds 12 = .ok (.iconst 2, 1) := by decide +kernel
theorem dX10_holds_13 : decode cX10_holds 13 = .ok (.imul, 1) := by decide +kernel
theorem dX10_holds_14 : decode cX10_holds 14 = .ok (.ireturn, 1) := by decide +kernel
theorem dX10_shuts_0 : decode cX10_shuts 0 = .ok (.aload_n 1, 1) := by decide +kernel
theorem dX10_shuts_1 : decode cX10_shuts 1 = .ok (.bipush 12, 2) := by decide +kernel
theorem dX10_shuts_3 : decode cX10_shuts 3 = .ok (.invokevirtual 7, 3) := by decide +kernel
theorem dX10_shuts_6 : decode cX10_shuts 6 = .ok (.iload_n 2, 1) := by decide +kernel
theorem dX10_shuts_7 : decode cX10_shuts 7 = .ok (.aload_n 1, 1) := by decide +kernel
theorem dX10_shuts_8 : decode cX10_shuts 8 = .ok (.getfield 23, 3) := by decide +kernel
theorem dX10_shuts_11 : decode cX10_shuts 11 = .ok (.isub, 1) := by decide +kernel
theorem dX10_shuts_12 : decode cX10_shuts 12 = .ok (.ireturn, 1) := by decide +kernel
theorem dX10_tells_0 : decode cX10_tells 0 = .ok (.aload_n 1, 1) := by decide +kernel
theorem dX10_tells_1 : decode cX10_tells 1 = .ok (.bipush 13, 2) := by decide +kernel
theorem dX10_tells_3 : decode cX10_tells 3 = .ok (.invokevirtual 7, 3) := by decide +kernel
theorem dX10_tells_6 : decode cX10_tells 6 = .ok (.aload_n 0, 1) := by decide +kernel
theorem dX10_tells_7 : decode cX10_tells 7 = .ok (.aload_n 1, 1) := by decide +kernel
theorem dX10_tells_8 : decode cX10_tells 8 = .ok (.iload_n 2, 1) := by decide +kernel
theorem dX10_tells_9 : decode cX10_tells 9 = .ok (.invokevirtual 26, 3) := by decide +kernel
theorem dX10_tells_12 : decode cX10_tells 12 = .ok (.aload_n 0, 1) := by decide +kernel
theorem dX10_tells_13 : decode cX10_tells 13 = .ok (.aload_n 1, 1) := by decide +kernel
theorem dX10_tells_14 : decode cX10_tells 14 = .ok (.iload_n 2, 1) := by decide +kernel
theorem dX10_tells_15 : decode cX10_tells 15 = .ok (.invokevirtual 29, 3) := by decide +kernel
theorem dX10_tells_18 : decode cX10_tells 18 = .ok (.ixor, 1) := by decide +kernel
theorem dX10_tells_19 : decode cX10_tells 19 = .ok (.ireturn, 1) := by decide +kernel
theorem dJ0_length_8abf5_0 : decode cJ0_length_8abf5 0 = .ok (.aload_n 0, 1) := by decide +kernel
theorem dJ0_length_8abf5_1 : decode cJ0_length_8abf5 1 = .ok (.getfield 9, 3) := by decide +kernel
theorem dJ0_length_8abf5_4 : decode cJ0_length_8abf5 4 = .ok (.arraylength, 1) := by decide +kernel
theorem dJ0_length_8abf5_5 : decode cJ0_length_8abf5 5 = .ok (.aload_n 0, 1) := by decide +kernel
theorem dJ0_length_8abf5_6 : decode cJ0_length_8abf5 6 = .ok (.invokevirtual 335, 3) := by decide +kernel
theorem dJ0_length_8abf5_9 : decode cJ0_length_8abf5 9 = .ok (.ishr, 1) := by decide +kernel
theorem dJ0_length_8abf5_10 : decode cJ0_length_8abf5 10 = .ok (.ireturn, 1) := by decide +kernel
theorem dJ0_indexOf_0f7a4_0 : decode cJ0_indexOf_0f7a4 0 = .ok (.aload_n 0, 1) := by decide +kernel
theorem dJ0_indexOf_0f7a4_1 : decode cJ0_indexOf_0f7a4 1 = .ok (.iload_n 1, 1) := by decide +kernel
theorem dJ0_indexOf_0f7a4_2 : decode cJ0_indexOf_0f7a4 2 = .ok (.iconst 0, 1) := by decide +kernel
theorem dJ0_indexOf_0f7a4_3 : decode cJ0_indexOf_0f7a4 3 = .ok (.invokevirtual 633, 3) := by decide +kernel
theorem dJ0_indexOf_0f7a4_6 : decode cJ0_indexOf_0f7a4 6 = .ok (.ireturn, 1) := by decide +kernel
theorem dJ0_indexOf_7cf53_0 : decode cJ0_indexOf_7cf53 0 = .ok (.aload_n 0, 1) := by decide +kernel
theorem dJ0_indexOf_7cf53_1 : decode cJ0_indexOf_7cf53 1 = .ok (.invokevirtual 492, 3) := by decide +kernel
theorem dJ0_indexOf_7cf53_4 : decode cJ0_indexOf_7cf53 4 = .ok (.ifCond .eq 19, 3) := by decide +kernel
theorem dJ0_indexOf_7cf53_7 : decode cJ0_indexOf_7cf53 7 = .ok (.aload_n 0, 1) := by decide +kernel
theorem dJ0_indexOf_7cf53_8 : decode cJ0_indexOf_7cf53 8 = .ok (.getfield 9, 3) := by decide +kernel
theorem dJ0_indexOf_7cf53_11 : decode cJ0_indexOf_7cf53 11 = .ok (.iload_n 1, 1) := by decide +kernel
theorem dJ0_indexOf_7cf53_12 : decode cJ0_indexOf_7cf53 12 = .ok (.iload_n 2, 1) := by decide +kernel
theorem dJ0_indexOf_7cf53_13 : decode cJ0_indexOf_7cf53 13 = .ok (.aload_n 0, 1) := by decide +kernel
theorem dJ0_indexOf_7cf53_14 : decode cJ0_indexOf_7cf53 14 = .ok (.invokevirtual 505, 3) := by decide +kernel
theorem dJ0_indexOf_7cf53_17 : decode cJ0_indexOf_7cf53 17 = .ok (.invokestatic 637, 3) := by decide +kernel
theorem dJ0_indexOf_7cf53_20 : decode cJ0_indexOf_7cf53 20 = .ok (.goto 16, 3) := by decide +kernel
theorem dJ0_indexOf_7cf53_23 : decode cJ0_indexOf_7cf53 23 = .ok (.aload_n 0, 1) := by decide +kernel
theorem dJ0_indexOf_7cf53_24 : decode cJ0_indexOf_7cf53 24 = .ok (.getfield 9, 3) := by decide +kernel
theorem dJ0_indexOf_7cf53_27 : decode cJ0_indexOf_7cf53 27 = .ok (.iload_n 1, 1) := by decide +kernel
theorem dJ0_indexOf_7cf53_28 : decode cJ0_indexOf_7cf53 28 = .ok (.iload_n 2, 1) := by decide +kernel
theorem dJ0_indexOf_7cf53_29 : decode cJ0_indexOf_7cf53 29 = .ok (.aload_n 0, 1) := by decide +kernel
theorem dJ0_indexOf_7cf53_30 : decode cJ0_indexOf_7cf53 30 = .ok (.invokevirtual 505, 3) := by decide +kernel
theorem dJ0_indexOf_7cf53_33 : decode cJ0_indexOf_7cf53 33 = .ok (.invokestatic 640, 3) := by decide +kernel
theorem dJ0_indexOf_7cf53_36 : decode cJ0_indexOf_7cf53 36 = .ok (.ireturn, 1) := by decide +kernel
theorem dJ0_coder_7d493_0 : decode cJ0_coder_7d493 0 = .ok (.getstatic 38, 3) := by decide +kernel
theorem dJ0_coder_7d493_3 : decode cJ0_coder_7d493 3 = .ok (.ifCond .eq 10, 3) := by decide +kernel
theorem dJ0_coder_7d493_6 : decode cJ0_coder_7d493 6 = .ok (.aload_n 0, 1) := by decide +kernel
theorem dJ0_coder_7d493_7 : decode cJ0_coder_7d493 7 = .ok (.getfield 15, 3) := by decide +kernel
theorem dJ0_coder_7d493_10 : decode cJ0_coder_7d493 10 = .ok (.goto 4, 3) := by decide +kernel
theorem dJ0_coder_7d493_13 : decode cJ0_coder_7d493 13 = .ok (.iconst 1, 1) := by decide +kernel
theorem dJ0_coder_7d493_14 : decode cJ0_coder_7d493 14 = .ok (.ireturn, 1) := by decide +kernel
theorem dJ0_isLatin1_aae02_0 : decode cJ0_isLatin1_aae02 0 = .ok (.getstatic 38, 3) := by decide +kernel
theorem dJ0_isLatin1_aae02_3 : decode cJ0_isLatin1_aae02 3 = .ok (.ifCond .eq 14, 3) := by decide +kernel
theorem dJ0_isLatin1_aae02_6 : decode cJ0_isLatin1_aae02 6 = .ok (.aload_n 0, 1) := by decide +kernel
theorem dJ0_isLatin1_aae02_7 : decode cJ0_isLatin1_aae02 7 = .ok (.getfield 15, 3) := by decide +kernel
theorem dJ0_isLatin1_aae02_10 : decode cJ0_isLatin1_aae02 10 = .ok (.ifCond .ne 7, 3) := by decide +kernel
theorem dJ0_isLatin1_aae02_13 : decode cJ0_isLatin1_aae02 13 = .ok (.iconst 1, 1) := by decide +kernel
theorem dJ0_isLatin1_aae02_14 : decode cJ0_isLatin1_aae02 14 = .ok (.goto 4, 3) := by decide +kernel
theorem dJ0_isLatin1_aae02_17 : decode cJ0_isLatin1_aae02 17 = .ok (.iconst 0, 1) := by decide +kernel
theorem dJ0_isLatin1_aae02_18 : decode cJ0_isLatin1_aae02 18 = .ok (.ireturn, 1) := by decide +kernel
theorem dJ0_checkBoundsBeginEnd_23922_0 : decode cJ0_checkBoundsBeginEnd_23922 0 = .ok (.iload_n 0, 1) := by decide +kernel
theorem dJ0_checkBoundsBeginEnd_23922_1 : decode cJ0_checkBoundsBeginEnd_23922 1 = .ok (.iload_n 1, 1) := by decide +kernel
theorem dJ0_checkBoundsBeginEnd_23922_2 : decode cJ0_checkBoundsBeginEnd_23922 2 = .ok (.iload_n 2, 1) := by decide +kernel
theorem dJ0_checkBoundsBeginEnd_23922_3 : decode cJ0_checkBoundsBeginEnd_23922 3 = .ok (.getstatic 1053, 3) := by decide +kernel
theorem dJ0_checkBoundsBeginEnd_23922_6 : decode cJ0_checkBoundsBeginEnd_23922 6 = .ok (.invokestatic 1062, 3) := by decide +kernel
theorem dJ0_checkBoundsBeginEnd_23922_9 : decode cJ0_checkBoundsBeginEnd_23922 9 = .ok (.pop, 1) := by decide +kernel
theorem dJ0_checkBoundsBeginEnd_23922_10 : decode cJ0_checkBoundsBeginEnd_23922 10 = .ok (.return_, 1) := by decide +kernel
theorem dJ1_canEncode_9a6ad_0 : decode cJ1_canEncode_9a6ad 0 = .ok (.iload_n 0, 1) := by decide +kernel
theorem dJ1_canEncode_9a6ad_1 : decode cJ1_canEncode_9a6ad 1 = .ok (.ifCond .lt 14, 3) := by decide +kernel
theorem dJ1_canEncode_9a6ad_4 : decode cJ1_canEncode_9a6ad 4 = .ok (.iload_n 0, 1) := by decide +kernel
theorem dJ1_canEncode_9a6ad_5 : decode cJ1_canEncode_9a6ad 5 = .ok (.sipush 255, 3) := by decide +kernel
theorem dJ1_canEncode_9a6ad_8 : decode cJ1_canEncode_9a6ad 8 = .ok (.if_icmp .gt 7, 3) := by decide +kernel
theorem dJ1_canEncode_9a6ad_11 : decode cJ1_canEncode_9a6ad 11 = .ok (.iconst 1, 1) := by decide +kernel
theorem dJ1_canEncode_9a6ad_12 : decode cJ1_canEncode_9a6ad 12 = .ok (.goto 4, 3) := by decide +kernel
theorem dJ1_canEncode_9a6ad_15 : decode cJ1_canEncode_9a6ad 15 = .ok (.iconst 0, 1) := by decide +kernel
theorem dJ1_canEncode_9a6ad_16 : decode cJ1_canEncode_9a6ad 16 = .ok (.ireturn, 1) := by decide +kernel
theorem dJ1_indexOf_4cfef_0 : decode cJ1_indexOf_4cfef 0 = .ok (.iload_n 1, 1) := by decide +kernel
theorem dJ1_indexOf_4cfef_1 : decode cJ1_indexOf_4cfef 1 = .ok (.invokestatic 88, 3) := by decide +kernel
theorem dJ1_indexOf_4cfef_4 : decode cJ1_indexOf_4cfef 4 = .ok (.ifCond .ne 5, 3) := by decide +kernel
theorem dJ1_indexOf_4cfef_7 : decode cJ1_indexOf_4cfef 7 = .ok (.iconst (-1), 1) := by decide +kernel
theorem dJ1_indexOf_4cfef_8 : decode cJ1_indexOf_4cfef 8 = .ok (.ireturn, 1) := by decide +kernel
theorem dJ1_indexOf_4cfef_9 : decode cJ1_indexOf_4cfef 9 = .ok (.iload_n 2, 1) := by decide +kernel
theorem dJ1_indexOf_4cfef_10 : decode cJ1_indexOf_4cfef 10 = .ok (.iconst 0, 1) := by decide +kernel
theorem dJ1_indexOf_4cfef_11 : decode cJ1_indexOf_4cfef 11 = .ok (.invokestatic 92, 3) := by decide +kernel
theorem dJ1_indexOf_4cfef_14 : decode cJ1_indexOf_4cfef 14 = .ok (.istore_n 2, 1) := by decide +kernel
theorem dJ1_indexOf_4cfef_15 : decode cJ1_indexOf_4cfef 15 = .ok (.iload_n 3, 1) := by decide +kernel
theorem dJ1_indexOf_4cfef_16 : decode cJ1_indexOf_4cfef 16 = .ok (.aload_n 0, 1) := by decide +kernel
theorem dJ1_indexOf_4cfef_17 : decode cJ1_indexOf_4cfef 17 = .ok (.arraylength, 1) := by decide +kernel
theorem dJ1_indexOf_4cfef_18 : decode cJ1_indexOf_4cfef 18 = .ok (.invokestatic 38, 3) := by decide +kernel
theorem dJ1_indexOf_4cfef_21 : decode cJ1_indexOf_4cfef 21 = .ok (.istore_n 3, 1) := by decide +kernel
theorem dJ1_indexOf_4cfef_22 : decode cJ1_indexOf_4cfef 22 = .ok (.iload_n 2, 1) := by decide +kernel
theorem dJ1_indexOf_4cfef_23 : decode cJ1_indexOf_4cfef 23 = .ok (.iload_n 3, 1) := by decide +kernel
theorem dJ1_indexOf_4cfef_24 : decode cJ1_indexOf_4cfef 24 = .ok (.if_icmp .lt 5, 3) := by decide +kernel
theorem dJ1_indexOf_4cfef_27 : decode cJ1_indexOf_4cfef 27 = .ok (.iconst (-1), 1) := by decide +kernel
theorem dJ1_indexOf_4cfef_28 : decode cJ1_indexOf_4cfef 28 = .ok (.ireturn, 1) := by decide +kernel
theorem dJ1_indexOf_4cfef_29 : decode cJ1_indexOf_4cfef 29 = .ok (.aload_n 0, 1) := by decide +kernel
theorem dJ1_indexOf_4cfef_30 : decode cJ1_indexOf_4cfef 30 = .ok (.iload_n 1, 1) := by decide +kernel
theorem dJ1_indexOf_4cfef_31 : decode cJ1_indexOf_4cfef 31 = .ok (.iload_n 2, 1) := by decide +kernel
theorem dJ1_indexOf_4cfef_32 : decode cJ1_indexOf_4cfef 32 = .ok (.iload_n 3, 1) := by decide +kernel
theorem dJ1_indexOf_4cfef_33 : decode cJ1_indexOf_4cfef 33 = .ok (.invokestatic 95, 3) := by decide +kernel
theorem dJ1_indexOf_4cfef_36 : decode cJ1_indexOf_4cfef 36 = .ok (.ireturn, 1) := by decide +kernel
theorem dJ1_indexOfChar_4cfef_0 : decode cJ1_indexOfChar_4cfef 0 = .ok (.iload_n 1, 1) := by decide +kernel
theorem dJ1_indexOfChar_4cfef_1 : decode cJ1_indexOfChar_4cfef 1 = .ok (.i2b, 1) := by decide +kernel
theorem dJ1_indexOfChar_4cfef_2 : decode cJ1_indexOfChar_4cfef 2 = .ok (.istore 4, 2) := by decide +kernel
theorem dJ1_indexOfChar_4cfef_4 : decode cJ1_indexOfChar_4cfef 4 = .ok (.iload_n 2, 1) := by decide +kernel
theorem dJ1_indexOfChar_4cfef_5 : decode cJ1_indexOfChar_4cfef 5 = .ok (.istore 5, 2) := by decide +kernel
theorem dJ1_indexOfChar_4cfef_7 : decode cJ1_indexOfChar_4cfef 7 = .ok (.iload 5, 2) := by decide +kernel
theorem dJ1_indexOfChar_4cfef_9 : decode cJ1_indexOfChar_4cfef 9 = .ok (.iload_n 3, 1) := by decide +kernel
theorem dJ1_indexOfChar_4cfef_10 : decode cJ1_indexOfChar_4cfef 10 = .ok (.if_icmp .ge 21, 3) := by decide +kernel
theorem dJ1_indexOfChar_4cfef_13 : decode cJ1_indexOfChar_4cfef 13 = .ok (.aload_n 0, 1) := by decide +kernel
theorem dJ1_indexOfChar_4cfef_14 : decode cJ1_indexOfChar_4cfef 14 = .ok (.iload 5, 2) := by decide +kernel
theorem dJ1_indexOfChar_4cfef_16 : decode cJ1_indexOfChar_4cfef 16 = .ok (.baload, 1) := by decide +kernel
theorem dJ1_indexOfChar_4cfef_17 : decode cJ1_indexOfChar_4cfef 17 = .ok (.iload 4, 2) := by decide +kernel
theorem dJ1_indexOfChar_4cfef_19 : decode cJ1_indexOfChar_4cfef 19 = .ok (.if_icmp .ne 6, 3) := by decide +kernel
theorem dJ1_indexOfChar_4cfef_22 : decode cJ1_indexOfChar_4cfef 22 = .ok (.iload 5, 2) := by decide +kernel
theorem dJ1_indexOfChar_4cfef_24 : decode cJ1_indexOfChar_4cfef 24 = .ok (.ireturn, 1) := by decide +kernel
theorem dJ1_indexOfChar_4cfef_25 : decode cJ1_indexOfChar_4cfef 25 = .ok (.iinc 5 1, 3) := by decide +kernel
theorem dJ1_indexOfChar_4cfef_28 : decode cJ1_indexOfChar_4cfef 28 = .ok (.goto (-21), 3) := by decide +kernel
theorem dJ1_indexOfChar_4cfef_31 : decode cJ1_indexOfChar_4cfef 31 = .ok (.iconst (-1), 1) := by decide +kernel
theorem dJ1_indexOfChar_4cfef_32 : decode cJ1_indexOfChar_4cfef 32 = .ok (.ireturn, 1) := by decide +kernel
theorem dJ2_getChar_3b067_0 : decode cJ2_getChar_3b067 0 = .ok (.getstatic 44, 3) := by decide +kernel
theorem dJ2_getChar_3b067_3 : decode cJ2_getChar_3b067 3 = .ok (.ifCond .ne 25, 3) := by decide +kernel
theorem dJ2_getChar_3b067_6 : decode cJ2_getChar_3b067 6 = .ok (.iload_n 1, 1) := by decide +kernel
theorem dJ2_getChar_3b067_7 : decode cJ2_getChar_3b067 7 = .ok (.ifCond .lt 11, 3) := by decide +kernel
theorem dJ2_getChar_3b067_10 : decode cJ2_getChar_3b067 10 = .ok (.iload_n 1, 1) := by decide +kernel
theorem dJ2_getChar_3b067_11 : decode cJ2_getChar_3b067 11 = .ok (.aload_n 0, 1) := by decide +kernel
theorem dJ2_getChar_3b067_12 : decode cJ2_getChar_3b067 12 = .ok (.invokestatic 48, 3) := by decide +kernel
theorem dJ2_getChar_3b067_15 : decode cJ2_getChar_3b067 15 = .ok (.if_icmp .lt 13, 3) := by decide +kernel
theorem dJ2_getChar_3b067_18 : decode cJ2_getChar_3b067 18 = .ok (.new 52, 3) := by decide +kernel
theorem dJ2_getChar_3b067_21 : decode cJ2_getChar_3b067 21 = .ok (.dup, 1) := by decide +kernel
theorem dJ2_getChar_3b067_22 : decode cJ2_getChar_3b067 22 = .ok (.ldc 54, 2) := by decide +kernel
theorem dJ2_getChar_3b067_24 : decode cJ2_getChar_3b067 24 = .ok (.invokespecial 56, 3) := by decide +kernel
theorem dJ2_getChar_3b067_27 : decode cJ2_getChar_3b067 27 = .ok (.athrow, 1) := by decide +kernel
theorem dJ2_getChar_3b067_28 : decode cJ2_getChar_3b067 28 = .ok (.iload_n 1, 1) := by decide +kernel
theorem dJ2_getChar_3b067_29 : decode cJ2_getChar_3b067 29 = .ok (.iconst 1, 1) := by decide +kernel
theorem dJ2_getChar_3b067_30 : decode cJ2_getChar_3b067 30 = .ok (.ishl, 1) := by decide +kernel
theorem dJ2_getChar_3b067_31 : decode cJ2_getChar_3b067 31 = .ok (.istore_n 1, 1) := by decide +kernel
theorem dJ2_getChar_3b067_32 : decode cJ2_getChar_3b067 32 = .ok (.aload_n 0, 1) := by decide +kernel
theorem dJ2_getChar_3b067_33 : decode cJ2_getChar_3b067 33 = .ok (.iload_n 1, 1) := by decide +kernel
theorem dJ2_getChar_3b067_34 : decode cJ2_getChar_3b067 34 = .ok (.iinc 1 1, 3) := by decide +kernel
theorem dJ2_getChar_3b067_37 : decode cJ2_getChar_3b067 37 = .ok (.baload, 1) := by decide +kernel
theorem dJ2_getChar_3b067_38 : decode cJ2_getChar_3b067 38 = .ok (.sipush 255, 3) := by decide +kernel
theorem dJ2_getChar_3b067_41 : decode cJ2_getChar_3b067 41 = .ok (.iand, 1) := by decide +kernel
theorem dJ2_getChar_3b067_42 : decode cJ2_getChar_3b067 42 = .ok (.getstatic 59, 3) := by decide +kernel
theorem dJ2_getChar_3b067_45 : decode cJ2_getChar_3b067 45 = .ok (.ishl, 1) := by decide +kernel
theorem dJ2_getChar_3b067_46 : decode cJ2_getChar_3b067 46 = .ok (.aload_n 0, 1) := by decide +kernel
theorem dJ2_getChar_3b067_47 : decode cJ2_getChar_3b067 47 = .ok (.iload_n 1, 1) := by decide +kernel
theorem dJ2_getChar_3b067_48 : decode cJ2_getChar_3b067 48 = .ok (.baload, 1) := by decide +kernel
theorem dJ2_getChar_3b067_49 : decode cJ2_getChar_3b067 49 = .ok (.sipush 255, 3) := by decide +kernel
theorem dJ2_getChar_3b067_52 : decode cJ2_getChar_3b067 52 = .ok (.iand, 1) := by decide +kernel
theorem dJ2_getChar_3b067_53 : decode cJ2_getChar_3b067 53 = .ok (.getstatic 63, 3) := by decide +kernel
theorem dJ2_getChar_3b067_56 : decode cJ2_getChar_3b067 56 = .ok (.ishl, 1) := by decide +kernel
theorem dJ2_getChar_3b067_57 : decode cJ2_getChar_3b067 57 = .ok (.ior, 1) := by decide +kernel
theorem dJ2_getChar_3b067_58 : decode cJ2_getChar_3b067 58 = .ok (.i2c, 1) := by decide +kernel
theorem dJ2_getChar_3b067_59 : decode cJ2_getChar_3b067 59 = .ok (.ireturn, 1) := by decide +kernel
theorem dJ2_length_9d52b_0 : decode cJ2_length_9d52b 0 = .ok (.aload_n 0, 1) := by decide +kernel
theorem dJ2_length_9d52b_1 : decode cJ2_length_9d52b 1 = .ok (.arraylength, 1) := by decide +kernel
theorem dJ2_length_9d52b_2 : decode cJ2_length_9d52b 2 = .ok (.iconst 1, 1) := by decide +kernel
theorem dJ2_length_9d52b_3 : decode cJ2_length_9d52b 3 = .ok (.ishr, 1) := by decide +kernel
theorem dJ2_length_9d52b_4 : decode cJ2_length_9d52b 4 = .ok (.ireturn, 1) := by decide +kernel
theorem dJ2_indexOf_4cfef_0 : decode cJ2_indexOf_4cfef 0 = .ok (.iload_n 2, 1) := by decide +kernel
theorem dJ2_indexOf_4cfef_1 : decode cJ2_indexOf_4cfef 1 = .ok (.iconst 0, 1) := by decide +kernel
theorem dJ2_indexOf_4cfef_2 : decode cJ2_indexOf_4cfef 2 = .ok (.invokestatic 224, 3) := by decide +kernel
theorem dJ2_indexOf_4cfef_5 : decode cJ2_indexOf_4cfef 5 = .ok (.istore_n 2, 1) := by decide +kernel
theorem dJ2_indexOf_4cfef_6 : decode cJ2_indexOf_4cfef 6 = .ok (.iload_n 3, 1) := by decide +kernel
theorem dJ2_indexOf_4cfef_7 : decode cJ2_indexOf_4cfef 7 = .ok (.aload_n 0, 1) := by decide +kernel
theorem dJ2_indexOf_4cfef_8 : decode cJ2_indexOf_4cfef 8 = .ok (.arraylength, 1) := by decide +kernel
theorem dJ2_indexOf_4cfef_9 : decode cJ2_indexOf_4cfef 9 = .ok (.iconst 1, 1) := by decide +kernel
theorem dJ2_indexOf_4cfef_10 : decode cJ2_indexOf_4cfef 10 = .ok (.ishr, 1) := by decide +kernel
theorem dJ2_indexOf_4cfef_11 : decode cJ2_indexOf_4cfef 11 = .ok (.invokestatic 183, 3) := by decide +kernel
theorem dJ2_indexOf_4cfef_14 : decode cJ2_indexOf_4cfef 14 = .ok (.istore_n 3, 1) := by decide +kernel
theorem dJ2_indexOf_4cfef_15 : decode cJ2_indexOf_4cfef 15 = .ok (.iload_n 2, 1) := by decide +kernel
theorem dJ2_indexOf_4cfef_16 : decode cJ2_indexOf_4cfef 16 = .ok (.iload_n 3, 1) := by decide +kernel
theorem dJ2_indexOf_4cfef_17 : decode cJ2_indexOf_4cfef 17 = .ok (.if_icmp .lt 5, 3) := by decide +kernel
theorem dJ2_indexOf_4cfef_20 : decode cJ2_indexOf_4cfef 20 = .ok (.iconst (-1), 1) := by decide +kernel
theorem dJ2_indexOf_4cfef_21 : decode cJ2_indexOf_4cfef 21 = .ok (.ireturn, 1) := by decide +kernel
theorem dJ2_indexOf_4cfef_22 : decode cJ2_indexOf_4cfef 22 = .ok (.iload_n 1, 1) := by decide +kernel
theorem dJ2_indexOf_4cfef_23 : decode cJ2_indexOf_4cfef 23 = .ok (.ldc 227, 2) := by decide +kernel
theorem dJ2_indexOf_4cfef_25 : decode cJ2_indexOf_4cfef 25 = .ok (.if_icmp .ge 11, 3) := by decide +kernel
theorem dJ2_indexOf_4cfef_28 : decode cJ2_indexOf_4cfef 28 = .ok (.aload_n 0, 1) := by decide +kernel
theorem dJ2_indexOf_4cfef_29 : decode cJ2_indexOf_4cfef 29 = .ok (.iload_n 1, 1) := by decide +kernel
theorem dJ2_indexOf_4cfef_30 : decode cJ2_indexOf_4cfef 30 = .ok (.iload_n 2, 1) := by decide +kernel
theorem dJ2_indexOf_4cfef_31 : decode cJ2_indexOf_4cfef 31 = .ok (.iload_n 3, 1) := by decide +kernel
theorem dJ2_indexOf_4cfef_32 : decode cJ2_indexOf_4cfef 32 = .ok (.invokestatic 228, 3) := by decide +kernel
theorem dJ2_indexOf_4cfef_35 : decode cJ2_indexOf_4cfef 35 = .ok (.ireturn, 1) := by decide +kernel
theorem dJ2_indexOf_4cfef_36 : decode cJ2_indexOf_4cfef 36 = .ok (.aload_n 0, 1) := by decide +kernel
theorem dJ2_indexOf_4cfef_37 : decode cJ2_indexOf_4cfef 37 = .ok (.iload_n 1, 1) := by decide +kernel
theorem dJ2_indexOf_4cfef_38 : decode cJ2_indexOf_4cfef 38 = .ok (.iload_n 2, 1) := by decide +kernel
theorem dJ2_indexOf_4cfef_39 : decode cJ2_indexOf_4cfef 39 = .ok (.iload_n 3, 1) := by decide +kernel
theorem dJ2_indexOf_4cfef_40 : decode cJ2_indexOf_4cfef 40 = .ok (.invokestatic 232, 3) := by decide +kernel
theorem dJ2_indexOf_4cfef_43 : decode cJ2_indexOf_4cfef 43 = .ok (.ireturn, 1) := by decide +kernel
theorem dJ2_indexOfChar_4cfef_0 : decode cJ2_indexOfChar_4cfef 0 = .ok (.iload_n 2, 1) := by decide +kernel
theorem dJ2_indexOfChar_4cfef_1 : decode cJ2_indexOfChar_4cfef 1 = .ok (.iload_n 3, 1) := by decide +kernel
theorem dJ2_indexOfChar_4cfef_2 : decode cJ2_indexOfChar_4cfef 2 = .ok (.aload_n 0, 1) := by decide +kernel
theorem dJ2_indexOfChar_4cfef_3 : decode cJ2_indexOfChar_4cfef 3 = .ok (.invokestatic 96, 3) := by decide +kernel
theorem dJ2_indexOfChar_4cfef_6 : decode cJ2_indexOfChar_4cfef 6 = .ok (.aload_n 0, 1) := by decide +kernel
theorem dJ2_indexOfChar_4cfef_7 : decode cJ2_indexOfChar_4cfef 7 = .ok (.iload_n 1, 1) := by decide +kernel
theorem dJ2_indexOfChar_4cfef_8 : decode cJ2_indexOfChar_4cfef 8 = .ok (.iload_n 2, 1) := by decide +kernel
theorem dJ2_indexOfChar_4cfef_9 : decode cJ2_indexOfChar_4cfef 9 = .ok (.iload_n 3, 1) := by decide +kernel
theorem dJ2_indexOfChar_4cfef_10 : decode cJ2_indexOfChar_4cfef 10 = .ok (.invokestatic 244, 3) := by decide +kernel
theorem dJ2_indexOfChar_4cfef_13 : decode cJ2_indexOfChar_4cfef 13 = .ok (.ireturn, 1) := by decide +kernel
theorem dJ2_indexOfCharUnsafe_4cfef_0 : decode cJ2_indexOfCharUnsafe_4cfef 0 = .ok (.iload_n 2, 1) := by decide +kernel
theorem dJ2_indexOfCharUnsafe_4cfef_1 : decode cJ2_indexOfCharUnsafe_4cfef 1 = .ok (.istore 4, 2) := by decide +kernel
theorem dJ2_indexOfCharUnsafe_4cfef_3 : decode cJ2_indexOfCharUnsafe_4cfef 3 = .ok (.iload 4, 2) := by decide +kernel
theorem dJ2_indexOfCharUnsafe_4cfef_5 : decode cJ2_indexOfCharUnsafe_4cfef 5 = .ok (.iload_n 3, 1) := by decide +kernel
theorem dJ2_indexOfCharUnsafe_4cfef_6 : decode cJ2_indexOfCharUnsafe_4cfef 6 = .ok (.if_icmp .ge 22, 3) := by decide +kernel
theorem dJ2_indexOfCharUnsafe_4cfef_9 : decode cJ2_indexOfCharUnsafe_4cfef 9 = .ok (.aload_n 0, 1) := by decide +kernel
theorem dJ2_indexOfCharUnsafe_4cfef_10 : decode cJ2_indexOfCharUnsafe_4cfef 10 = .ok (.iload 4, 2) := by decide +kernel
theorem dJ2_indexOfCharUnsafe_4cfef_12 : decode cJ2_indexOfCharUnsafe_4cfef 12 = .ok (.invokestatic 71, 3) := by decide +kernel
theorem dJ2_indexOfCharUnsafe_4cfef_15 : decode cJ2_indexOfCharUnsafe_4cfef 15 = .ok (.iload_n 1, 1) := by decide +kernel
theorem dJ2_indexOfCharUnsafe_4cfef_16 : decode cJ2_indexOfCharUnsafe_4cfef 16 = .ok (.if_icmp .ne 6, 3) := by decide +kernel
theorem dJ2_indexOfCharUnsafe_4cfef_19 : decode cJ2_indexOfCharUnsafe_4cfef 19 = .ok (.iload 4, 2) := by decide +kernel
theorem dJ2_indexOfCharUnsafe_4cfef_21 : decode cJ2_indexOfCharUnsafe_4cfef 21 = .ok (.ireturn, 1) := by decide +kernel
theorem dJ2_indexOfCharUnsafe_4cfef_22 : decode cJ2_indexOfCharUnsafe_4cfef 22 = .ok (.iinc 4 1, 3) := by decide +kernel
theorem dJ2_indexOfCharUnsafe_4cfef_25 : decode cJ2_indexOfCharUnsafe_4cfef 25 = .ok (.goto (-22), 3) := by decide +kernel
theorem dJ2_indexOfCharUnsafe_4cfef_28 : decode cJ2_indexOfCharUnsafe_4cfef 28 = .ok (.iconst (-1), 1) := by decide +kernel
theorem dJ2_indexOfCharUnsafe_4cfef_29 : decode cJ2_indexOfCharUnsafe_4cfef 29 = .ok (.ireturn, 1) := by decide +kernel
theorem dJ2_indexOfSupplementary_4cfef_0 : decode cJ2_indexOfSupplementary_4cfef 0 = .ok (.iload_n 1, 1) := by decide +kernel
theorem dJ2_indexOfSupplementary_4cfef_1 : decode cJ2_indexOfSupplementary_4cfef 1 = .ok (.invokestatic 164, 3) := by decide +kernel
theorem dJ2_indexOfSupplementary_4cfef_4 : decode cJ2_indexOfSupplementary_4cfef 4 = .ok (.ifCond .eq 65, 3) := by decide +kernel
theorem dJ2_indexOfSupplementary_4cfef_7 : decode cJ2_indexOfSupplementary_4cfef 7 = .ok (.iload_n 1, 1) := by decide +kernel
theorem dJ2_indexOfSupplementary_4cfef_8 : decode cJ2_indexOfSupplementary_4cfef 8 = .ok (.invokestatic 157, 3) := by decide +kernel
theorem dJ2_indexOfSupplementary_4cfef_11 : decode cJ2_indexOfSupplementary_4cfef 11 = .ok (.istore 4, 2) := by decide +kernel
theorem dJ2_indexOfSupplementary_4cfef_13 : decode cJ2_indexOfSupplementary_4cfef 13 = .ok (.iload_n 1, 1) := by decide +kernel
theorem dJ2_indexOfSupplementary_4cfef_14 : decode cJ2_indexOfSupplementary_4cfef 14 = .ok (.invokestatic 161, 3) := by decide +kernel
theorem dJ2_indexOfSupplementary_4cfef_17 : decode cJ2_indexOfSupplementary_4cfef 17 = .ok (.istore 5, 2) := by decide +kernel
theorem dJ2_indexOfSupplementary_4cfef_19 : decode cJ2_indexOfSupplementary_4cfef 19 = .ok (.iload_n 2, 1) := by decide +kernel
theorem dJ2_indexOfSupplementary_4cfef_20 : decode cJ2_indexOfSupplementary_4cfef 20 = .ok (.iload_n 3, 1) := by decide +kernel
theorem dJ2_indexOfSupplementary_4cfef_21 : decode cJ2_indexOfSupplementary_4cfef 21 = .ok (.aload_n 0, 1) := by decide +kernel
theorem dJ2_indexOfSupplementary_4cfef_22 : decode cJ2_indexOfSupplementary_4cfef 22 = .ok (.invokestatic 96, 3) := by decide +kernel
theorem dJ2_indexOfSupplementary_4cfef_25 : decode cJ2_indexOfSupplementary_4cfef 25 = .ok (.iload_n 2, 1) := by decide +kernel
theorem dJ2_indexOfSupplementary_4cfef_26 : decode cJ2_indexOfSupplementary_4cfef 26 = .ok (.istore 6, 2) := by decide +kernel
theorem dJ2_indexOfSupplementary_4cfef_28 : decode cJ2_indexOfSupplementary_4cfef 28 = .ok (.iload 6, 2) := by decide +kernel
theorem dJ2_indexOfSupplementary_4cfef_30 : decode cJ2_indexOfSupplementary_4cfef 30 = .ok (.iload_n 3, 1) := by decide +kernel
theorem dJ2_indexOfSupplementary_4cfef_31 : decode cJ2_indexOfSupplementary_4cfef 31 = .ok (.iconst 1, 1) := by decide +kernel
theorem dJ2_indexOfSupplementary_4cfef_32 : decode cJ2_indexOfSupplementary_4cfef 32 = .ok (.isub, 1) := by decide +kernel
theorem dJ2_indexOfSupplementary_4cfef_33 : decode cJ2_indexOfSupplementary_4cfef 33 = .ok (.if_icmp .ge 36, 3) := by decide +kernel
theorem dJ2_indexOfSupplementary_4cfef_36 : decode cJ2_indexOfSupplementary_4cfef 36 = .ok (.aload_n 0, 1) := by decide +kernel
theorem dJ2_indexOfSupplementary_4cfef_37 : decode cJ2_indexOfSupplementary_4cfef 37 = .ok (.iload 6, 2) := by decide +kernel
theorem dJ2_indexOfSupplementary_4cfef_39 : decode cJ2_indexOfSupplementary_4cfef 39 = .ok (.invokestatic 71, 3) := by decide +kernel
theorem dJ2_indexOfSupplementary_4cfef_42 : decode cJ2_indexOfSupplementary_4cfef 42 = .ok (.iload 4, 2) := by decide +kernel
theorem dJ2_indexOfSupplementary_4cfef_44 : decode cJ2_indexOfSupplementary_4cfef 44 = .ok (.if_icmp .ne 19, 3) := by decide +kernel
theorem dJ2_indexOfSupplementary_4cfef_47 : decode cJ2_indexOfSupplementary_4cfef 47 = .ok (.aload_n 0, 1) := by decide +kernel
theorem dJ2_indexOfSupplementary_4cfef_48 : decode cJ2_indexOfSupplementary_4cfef 48 = .ok (.iload 6, 2) := by decide +kernel
theorem dJ2_indexOfSupplementary_4cfef_50 : decode cJ2_indexOfSupplementary_4cfef 50 = .ok (.iconst 1, 1) := by decide +kernel
theorem dJ2_indexOfSupplementary_4cfef_51 : decode cJ2_indexOfSupplementary_4cfef 51 = .ok (.iadd, 1) := by decide +kernel
theorem dJ2_indexOfSupplementary_4cfef_52 : decode cJ2_indexOfSupplementary_4cfef 52 = .ok (.invokestatic 71, 3) := by decide +kernel
theorem dJ2_indexOfSupplementary_4cfef_55 : decode cJ2_indexOfSupplementary_4cfef 55 = .ok (.iload 5, 2) := by decide +kernel
theorem dJ2_indexOfSupplementary_4cfef_57 : decode cJ2_indexOfSupplementary_4cfef 57 = .ok (.if_icmp .ne 6, 3) := by decide +kernel
theorem dJ2_indexOfSupplementary_4cfef_60 : decode cJ2_indexOfSupplementary_4cfef 60 = .ok (.iload 6, 2) := by decide +kernel
theorem dJ2_indexOfSupplementary_4cfef_62 : decode cJ2_indexOfSupplementary_4cfef 62 = .ok (.ireturn, 1) := by decide +kernel
theorem dJ2_indexOfSupplementary_4cfef_63 : decode cJ2_indexOfSupplementary_4cfef 63 = .ok (.iinc 6 1, 3) := by decide +kernel
theorem dJ2_indexOfSupplementary_4cfef_66 : decode cJ2_indexOfSupplementary_4cfef 66 = .ok (.goto (-38), 3) := by decide +kernel
theorem dJ2_indexOfSupplementary_4cfef_69 : decode cJ2_indexOfSupplementary_4cfef 69 = .ok (.iconst (-1), 1) := by decide +kernel
theorem dJ2_indexOfSupplementary_4cfef_70 : decode cJ2_indexOfSupplementary_4cfef 70 = .ok (.ireturn, 1) := by decide +kernel
theorem dJ2_checkBoundsBeginEnd_d044e_0 : decode cJ2_checkBoundsBeginEnd_d044e 0 = .ok (.iload_n 0, 1) := by decide +kernel
theorem dJ2_checkBoundsBeginEnd_d044e_1 : decode cJ2_checkBoundsBeginEnd_d044e 1 = .ok (.iload_n 1, 1) := by decide +kernel
theorem dJ2_checkBoundsBeginEnd_d044e_2 : decode cJ2_checkBoundsBeginEnd_d044e 2 = .ok (.aload_n 2, 1) := by decide +kernel
theorem dJ2_checkBoundsBeginEnd_d044e_3 : decode cJ2_checkBoundsBeginEnd_d044e 3 = .ok (.invokestatic 48, 3) := by decide +kernel
theorem dJ2_checkBoundsBeginEnd_d044e_6 : decode cJ2_checkBoundsBeginEnd_d044e 6 = .ok (.invokestatic 241, 3) := by decide +kernel
theorem dJ2_checkBoundsBeginEnd_d044e_9 : decode cJ2_checkBoundsBeginEnd_d044e 9 = .ok (.return_, 1) := by decide +kernel
theorem dJ3_checkFromToIndex_8c36e_0 : decode cJ3_checkFromToIndex_8c36e 0 = .ok (.iload_n 0, 1) := by decide +kernel
theorem dJ3_checkFromToIndex_8c36e_1 : decode cJ3_checkFromToIndex_8c36e 1 = .ok (.ifCond .lt 13, 3) := by decide +kernel
theorem dJ3_checkFromToIndex_8c36e_4 : decode cJ3_checkFromToIndex_8c36e 4 = .ok (.iload_n 0, 1) := by decide +kernel
theorem dJ3_checkFromToIndex_8c36e_5 : decode cJ3_checkFromToIndex_8c36e 5 = .ok (.iload_n 1, 1) := by decide +kernel
theorem dJ3_checkFromToIndex_8c36e_6 : decode cJ3_checkFromToIndex_8c36e 6 = .ok (.if_icmp .gt 8, 3) := by decide +kernel
theorem dJ3_checkFromToIndex_8c36e_9 : decode cJ3_checkFromToIndex_8c36e 9 = .ok (.iload_n 1, 1) := by decide +kernel
theorem dJ3_checkFromToIndex_8c36e_10 : decode cJ3_checkFromToIndex_8c36e 10 = .ok (.iload_n 2, 1) := by decide +kernel
theorem dJ3_checkFromToIndex_8c36e_11 : decode cJ3_checkFromToIndex_8c36e 11 = .ok (.if_icmp .le 11, 3) := by decide +kernel
theorem dJ3_checkFromToIndex_8c36e_14 : decode cJ3_checkFromToIndex_8c36e 14 = .ok (.aload_n 3, 1) := by decide +kernel
theorem dJ3_checkFromToIndex_8c36e_15 : decode cJ3_checkFromToIndex_8c36e 15 = .ok (.iload_n 0, 1) := by decide +kernel
theorem dJ3_checkFromToIndex_8c36e_16 : decode cJ3_checkFromToIndex_8c36e 16 = .ok (.iload_n 1, 1) := by decide +kernel
theorem dJ3_checkFromToIndex_8c36e_17 : decode cJ3_checkFromToIndex_8c36e 17 = .ok (.iload_n 2, 1) := by decide +kernel
theorem dJ3_checkFromToIndex_8c36e_18 : decode cJ3_checkFromToIndex_8c36e 18 = .ok (.invokestatic 99, 3) := by decide +kernel
theorem dJ3_checkFromToIndex_8c36e_21 : decode cJ3_checkFromToIndex_8c36e 21 = .ok (.athrow, 1) := by decide +kernel
theorem dJ3_checkFromToIndex_8c36e_22 : decode cJ3_checkFromToIndex_8c36e 22 = .ok (.iload_n 0, 1) := by decide +kernel
theorem dJ3_checkFromToIndex_8c36e_23 : decode cJ3_checkFromToIndex_8c36e 23 = .ok (.ireturn, 1) := by decide +kernel
theorem dJ6_bitCount_0f7a4_0 : decode cJ6_bitCount_0f7a4 0 = .ok (.iload_n 0, 1) := by decide +kernel
theorem dJ6_bitCount_0f7a4_1 : decode cJ6_bitCount_0f7a4 1 = .ok (.iload_n 0, 1) := by decide +kernel
theorem dJ6_bitCount_0f7a4_2 : decode cJ6_bitCount_0f7a4 2 = .ok (.iconst 1, 1) := by decide +kernel
theorem dJ6_bitCount_0f7a4_3 : decode cJ6_bitCount_0f7a4 3 = .ok (.iushr, 1) := by decide +kernel
theorem dJ6_bitCount_0f7a4_4 : decode cJ6_bitCount_0f7a4 4 = .ok (.ldc_w 265, 3) := by decide +kernel
theorem dJ6_bitCount_0f7a4_7 : decode cJ6_bitCount_0f7a4 7 = .ok (.iand, 1) := by decide +kernel
theorem dJ6_bitCount_0f7a4_8 : decode cJ6_bitCount_0f7a4 8 = .ok (.isub, 1) := by decide +kernel
theorem dJ6_bitCount_0f7a4_9 : decode cJ6_bitCount_0f7a4 9 = .ok (.istore_n 0, 1) := by decide +kernel
theorem dJ6_bitCount_0f7a4_10 : decode cJ6_bitCount_0f7a4 10 = .ok (.iload_n 0, 1) := by decide +kernel
theorem dJ6_bitCount_0f7a4_11 : decode cJ6_bitCount_0f7a4 11 = .ok (.ldc_w 266, 3) := by decide +kernel
theorem dJ6_bitCount_0f7a4_14 : decode cJ6_bitCount_0f7a4 14 = .ok (.iand, 1) := by decide +kernel
theorem dJ6_bitCount_0f7a4_15 : decode cJ6_bitCount_0f7a4 15 = .ok (.iload_n 0, 1) := by decide +kernel
theorem dJ6_bitCount_0f7a4_16 : decode cJ6_bitCount_0f7a4 16 = .ok (.iconst 2, 1) := by decide +kernel
theorem dJ6_bitCount_0f7a4_17 : decode cJ6_bitCount_0f7a4 17 = .ok (.iushr, 1) := by decide +kernel
theorem dJ6_bitCount_0f7a4_18 : decode cJ6_bitCount_0f7a4 18 = .ok (.ldc_w 266, 3) := by decide +kernel
theorem dJ6_bitCount_0f7a4_21 : decode cJ6_bitCount_0f7a4 21 = .ok (.iand, 1) := by decide +kernel
theorem dJ6_bitCount_0f7a4_22 : decode cJ6_bitCount_0f7a4 22 = .ok (.iadd, 1) := by decide +kernel
theorem dJ6_bitCount_0f7a4_23 : decode cJ6_bitCount_0f7a4 23 = .ok (.istore_n 0, 1) := by decide +kernel
theorem dJ6_bitCount_0f7a4_24 : decode cJ6_bitCount_0f7a4 24 = .ok (.iload_n 0, 1) := by decide +kernel
theorem dJ6_bitCount_0f7a4_25 : decode cJ6_bitCount_0f7a4 25 = .ok (.iload_n 0, 1) := by decide +kernel
theorem dJ6_bitCount_0f7a4_26 : decode cJ6_bitCount_0f7a4 26 = .ok (.iconst 4, 1) := by decide +kernel
theorem dJ6_bitCount_0f7a4_27 : decode cJ6_bitCount_0f7a4 27 = .ok (.iushr, 1) := by decide +kernel
theorem dJ6_bitCount_0f7a4_28 : decode cJ6_bitCount_0f7a4 28 = .ok (.iadd, 1) := by decide +kernel
theorem dJ6_bitCount_0f7a4_29 : decode cJ6_bitCount_0f7a4 29 = .ok (.ldc_w 267, 3) := by decide +kernel
theorem dJ6_bitCount_0f7a4_32 : decode cJ6_bitCount_0f7a4 32 = .ok (.iand, 1) := by decide +kernel
theorem dJ6_bitCount_0f7a4_33 : decode cJ6_bitCount_0f7a4 33 = .ok (.istore_n 0, 1) := by decide +kernel
theorem dJ6_bitCount_0f7a4_34 : decode cJ6_bitCount_0f7a4 34 = .ok (.iload_n 0, 1) := by decide +kernel
theorem dJ6_bitCount_0f7a4_35 : decode cJ6_bitCount_0f7a4 35 = .ok (.iload_n 0, 1) := by decide +kernel
theorem dJ6_bitCount_0f7a4_36 : decode cJ6_bitCount_0f7a4 36 = .ok (.bipush 8, 2) := by decide +kernel
theorem dJ6_bitCount_0f7a4_38 : decode cJ6_bitCount_0f7a4 38 = .ok (.iushr, 1) := by decide +kernel
theorem dJ6_bitCount_0f7a4_39 : decode cJ6_bitCount_0f7a4 39 = .ok (.iadd, 1) := by decide +kernel
theorem dJ6_bitCount_0f7a4_40 : decode cJ6_bitCount_0f7a4 40 = .ok (.istore_n 0, 1) := by decide +kernel
theorem dJ6_bitCount_0f7a4_41 : decode cJ6_bitCount_0f7a4 41 = .ok (.iload_n 0, 1) := by decide +kernel
theorem dJ6_bitCount_0f7a4_42 : decode cJ6_bitCount_0f7a4 42 = .ok (.iload_n 0, 1) := by decide +kernel
theorem dJ6_bitCount_0f7a4_43 : decode cJ6_bitCount_0f7a4 43 = .ok (.bipush 16, 2) := by decide +kernel
theorem dJ6_bitCount_0f7a4_45 : decode cJ6_bitCount_0f7a4 45 = .ok (.iushr, 1) := by decide +kernel
theorem dJ6_bitCount_0f7a4_46 : decode cJ6_bitCount_0f7a4 46 = .ok (.iadd, 1) := by decide +kernel
theorem dJ6_bitCount_0f7a4_47 : decode cJ6_bitCount_0f7a4 47 = .ok (.istore_n 0, 1) := by decide +kernel
theorem dJ6_bitCount_0f7a4_48 : decode cJ6_bitCount_0f7a4 48 = .ok (.iload_n 0, 1) := by decide +kernel
theorem dJ6_bitCount_0f7a4_49 : decode cJ6_bitCount_0f7a4 49 = .ok (.bipush 63, 2) := by decide +kernel
theorem dJ6_bitCount_0f7a4_51 : decode cJ6_bitCount_0f7a4 51 = .ok (.iand, 1) := by decide +kernel
theorem dJ6_bitCount_0f7a4_52 : decode cJ6_bitCount_0f7a4 52 = .ok (.ireturn, 1) := by decide +kernel
theorem dJ9_max_7cf53_0 : decode cJ9_max_7cf53 0 = .ok (.iload_n 0, 1) := by decide +kernel
theorem dJ9_max_7cf53_1 : decode cJ9_max_7cf53 1 = .ok (.iload_n 1, 1) := by decide +kernel
theorem dJ9_max_7cf53_2 : decode cJ9_max_7cf53 2 = .ok (.if_icmp .lt 7, 3) := by decide +kernel
theorem dJ9_max_7cf53_5 : decode cJ9_max_7cf53 5 = .ok (.iload_n 0, 1) := by decide +kernel
theorem dJ9_max_7cf53_6 : decode cJ9_max_7cf53 6 = .ok (.goto 4, 3) := by decide +kernel
theorem dJ9_max_7cf53_9 : decode cJ9_max_7cf53 9 = .ok (.iload_n 1, 1) := by decide +kernel
theorem dJ9_max_7cf53_10 : decode cJ9_max_7cf53 10 = .ok (.ireturn, 1) := by decide +kernel
theorem dJ9_min_7cf53_0 : decode cJ9_min_7cf53 0 = .ok (.iload_n 0, 1) := by decide +kernel
theorem dJ9_min_7cf53_1 : decode cJ9_min_7cf53 1 = .ok (.iload_n 1, 1) := by decide +kernel
theorem dJ9_min_7cf53_2 : decode cJ9_min_7cf53 2 = .ok (.if_icmp .gt 7, 3) := by decide +kernel
theorem dJ9_min_7cf53_5 : decode cJ9_min_7cf53 5 = .ok (.iload_n 0, 1) := by decide +kernel
theorem dJ9_min_7cf53_6 : decode cJ9_min_7cf53 6 = .ok (.goto 4, 3) := by decide +kernel
theorem dJ9_min_7cf53_9 : decode cJ9_min_7cf53 9 = .ok (.iload_n 1, 1) := by decide +kernel
theorem dJ9_min_7cf53_10 : decode cJ9_min_7cf53 10 = .ok (.ireturn, 1) := by decide +kernel
theorem dJ11_isValidCodePoint_9a6ad_0 : decode cJ11_isValidCodePoint_9a6ad 0 = .ok (.iload_n 0, 1) := by decide +kernel
theorem dJ11_isValidCodePoint_9a6ad_1 : decode cJ11_isValidCodePoint_9a6ad 1 = .ok (.bipush 16, 2) := by decide +kernel
theorem dJ11_isValidCodePoint_9a6ad_3 : decode cJ11_isValidCodePoint_9a6ad 3 = .ok (.iushr, 1) := by decide +kernel
theorem dJ11_isValidCodePoint_9a6ad_4 : decode cJ11_isValidCodePoint_9a6ad 4 = .ok (.istore_n 1, 1) := by decide +kernel
theorem dJ11_isValidCodePoint_9a6ad_5 : decode cJ11_isValidCodePoint_9a6ad 5 = .ok (.iload_n 1, 1) := by decide +kernel
theorem dJ11_isValidCodePoint_9a6ad_6 : decode cJ11_isValidCodePoint_9a6ad 6 = .ok (.bipush 17, 2) := by decide +kernel
theorem dJ11_isValidCodePoint_9a6ad_8 : decode cJ11_isValidCodePoint_9a6ad 8 = .ok (.if_icmp .ge 7, 3) := by decide +kernel
theorem dJ11_isValidCodePoint_9a6ad_11 : decode cJ11_isValidCodePoint_9a6ad 11 = .ok (.iconst 1, 1) := by decide +kernel
theorem dJ11_isValidCodePoint_9a6ad_12 : decode cJ11_isValidCodePoint_9a6ad 12 = .ok (.goto 4, 3) := by decide +kernel
theorem dJ11_isValidCodePoint_9a6ad_15 : decode cJ11_isValidCodePoint_9a6ad 15 = .ok (.iconst 0, 1) := by decide +kernel
theorem dJ11_isValidCodePoint_9a6ad_16 : decode cJ11_isValidCodePoint_9a6ad 16 = .ok (.ireturn, 1) := by decide +kernel
theorem dJ11_highSurrogate_5068e_0 : decode cJ11_highSurrogate_5068e 0 = .ok (.iload_n 0, 1) := by decide +kernel
theorem dJ11_highSurrogate_5068e_1 : decode cJ11_highSurrogate_5068e 1 = .ok (.bipush 10, 2) := by decide +kernel
theorem dJ11_highSurrogate_5068e_3 : decode cJ11_highSurrogate_5068e 3 = .ok (.iushr, 1) := by decide +kernel
theorem dJ11_highSurrogate_5068e_4 : decode cJ11_highSurrogate_5068e 4 = .ok (.ldc 110, 2) := by decide +kernel
theorem dJ11_highSurrogate_5068e_6 : decode cJ11_highSurrogate_5068e 6 = .ok (.iadd, 1) := by decide +kernel
theorem dJ11_highSurrogate_5068e_7 : decode cJ11_highSurrogate_5068e 7 = .ok (.i2c, 1) := by decide +kernel
theorem dJ11_highSurrogate_5068e_8 : decode cJ11_highSurrogate_5068e 8 = .ok (.ireturn, 1) := by decide +kernel
theorem dJ11_lowSurrogate_5068e_0 : decode cJ11_lowSurrogate_5068e 0 = .ok (.iload_n 0, 1) := by decide +kernel
theorem dJ11_lowSurrogate_5068e_1 : decode cJ11_lowSurrogate_5068e 1 = .ok (.sipush 1023, 3) := by decide +kernel
theorem dJ11_lowSurrogate_5068e_4 : decode cJ11_lowSurrogate_5068e 4 = .ok (.iand, 1) := by decide +kernel
theorem dJ11_lowSurrogate_5068e_5 : decode cJ11_lowSurrogate_5068e 5 = .ok (.ldc 76, 2) := by decide +kernel
theorem dJ11_lowSurrogate_5068e_7 : decode cJ11_lowSurrogate_5068e 7 = .ok (.iadd, 1) := by decide +kernel
theorem dJ11_lowSurrogate_5068e_8 : decode cJ11_lowSurrogate_5068e 8 = .ok (.i2c, 1) := by decide +kernel
theorem dJ11_lowSurrogate_5068e_9 : decode cJ11_lowSurrogate_5068e 9 = .ok (.ireturn, 1) := by decide +kernel
end
section
theorem dX11_init_0 : decode cX11_init 0 = .ok (.aload_n 0, 1) := by decide +kernel
theorem dX11_init_1 : decode cX11_init 1 = .ok (.invokespecial 1, 3) := by decide +kernel
theorem dX11_init_4 : decode cX11_init 4 = .ok (.aload_n 0, 1) := by decide +kernel
theorem dX11_init_5 : decode cX11_init 5 = .ok (.new 7, 3) := by decide +kernel
theorem dX11_init_8 : decode cX11_init 8 = .ok (.dup, 1) := by decide +kernel
theorem dX11_init_9 : decode cX11_init 9 = .ok (.invokespecial 9, 3) := by decide +kernel
theorem dX11_init_12 : decode cX11_init 12 = .ok (.putfield 10, 3) := by decide +kernel
theorem dX11_init_15 : decode cX11_init 15 = .ok (.aload_n 0, 1) := by decide +kernel
theorem dX11_init_16 : decode cX11_init 16 = .ok (.aconst_null, 1) := by decide +kernel
theorem dX11_init_17 : decode cX11_init 17 = .ok (.putfield 16, 3) := by decide +kernel
theorem dX11_init_20 : decode cX11_init 20 = .ok (.aload_n 0, 1) := by decide +kernel
theorem dX11_init_21 : decode cX11_init 21 = .ok (.iconst 0, 1) := by decide +kernel
theorem dX11_init_22 : decode cX11_init 22 = .ok (.putfield 19, 3) := by decide +kernel
theorem dX11_init_25 : decode cX11_init 25 = .ok (.aload_n 0, 1) := by decide +kernel
theorem dX11_init_26 : decode cX11_init 26 = .ok (.bipush 6, 2) := by decide +kernel
theorem dX11_init_28 : decode cX11_init 28 = .ok (.newarray .int, 2) := by decide +kernel
theorem dX11_init_30 : decode cX11_init 30 = .ok (.putfield 23, 3) := by decide +kernel
theorem dX11_init_33 : decode cX11_init 33 = .ok (.aload_n 0, 1) := by decide +kernel
theorem dX11_init_34 : decode cX11_init 34 = .ok (.bipush 7, 2) := by decide +kernel
theorem dX11_init_36 : decode cX11_init 36 = .ok (.anewarray 27, 3) := by decide +kernel
theorem dX11_init_39 : decode cX11_init 39 = .ok (.dup, 1) := by decide +kernel
theorem dX11_init_40 : decode cX11_init 40 = .ok (.iconst 0, 1) := by decide +kernel
theorem dX11_init_41 : decode cX11_init 41 = .ok (.new 27, 3) := by decide +kernel
theorem dX11_init_44 : decode cX11_init 44 = .ok (.dup, 1) := by decide +kernel
theorem dX11_init_45 : decode cX11_init 45 = .ok (.invokespecial 29, 3) := by decide +kernel
theorem dX11_init_48 : decode cX11_init 48 = .ok (.aastore, 1) := by decide +kernel
theorem dX11_init_49 : decode cX11_init 49 = .ok (.dup, 1) := by decide +kernel
theorem dX11_init_50 : decode cX11_init 50 = .ok (.iconst 1, 1) := by decide +kernel
theorem dX11_init_51 : decode cX11_init 51 = .ok (.new 30, 3) := by decide +kernel
theorem dX11_init_54 : decode cX11_init 54 = .ok (.dup, 1) := by decide +kernel
theorem dX11_init_55 : decode cX11_init 55 = .ok (.invokespecial 32, 3) := by decide +kernel
theorem dX11_init_58 : decode cX11_init 58 = .ok (.aastore, 1) := by decide +kernel
theorem dX11_init_59 : decode cX11_init 59 = .ok (.dup, 1) := by decide +kernel
theorem dX11_init_60 : decode cX11_init 60 = .ok (.iconst 2, 1) := by decide +kernel
theorem dX11_init_61 : decode cX11_init 61 = .ok (.new 33, 3) := by decide +kernel
theorem dX11_init_64 : decode cX11_init 64 = .ok (.dup, 1) := by decide +kernel
theorem dX11_init_65 : decode cX11_init 65 = .ok (.invokespecial 35, 3) := by decide +kernel
theorem dX11_init_68 : decode cX11_init 68 = .ok (.aastore, 1) := by decide +kernel
theorem dX11_init_69 : decode cX11_init 69 = .ok (.dup, 1) := by decide +kernel
theorem dX11_init_70 : decode cX11_init 70 = .ok (.iconst 3, 1) := by decide +kernel
theorem dX11_init_71 : decode cX11_init 71 = .ok (.new 36, 3) := by decide +kernel
theorem dX11_init_74 : decode cX11_init 74 = .ok (.dup, 1) := by decide +kernel
theorem dX11_init_75 : decode cX11_init 75 = .ok (.invokespecial 38, 3) := by decide +kernel
theorem dX11_init_78 : decode cX11_init 78 = .ok (.aastore, 1) := by decide +kernel
theorem dX11_init_79 : decode cX11_init 79 = .ok (.dup, 1) := by decide +kernel
theorem dX11_init_80 : decode cX11_init 80 = .ok (.iconst 4, 1) := by decide +kernel
theorem dX11_init_81 : decode cX11_init 81 = .ok (.new 39, 3) := by decide +kernel
theorem dX11_init_84 : decode cX11_init 84 = .ok (.dup, 1) := by decide +kernel
theorem dX11_init_85 : decode cX11_init 85 = .ok (.invokespecial 41, 3) := by decide +kernel
theorem dX11_init_88 : decode cX11_init 88 = .ok (.aastore, 1) := by decide +kernel
theorem dX11_init_89 : decode cX11_init 89 = .ok (.dup, 1) := by decide +kernel
theorem dX11_init_90 : decode cX11_init 90 = .ok (.iconst 5, 1) := by decide +kernel
theorem dX11_init_91 : decode cX11_init 91 = .ok (.new 42, 3) := by decide +kernel
theorem dX11_init_94 : decode cX11_init 94 = .ok (.dup, 1) := by decide +kernel
theorem dX11_init_95 : decode cX11_init 95 = .ok (.invokespecial 44, 3) := by decide +kernel
theorem dX11_init_98 : decode cX11_init 98 = .ok (.aastore, 1) := by decide +kernel
theorem dX11_init_99 : decode cX11_init 99 = .ok (.dup, 1) := by decide +kernel
theorem dX11_init_100 : decode cX11_init 100 = .ok (.bipush 6, 2) := by decide +kernel
theorem dX11_init_102 : decode cX11_init 102 = .ok (.new 45, 3) := by decide +kernel
theorem dX11_init_105 : decode cX11_init 105 = .ok (.dup, 1) := by decide +kernel
theorem dX11_init_106 : decode cX11_init 106 = .ok (.invokespecial 47, 3) := by decide +kernel
theorem dX11_init_109 : decode cX11_init 109 = .ok (.aastore, 1) := by decide +kernel
theorem dX11_init_110 : decode cX11_init 110 = .ok (.putfield 48, 3) := by decide +kernel
theorem dX11_init_113 : decode cX11_init 113 = .ok (.aload_n 0, 1) := by decide +kernel
theorem dX11_init_114 : decode cX11_init 114 = .ok (.new 52, 3) := by decide +kernel
theorem dX11_init_117 : decode cX11_init 117 = .ok (.dup, 1) := by decide +kernel
theorem dX11_init_118 : decode cX11_init 118 = .ok (.aload_n 0, 1) := by decide +kernel
theorem dX11_init_119 : decode cX11_init 119 = .ok (.getfield 10, 3) := by decide +kernel
theorem dX11_init_122 : decode cX11_init 122 = .ok (.getfield 54, 3) := by decide +kernel
theorem dX11_init_125 : decode cX11_init 125 = .ok (.invokespecial 57, 3) := by decide +kernel
theorem dX11_init_128 : decode cX11_init 128 = .ok (.putfield 60, 3) := by decide +kernel
theorem dX11_init_131 : decode cX11_init 131 = .ok (.aload_n 0, 1) := by decide +kernel
theorem dX11_init_132 : decode cX11_init 132 = .ok (.bipush 50, 2) := by decide +kernel
theorem dX11_init_134 : decode cX11_init 134 = .ok (.newarray .int, 2) := by decide +kernel
theorem dX11_init_136 : decode cX11_init 136 = .ok (.putfield 64, 3) := by decide +kernel
theorem dX11_init_139 : decode cX11_init 139 = .ok (.aload_n 0, 1) := by decide +kernel
theorem dX11_init_140 : decode cX11_init 140 = .ok (.new 67, 3) := by decide +kernel
theorem dX11_init_143 : decode cX11_init 143 = .ok (.dup, 1) := by decide +kernel
theorem dX11_init_144 : decode cX11_init 144 = .ok (.invokespecial 69, 3) := by decide +kernel
theorem dX11_init_147 : decode cX11_init 147 = .ok (.putfield 70, 3) := by decide +kernel
theorem dX11_init_150 : decode cX11_init 150 = .ok (.aload_n 0, 1) := by decide +kernel
theorem dX11_init_151 : decode cX11_init 151 = .ok (.iconst 4, 1) := by decide +kernel
theorem dX11_init_152 : decode cX11_init 152 = .ok (.bipush 40, 2) := by decide +kernel
theorem dX11_init_154 : decode cX11_init 154 = .ok (.multianewarray 74 2, 4) := by decide +kernel
theorem dX11_init_158 : decode cX11_init 158 = .ok (.putfield 76, 3) := by decide +kernel
theorem dX11_init_161 : decode cX11_init 161 = .ok (.aload_n 0, 1) := by decide +kernel
theorem dX11_init_162 : decode cX11_init 162 = .ok (.iconst 4, 1) := by decide +kernel
theorem dX11_init_163 : decode cX11_init 163 = .ok (.newarray .int, 2) := by decide +kernel
theorem dX11_init_165 : decode cX11_init 165 = .ok (.putfield 79, 3) := by decide +kernel
theorem dX11_init_168 : decode cX11_init 168 = .ok (.aload_n 0, 1) := by decide +kernel
theorem dX11_init_169 : decode cX11_init 169 = .ok (.iconst 4, 1) := by decide +kernel
theorem dX11_init_170 : decode cX11_init 170 = .ok (.newarray .int, 2) := by decide +kernel
theorem dX11_init_172 : decode cX11_init 172 = .ok (.putfield 82, 3) := by decide +kernel
theorem dX11_init_175 : decode cX11_init 175 = .ok (.return_, 1) := by decide +kernel
theorem dX11_rule_0 : decode cX11_rule 0 = .ok (.iload_n 1, 1) := by decide +kernel
theorem dX11_rule_1 : decode cX11_rule 1 = .ok (.ifCond .lt 26, 3) := by decide +kernel
theorem dX11_rule_4 : decode cX11_rule 4 = .ok (.iload_n 1, 1) := by decide +kernel
theorem dX11_rule_5 : decode cX11_rule 5 = .ok (.iconst 4, 1) := by decide +kernel
theorem dX11_rule_6 : decode cX11_rule 6 = .ok (.if_icmp .gt 21, 3) := by decide +kernel
theorem dX11_rule_9 : decode cX11_rule 9 = .ok (.iload_n 2, 1) := by decide +kernel
theorem dX11_rule_10 : decode cX11_rule 10 = .ok (.getstatic 85, 3) := by decide +kernel
theorem dX11_rule_13 : decode cX11_rule 13 = .ok (.iload_n 1, 1) := by decide +kernel
theorem dX11_rule_14 : decode cX11_rule 14 = .ok (.iaload, 1) := by decide +kernel
theorem dX11_rule_15 : decode cX11_rule 15 = .ok (.if_icmp .lt 12, 3) := by decide +kernel
theorem dX11_rule_18 : decode cX11_rule 18 = .ok (.iload_n 2, 1) := by decide +kernel
theorem dX11_rule_19 : decode cX11_rule 19 = .ok (.getstatic 88, 3) := by decide +kernel
theorem dX11_rule_22 : decode cX11_rule 22 = .ok (.iload_n 1, 1) := by decide +kernel
theorem dX11_rule_23 : decode cX11_rule 23 = .ok (.iaload, 1) := by decide +kernel
theorem dX11_rule_24 : decode cX11_rule 24 = .ok (.if_icmp .le 9, 3) := by decide +kernel
theorem dX11_rule_27 : decode cX11_rule 27 = .ok (.aload_n 0, 1) := by decide +kernel
theorem dX11_rule_28 : decode cX11_rule 28 = .ok (.iconst 1, 1) := by decide +kernel
theorem dX11_rule_29 : decode cX11_rule 29 = .ok (.invokevirtual 91, 3) := by decide +kernel
theorem dX11_rule_32 : decode cX11_rule 32 = .ok (.ireturn, 1) := by decide +kernel
theorem dX11_rule_33 : decode cX11_rule 33 = .ok (.aload_n 0, 1) := by decide +kernel
theorem dX11_rule_34 : decode cX11_rule 34 = .ok (.getfield 10, 3) := by decide +kernel
theorem dX11_rule_37 : decode cX11_rule 37 = .ok (.getfield 95, 3) := by decide +kernel
theorem dX11_rule_40 : decode cX11_rule 40 = .ok (.iload_n 1, 1) := by decide +kernel
theorem dX11_rule_41 : decode cX11_rule 41 = .ok (.iaload, 1) := by decide +kernel
theorem dX11_rule_42 : decode cX11_rule 42 = .ok (.istore_n 3, 1) := by decide +kernel
theorem dX11_rule_43 : decode cX11_rule 43 = .ok (.aload_n 0, 1) := by decide +kernel
theorem dX11_rule_44 : decode cX11_rule 44 = .ok (.getfield 10, 3) := by decide +kernel
theorem dX11_rule_47 : decode cX11_rule 47 = .ok (.getfield 95, 3) := by decide +kernel
theorem dX11_rule_50 : decode cX11_rule 50 = .ok (.iload_n 1, 1) := by decide +kernel
theorem dX11_rule_51 : decode cX11_rule 51 = .ok (.iload_n 2, 1) := by decide +kernel
theorem dX11_rule_52 : decode cX11_rule 52 = .ok (.iastore, 1) := by decide +kernel
theorem dX11_rule_53 : decode cX11_rule 53 = .ok (.iload_n 3, 1) := by decide +kernel
theorem dX11_rule_54 : decode cX11_rule 54 = .ok (.ireturn, 1) := by decide +kernel
theorem dX11_way_0 : decode cX11_way 0 = .ok (.iload_n 1, 1) := by decide +kernel
theorem dX11_way_1 : decode cX11_way 1 = .ok (.bipush 69, 2) := by decide +kernel
theorem dX11_way_3 : decode cX11_way 3 = .ok (.invokestatic 98, 3) := by decide +kernel
theorem dX11_way_6 : decode cX11_way 6 = .ok (.ifCond .eq 19, 3) := by decide +kernel
theorem dX11_way_9 : decode cX11_way 9 = .ok (.iload_n 2, 1) := by decide +kernel
theorem dX11_way_10 : decode cX11_way 10 = .ok (.bipush 99, 2) := by decide +kernel
theorem dX11_way_12 : decode cX11_way 12 = .ok (.invokestatic 98, 3) := by decide +kernel
theorem dX11_way_15 : decode cX11_way 15 = .ok (.ifCond .eq 10, 3) := by decide +kernel
theorem dX11_way_18 : decode cX11_way 18 = .ok (.iload_n 3, 1) := by decide +kernel
theorem dX11_way_19 : decode cX11_way 19 = .ok (.invokestatic 102, 3) := by decide +kernel
theorem dX11_way_22 : decode cX11_way 22 = .ok (.ifCond .ne 9, 3) := by decide +kernel
theorem dX11_way_25 : decode cX11_way 25 = .ok (.aload_n 0, 1) := by decide +kernel
theorem dX11_way_26 : decode cX11_way 26 = .ok (.iconst 1, 1) := by decide +kernel
theorem dX11_way_27 : decode cX11_way 27 = .ok (.invokevirtual 91, 3) := by decide +kernel
theorem dX11_way_30 : decode cX11_way 30 = .ok (.ireturn, 1) := by decide +kernel
theorem dX11_way_31 : decode cX11_way 31 = .ok (.aload_n 0, 1) := by decide +kernel
theorem dX11_way_32 : decode cX11_way 32 = .ok (.getfield 10, 3) := by decide +kernel
theorem dX11_way_35 : decode cX11_way 35 = .ok (.getfield 106, 3) := by decide +kernel
theorem dX11_way_38 : decode cX11_way 38 = .ok (.bipush 6, 2) := by decide +kernel
theorem dX11_way_40 : decode cX11_way 40 = .ok (.if_icmp .lt 9, 3) := by decide +kernel
theorem dX11_way_43 : decode cX11_way 43 = .ok (.aload_n 0, 1) := by decide +kernel
theorem dX11_way_44 : decode cX11_way 44 = .ok (.iconst 4, 1) := by decide +kernel
theorem dX11_way_45 : decode cX11_way 45 = .ok (.invokevirtual 91, 3) := by decide +kernel
theorem dX11_way_48 : decode cX11_way 48 = .ok (.ireturn, 1) := by decide +kernel
theorem dX11_way_49 : decode cX11_way 49 = .ok (.aload_n 0, 1) := by decide +kernel
theorem dX11_way_50 : decode cX11_way 50 = .ok (.getfield 10, 3) := by decide +kernel
theorem dX11_way_53 : decode cX11_way 53 = .ok (.getfield 106, 3) := by decide +kernel
theorem dX11_way_56 : decode cX11_way 56 = .ok (.istore 4, 2) := by decide +kernel
theorem dX11_way_58 : decode cX11_way 58 = .ok (.aload_n 0, 1) := by decide +kernel
theorem dX11_way_59 : decode cX11_way 59 = .ok (.getfield 10, 3) := by decide +kernel
theorem dX11_way_62 : decode cX11_way 62 = .ok (.getfield 109, 3) := by decide +kernel
theorem dX11_way_65 : decode cX11_way 65 = .ok (.iload 4, 2) := by decide +kernel
theorem dX11_way_67 : decode cX11_way 67 = .ok (.aaload, 1) := by decide +kernel
theorem dX11_way_68 : decode cX11_way 68 = .ok (.astore 5, 2) := by decide +kernel
theorem dX11_way_70 : decode cX11_way 70 = .ok (.aload 5, 2) := by decide +kernel
theorem dX11_way_72 : decode cX11_way 72 = .ok (.iconst 0, 1) := by decide +kernel
theorem dX11_way_73 : decode cX11_way 73 = .ok (.iload_n 1, 1) := by decide +kernel
theorem dX11_way_74 : decode cX11_way 74 = .ok (.bipush 10, 2) := by decide +kernel
theorem dX11_way_76 : decode cX11_way 76 = .ok (.idiv, 1) := by decide +kernel
theorem dX11_way_77 : decode cX11_way 77 = .ok (.iastore, 1) := by decide +kernel
theorem dX11_way_78 : decode cX11_way 78 = .ok (.aload 5, 2) := by decide +kernel
theorem dX11_way_80 : decode cX11_way 80 = .ok (.iconst 1, 1) := by decide +kernel
theorem dX11_way_81 : decode cX11_way 81 = .ok (.iload_n 1, 1) := by decide +kernel
theorem dX11_way_82 : decode cX11_way 82 = .ok (.bipush 10, 2) := by decide +kernel
theorem dX11_way_84 : decode cX11_way 84 = .ok (.irem, 1) := by decide +kernel
theorem dX11_way_85 : decode cX11_way 85 = .ok (.iastore, 1) := by decide +kernel
theorem dX11_way_86 : decode cX11_way 86 = .ok (.aload 5, 2) := by decide +kernel
theorem dX11_way_88 : decode cX11_way 88 = .ok (.iconst 2, 1) := by decide +kernel
theorem dX11_way_89 : decode cX11_way 89 = .ok (.iload_n 2, 1) := by decide +kernel
theorem dX11_way_90 : decode cX11_way 90 = .ok (.iastore, 1) := by decide +kernel
theorem dX11_way_91 : decode cX11_way 91 = .ok (.aload 5, 2) := by decide +kernel
theorem dX11_way_93 : decode cX11_way 93 = .ok (.iconst 3, 1) := by decide +kernel
theorem dX11_way_94 : decode cX11_way 94 = .ok (.iload_n 3, 1) := by decide +kernel
theorem dX11_way_95 : decode cX11_way 95 = .ok (.iastore, 1) := by decide +kernel
theorem dX11_way_96 : decode cX11_way 96 = .ok (.aload 5, 2) := by decide +kernel
theorem dX11_way_98 : decode cX11_way 98 = .ok (.iconst 4, 1) := by decide +kernel
theorem dX11_way_99 : decode cX11_way 99 = .ok (.iconst 0, 1) := by decide +kernel
theorem dX11_way_100 : decode cX11_way 100 = .ok (.iastore, 1) := by decide +kernel
theorem dX11_way_101 : decode cX11_way 101 = .ok (.aload_n 0, 1) := by decide +kernel
theorem dX11_way_102 : decode cX11_way 102 = .ok (.getfield 10, 3) := by decide +kernel
theorem dX11_way_105 : decode cX11_way 105 = .ok (.dup, 1) := by decide +kernel
theorem dX11_way_106 : decode cX11_way 106 = .ok (.getfield 106, 3) := by decide +kernel
theorem dX11_way_109 : decode cX11_way 109 = .ok (.iconst 1, 1) := by decide +kernel
theorem dX11_way_110 : decode cX11_way 110 = .ok (.iadd, 1) := by decide +kernel
theorem dX11_way_111 : decode cX11_way 111 = .ok (.putfield 106, 3) := by decide +kernel
theorem dX11_way_114 : decode cX11_way 114 = .ok (.iload 4, 2) := by decide +kernel
theorem dX11_way_116 : decode cX11_way 116 = .ok (.ireturn, 1) := by decide +kernel
theorem dX11_ofWay_0 : decode cX11_ofWay 0 = .ok (.aload_n 0, 1) := by decide +kernel
theorem dX11_ofWay_1 : decode cX11_ofWay 1 = .ok (.iload_n 1, 1) := by decide +kernel
theorem dX11_ofWay_2 : decode cX11_ofWay 2 = .ok (.invokevirtual 112, 3) := by decide +kernel
theorem dX11_ofWay_5 : decode cX11_ofWay 5 = .ok (.ifCond .eq 12, 3) := by decide +kernel
theorem dX11_ofWay_8 : decode cX11_ofWay 8 = .ok (.iload_n 2, 1) := by decide +kernel
theorem dX11_ofWay_9 : decode cX11_ofWay 9 = .ok (.bipush 6, 2) := by decide +kernel
theorem dX11_ofWay_11 : decode cX11_ofWay 11 = .ok (.invokestatic 98, 3) := by decide +kernel
theorem dX11_ofWay_14 : decode cX11_ofWay 14 = .ok (.ifCond .ne 9, 3) := by decide +kernel
theorem dX11_ofWay_17 : decode cX11_ofWay 17 = .ok (.aload_n 0, 1) := by decide +kernel
theorem dX11_ofWay_18 : decode cX11_ofWay 18 = .ok (.iconst 1, 1) := by decide +kernel
theorem dX11_ofWay_19 : decode cX11_ofWay 19 = .ok (.invokevirtual 91, 3) := by decide +kernel
theorem dX11_ofWay_22 : decode cX11_ofWay 22 = .ok (.ireturn, 1) := by decide +kernel
theorem dX11_ofWay_23 : decode cX11_ofWay 23 = .ok (.iload_n 2, 1) := by decide +kernel
theorem dX11_ofWay_24 : decode cX11_ofWay 24 = .ok (.iconst 5, 1) := by decide +kernel
theorem dX11_ofWay_25 : decode cX11_ofWay 25 = .ok (.if_icmp .ne 16, 3) := by decide +kernel
theorem dX11_ofWay_28 : decode cX11_ofWay 28 = .ok (.aload_n 0, 1) := by decide +kernel
theorem dX11_ofWay_29 : decode cX11_ofWay 29 = .ok (.iload_n 1, 1) := by decide +kernel
theorem dX11_ofWay_30 : decode cX11_ofWay 30 = .ok (.aload_n 0, 1) := by decide +kernel
theorem dX11_ofWay_31 : decode cX11_ofWay 31 = .ok (.getfield 10, 3) := by decide +kernel
theorem dX11_ofWay_34 : decode cX11_ofWay 34 = .ok (.getfield 115, 3) := by decide +kernel
theorem dX11_ofWay_37 : decode cX11_ofWay 37 = .ok (.invokevirtual 118, 3) := by decide +kernel
theorem dX11_ofWay_40 : decode cX11_ofWay 40 = .ok (.ireturn, 1) := by decide +kernel
theorem dX11_ofWay_41 : decode cX11_ofWay 41 = .ok (.iload_n 2, 1) := by decide +kernel
theorem dX11_ofWay_42 : decode cX11_ofWay 42 = .ok (.bipush 6, 2) := by decide +kernel
theorem dX11_ofWay_44 : decode cX11_ofWay 44 = .ok (.if_icmp .ne 18, 3) := by decide +kernel
theorem dX11_ofWay_47 : decode cX11_ofWay 47 = .ok (.aload_n 0, 1) := by decide +kernel
theorem dX11_ofWay_48 : decode cX11_ofWay 48 = .ok (.iload_n 1, 1) := by decide +kernel
theorem dX11_ofWay_49 : decode cX11_ofWay 49 = .ok (.aload_n 0, 1) := by decide +kernel
theorem dX11_ofWay_50 : decode cX11_ofWay 50 = .ok (.getfield 10, 3) := by decide +kernel
theorem dX11_ofWay_53 : decode cX11_ofWay 53 = .ok (.getfield 95, 3) := by decide +kernel
theorem dX11_ofWay_56 : decode cX11_ofWay 56 = .ok (.iconst 1, 1) := by decide +kernel
theorem dX11_ofWay_57 : decode cX11_ofWay 57 = .ok (.iaload, 1) := by decide +kernel
theorem dX11_ofWay_58 : decode cX11_ofWay 58 = .ok (.invokevirtual 122, 3) := by decide +kernel
theorem dX11_ofWay_61 : decode cX11_ofWay 61 = .ok (.ireturn, 1) := by decide +kernel
theorem dX11_ofWay_62 : decode cX11_ofWay 62 = .ok (.aload_n 0, 1) := by decide +kernel
theorem dX11_ofWay_63 : decode cX11_ofWay 63 = .ok (.getfield 10, 3) := by decide +kernel
theorem dX11_ofWay_66 : decode cX11_ofWay 66 = .ok (.getfield 109, 3) := by decide +kernel
theorem dX11_ofWay_69 : decode cX11_ofWay 69 = .ok (.iload_n 1, 1) := by decide +kernel
theorem dX11_ofWay_70 : decode cX11_ofWay 70 = .ok (.aaload, 1) := by decide +kernel
theorem dX11_ofWay_71 : decode cX11_ofWay 71 = .ok (.iload_n 2, 1) := by decide +kernel
theorem dX11_ofWay_72 : decode cX11_ofWay 72 = .ok (.iaload, 1) := by decide +kernel
theorem dX11_ofWay_73 : decode cX11_ofWay 73 = .ok (.ireturn, 1) := by decide +kernel
theorem dX11_change_0 : decode cX11_change 0 = .ok (.aload_n 0, 1) := by decide +kernel
theorem dX11_change_1 : decode cX11_change 1 = .ok (.iload_n 1, 1) := by decide +kernel
theorem dX11_change_2 : decode cX11_change 2 = .ok (.invokevirtual 112, 3) := by decide +kernel
theorem dX11_change_5 : decode cX11_change 5 = .ok (.ifCond .eq 24, 3) := by decide +kernel
theorem dX11_change_8 : decode cX11_change 8 = .ok (.iload_n 2, 1) := by decide +kernel
theorem dX11_change_9 : decode cX11_change 9 = .ok (.iconst 2, 1) := by decide +kernel
theorem dX11_change_10 : decode cX11_change 10 = .ok (.invokestatic 98, 3) := by decide +kernel
theorem dX11_change_13 : decode cX11_change 13 = .ok (.ifCond .eq 16, 3) := by decide +kernel
theorem dX11_change_16 : decode cX11_change 16 = .ok (.iload_n 3, 1) := by decide +kernel
theorem dX11_change_17 : decode cX11_change 17 = .ok (.iconst 2, 1) := by decide +kernel
theorem dX11_change_18 : decode cX11_change 18 = .ok (.iload_n 2, 1) := by decide +kernel
theorem dX11_change_19 : decode cX11_change 19 = .ok (.iadd, 1) := by decide +kernel
theorem dX11_change_20 : decode cX11_change 20 = .ok (.invokestatic 125, 3) := by decide +kernel
theorem dX11_change_23 : decode cX11_change 23 = .ok (.invokestatic 98, 3) := by decide +kernel
theorem dX11_change_26 : decode cX11_change 26 = .ok (.ifCond .ne 9, 3) := by decide +kernel
theorem dX11_change_29 : decode cX11_change 29 = .ok (.aload_n 0, 1) := by decide +kernel
theorem dX11_change_30 : decode cX11_change 30 = .ok (.iconst 1, 1) := by decide +kernel
theorem dX11_change_31 : decode cX11_change 31 = .ok (.invokevirtual 91, 3) := by decide +kernel
theorem dX11_change_34 : decode cX11_change 34 = .ok (.ireturn, 1) := by decide +kernel
theorem dX11_change_35 : decode cX11_change 35 = .ok (.aload_n 0, 1) := by decide +kernel
theorem dX11_change_36 : decode cX11_change 36 = .ok (.getfield 10, 3) := by decide +kernel
theorem dX11_change_39 : decode cX11_change 39 = .ok (.getfield 109, 3) := by decide +kernel
theorem dX11_change_42 : decode cX11_change 42 = .ok (.iload_n 1, 1) := by decide +kernel
theorem dX11_change_43 : decode cX11_change 43 = .ok (.aaload, 1) := by decide +kernel
theorem dX11_change_44 : decode cX11_change 44 = .ok (.iconst 2, 1) := by decide +kernel
theorem dX11_change_45 : decode cX11_change 45 = .ok (.iload_n 2, 1) := by decide +kernel
theorem dX11_change_46 : decode cX11_change 46 = .ok (.iadd, 1) := by decide +kernel
theorem dX11_change_47 : decode cX11_change 47 = .ok (.iaload, 1) := by decide +kernel
theorem dX11_change_48 : decode cX11_change 48 = .ok (.istore 4, 2) := by decide +kernel
theorem dX11_change_50 : decode cX11_change 50 = .ok (.aload_n 0, 1) := by decide +kernel
theorem dX11_change_51 : decode cX11_change 51 = .ok (.getfield 10, 3) := by decide +kernel
theorem dX11_change_54 : decode cX11_change 54 = .ok (.getfield 109, 3) := by decide +kernel
theorem dX11_change_57 : decode cX11_change 57 = .ok (.iload_n 1, 1) := by decide +kernel
theorem dX11_change_58 : decode cX11_change 58 = .ok (.aaload, 1) := by decide +kernel
theorem dX11_change_59 : decode cX11_change 59 = .ok (.iconst 2, 1) := by decide +kernel
theorem dX11_change_60 : decode cX11_change 60 = .ok (.iload_n 2, 1) := by decide +kernel
theorem dX11_change_61 : decode cX11_change 61 = .ok (.iadd, 1) := by decide +kernel
theorem dX11_change_62 : decode cX11_change 62 = .ok (.iload_n 3, 1) := by decide +kernel
theorem dX11_change_63 : decode cX11_change 63 = .ok (.iastore, 1) := by decide +kernel
theorem dX11_change_64 : decode cX11_change 64 = .ok (.iload 4, 2) := by decide +kernel
theorem dX11_change_66 : decode cX11_change 66 = .ok (.ireturn, 1) := by decide +kernel
theorem dX11_become_0 : decode cX11_become 0 = .ok (.aload_n 0, 1) := by decide +kernel
theorem dX11_become_1 : decode cX11_become 1 = .ok (.iload_n 1, 1) := by decide +kernel
theorem dX11_become_2 : decode cX11_become 2 = .ok (.invokevirtual 112, 3) := by decide +kernel
theorem dX11_become_5 : decode cX11_become 5 = .ok (.ifCond .eq 12, 3) := by decide +kernel
theorem dX11_become_8 : decode cX11_become 8 = .ok (.iload_n 2, 1) := by decide +kernel
theorem dX11_become_9 : decode cX11_become 9 = .ok (.bipush 69, 2) := by decide +kernel
theorem dX11_become_11 : decode cX11_become 11 = .ok (.invokestatic 98, 3) := by decide +kernel
theorem dX11_become_14 : decode cX11_become 14 = .ok (.ifCond .ne 9, 3) := by decide +kernel
theorem dX11_become_17 : decode cX11_become 17 = .ok (.aload_n 0, 1) := by decide +kernel
theorem dX11_become_18 : decode cX11_become 18 = .ok (.iconst 1, 1) := by decide +kernel
theorem dX11_become_19 : decode cX11_become 19 = .ok (.invokevirtual 91, 3) := by decide +kernel
theorem dX11_become_22 : decode cX11_become 22 = .ok (.ireturn, 1) := by decide +kernel
theorem dX11_become_23 : decode cX11_become 23 = .ok (.aload_n 0, 1) := by decide +kernel
theorem dX11_become_24 : decode cX11_become 24 = .ok (.getfield 10, 3) := by decide +kernel
theorem dX11_become_27 : decode cX11_become 27 = .ok (.getfield 109, 3) := by decide +kernel
theorem dX11_become_30 : decode cX11_become 30 = .ok (.iload_n 1, 1) := by decide +kernel
theorem dX11_become_31 : decode cX11_become 31 = .ok (.aaload, 1) := by decide +kernel
theorem dX11_become_32 : decode cX11_become 32 = .ok (.iconst 0, 1) := by decide +kernel
theorem dX11_become_33 : decode cX11_become 33 = .ok (.iaload, 1) := by decide +kernel
theorem dX11_become_34 : decode cX11_become 34 = .ok (.istore_n 3, 1) := by decide +kernel
theorem dX11_become_35 : decode cX11_become 35 = .ok (.aload_n 0, 1) := by decide +kernel
theorem dX11_become_36 : decode cX11_become 36 = .ok (.getfield 10, 3) := by decide +kernel
theorem dX11_become_39 : decode cX11_become 39 = .ok (.getfield 109, 3) := by decide +kernel
theorem dX11_become_42 : decode cX11_become 42 = .ok (.iload_n 1, 1) := by decide +kernel
theorem dX11_become_43 : decode cX11_become 43 = .ok (.aaload, 1) := by decide +kernel
theorem dX11_become_44 : decode cX11_become 44 = .ok (.iconst 0, 1) := by decide +kernel
theorem dX11_become_45 : decode cX11_become 45 = .ok (.iload_n 2, 1) := by decide +kernel
theorem dX11_become_46 : decode cX11_become 46 = .ok (.bipush 10, 2) := by decide +kernel
theorem dX11_become_48 : decode cX11_become 48 = .ok (.idiv, 1) := by decide +kernel
theorem dX11_become_49 : decode cX11_become 49 = .ok (.iastore, 1) := by decide +kernel
theorem dX11_become_50 : decode cX11_become 50 = .ok (.aload_n 0, 1) := by decide +kernel
theorem dX11_become_51 : decode cX11_become 51 = .ok (.getfield 10, 3) := by decide +kernel
theorem dX11_become_54 : decode cX11_become 54 = .ok (.getfield 109, 3) := by decide +kernel
theorem dX11_become_57 : decode cX11_become 57 = .ok (.iload_n 1, 1) := by decide +kernel
theorem dX11_become_58 : decode cX11_become 58 = .ok (.aaload, 1) := by decide +kernel
theorem dX11_become_59 : decode cX11_become 59 = .ok (.iconst 1, 1) := by decide +kernel
theorem dX11_become_60 : decode cX11_become 60 = .ok (.iload_n 2, 1) := by decide +kernel
theorem dX11_become_61 : decode cX11_become 61 = .ok (.bipush 10, 2) := by decide +kernel
theorem dX11_become_63 : decode cX11_become 63 = .ok (.irem, 1) := by decide +kernel
theorem dX11_become_64 : decode cX11_become 64 = .ok (.iastore, 1) := by decide +kernel
theorem dX11_become_65 : decode cX11_become 65 = .ok (.iload_n 3, 1) := by decide +kernel
theorem dX11_become_66 : decode cX11_become 66 = .ok (.ireturn, 1) := by decide +kernel
theorem dX11_as_0 : decode cX11_as 0 = .ok (.aload_n 0, 1) := by decide +kernel
theorem dX11_as_1 : decode cX11_as 1 = .ok (.iload_n 1, 1) := by decide +kernel
theorem dX11_as_2 : decode cX11_as 2 = .ok (.invokevirtual 112, 3) := by decide +kernel
theorem dX11_as_5 : decode cX11_as 5 = .ok (.ifCond .eq 16, 3) := by decide +kernel
theorem dX11_as_8 : decode cX11_as 8 = .ok (.iload_n 2, 1) := by decide +kernel
theorem dX11_as_9 : decode cX11_as 9 = .ok (.getstatic 128, 3) := by decide +kernel
theorem dX11_as_12 : decode cX11_as 12 = .ok (.arraylength, 1) := by decide +kernel
theorem dX11_as_13 : decode cX11_as 13 = .ok (.iconst 1, 1) := by decide +kernel
theorem dX11_as_14 : decode cX11_as 14 = .ok (.isub, 1) := by decide +kernel
theorem dX11_as_15 : decode cX11_as 15 = .ok (.invokestatic 98, 3) := by decide +kernel
theorem dX11_as_18 : decode cX11_as 18 = .ok (.ifCond .ne 9, 3) := by decide +kernel
theorem dX11_as_21 : decode cX11_as 21 = .ok (.aload_n 0, 1) := by decide +kernel
theorem dX11_as_22 : decode cX11_as 22 = .ok (.iconst 1, 1) := by decide +kernel
theorem dX11_as_23 : decode cX11_as 23 = .ok (.invokevirtual 91, 3) := by decide +kernel
theorem dX11_as_26 : decode cX11_as 26 = .ok (.ireturn, 1) := by decide +kernel
theorem dX11_as_27 : decode cX11_as 27 = .ok (.aload_n 0, 1) := by decide +kernel
theorem dX11_as_28 : decode cX11_as 28 = .ok (.getfield 10, 3) := by decide +kernel
theorem dX11_as_31 : decode cX11_as 31 = .ok (.getfield 109, 3) := by decide +kernel
theorem dX11_as_34 : decode cX11_as 34 = .ok (.iload_n 1, 1) := by decide +kernel
theorem dX11_as_35 : decode cX11_as 35 = .ok (.aaload, 1) := by decide +kernel
theorem dX11_as_36 : decode cX11_as 36 = .ok (.iconst 0, 1) := by decide +kernel
theorem dX11_as_37 : decode cX11_as 37 = .ok (.iaload, 1) := by decide +kernel
theorem dX11_as_38 : decode cX11_as 38 = .ok (.iload_n 2, 1) := by decide +kernel
theorem dX11_as_39 : decode cX11_as 39 = .ok (.invokestatic 131, 3) := by decide +kernel
theorem dX11_as_42 : decode cX11_as 42 = .ok (.ifCond .ne 9, 3) := by decide +kernel
theorem dX11_as_45 : decode cX11_as 45 = .ok (.aload_n 0, 1) := by decide +kernel
theorem dX11_as_46 : decode cX11_as 46 = .ok (.iconst 5, 1) := by decide +kernel
theorem dX11_as_47 : decode cX11_as 47 = .ok (.invokevirtual 91, 3) := by decide +kernel
theorem dX11_as_50 : decode cX11_as 50 = .ok (.ireturn, 1) := by decide +kernel
theorem dX11_as_51 : decode cX11_as 51 = .ok (.aload_n 0, 1) := by decide +kernel
theorem dX11_as_52 : decode cX11_as 52 = .ok (.getfield 10, 3) := by decide +kernel
theorem dX11_as_55 : decode cX11_as 55 = .ok (.getfield 109, 3) := by decide +kernel
theorem dX11_as_58 : decode cX11_as 58 = .ok (.iload_n 1, 1) := by decide +kernel
theorem dX11_as_59 : decode cX11_as 59 = .ok (.aaload, 1) := by decide +kernel
theorem dX11_as_60 : decode cX11_as 60 = .ok (.iconst 1, 1) := by decide +kernel
theorem dX11_as_61 : decode cX11_as 61 = .ok (.iaload, 1) := by decide +kernel
theorem dX11_as_62 : decode cX11_as 62 = .ok (.ireturn, 1) := by decide +kernel
theorem dX11_within_0 : decode cX11_within 0 = .ok (.iload_n 0, 1) := by decide +kernel
theorem dX11_within_1 : decode cX11_within 1 = .ok (.ifCond .lt 12, 3) := by decide +kernel
theorem dX11_within_4 : decode cX11_within 4 = .ok (.iload_n 0, 1) := by decide +kernel
theorem dX11_within_5 : decode cX11_within 5 = .ok (.iload_n 1, 1) := by decide +kernel
theorem dX11_within_6 : decode cX11_within 6 = .ok (.if_icmp .gt 7, 3) := by decide +kernel
theorem dX11_within_9 : decode cX11_within 9 = .ok (.iconst 1, 1) := by decide +kernel
theorem dX11_within_10 : decode cX11_within 10 = .ok (.goto 4, 3) := by decide +kernel
theorem dX11_within_13 : decode cX11_within 13 = .ok (.iconst 0, 1) := by decide +kernel
theorem dX11_within_14 : decode cX11_within 14 = .ok (.ireturn, 1) := by decide +kernel
theorem dX11_isWay_0 : decode cX11_isWay 0 = .ok (.iload_n 1, 1) := by decide +kernel
theorem dX11_isWay_1 : decode cX11_isWay 1 = .ok (.ifCond .lt 18, 3) := by decide +kernel
theorem dX11_isWay_4 : decode cX11_isWay 4 = .ok (.iload_n 1, 1) := by decide +kernel
theorem dX11_isWay_5 : decode cX11_isWay 5 = .ok (.aload_n 0, 1) := by decide +kernel
theorem dX11_isWay_6 : decode cX11_isWay 6 = .ok (.getfield 10, 3) := by decide +kernel
theorem dX11_isWay_9 : decode cX11_isWay 9 = .ok (.getfield 106, 3) := by decide +kernel
theorem dX11_isWay_12 : decode cX11_isWay 12 = .ok (.if_icmp .ge 7, 3) := by decide +kernel
theorem dX11_isWay_15 : decode cX11_isWay 15 = .ok (.iconst 1, 1) := by decide +kernel
theorem dX11_isWay_16 : decode cX11_isWay 16 = .ok (.goto 4, 3) := by decide +kernel
theorem dX11_isWay_19 : decode cX11_isWay 19 = .ok (.iconst 0, 1) := by decide +kernel
theorem dX11_isWay_20 : decode cX11_isWay 20 = .ok (.ireturn, 1) := by decide +kernel
theorem dX11_isPlace_0 : decode cX11_isPlace 0 = .ok (.iload_n 0, 1) := by decide +kernel
theorem dX11_isPlace_1 : decode cX11_isPlace 1 = .ok (.iconst 5, 1) := by decide +kernel
theorem dX11_isPlace_2 : decode cX11_isPlace 2 = .ok (.invokestatic 98, 3) := by decide +kernel
theorem dX11_isPlace_5 : decode cX11_isPlace 5 = .ok (.ireturn, 1) := by decide +kernel
theorem dX11_mostOf_0 : decode cX11_mostOf 0 = .ok (.iload_n 0, 1) := by decide +kernel
theorem dX11_mostOf_1 : decode cX11_mostOf 1 = .ok (.iconst 2, 1) := by decide +kernel
theorem dX11_mostOf_2 : decode cX11_mostOf 2 = .ok (.if_icmp .ne 6, 3) := by decide +kernel
theorem dX11_mostOf_5 : decode cX11_mostOf 5 = .ok (.bipush 99, 2) := by decide +kernel
theorem dX11_mostOf_7 : decode cX11_mostOf 7 = .ok (.ireturn, 1) := by decide +kernel
theorem dX11_mostOf_8 : decode cX11_mostOf 8 = .ok (.iload_n 0, 1) := by decide +kernel
theorem dX11_mostOf_9 : decode cX11_mostOf 9 = .ok (.iconst 3, 1) := by decide +kernel
theorem dX11_mostOf_10 : decode cX11_mostOf 10 = .ok (.if_icmp .ne 7, 3) := by decide +kernel
theorem dX11_mostOf_13 : decode cX11_mostOf 13 = .ok (.iconst 5, 1) := by decide +kernel
theorem dX11_mostOf_14 : decode cX11_mostOf 14 = .ok (.goto 4, 3) := by decide +kernel
theorem dX11_mostOf_17 : decode cX11_mostOf 17 = .ok (.iconst 1, 1) := by decide +kernel
theorem dX11_mostOf_18 : decode cX11_mostOf 18 = .ok (.ireturn, 1) := by decide +kernel
theorem dX11_isUnder_0 : decode cX11_isUnder 0 = .ok (.iload_n 0, 1) := by decide +kernel
theorem dX11_isUnder_1 : decode cX11_isUnder 1 = .ok (.istore_n 2, 1) := by decide +kernel
theorem dX11_isUnder_2 : decode cX11_isUnder 2 = .ok (.iconst 0, 1) := by decide +kernel
theorem dX11_isUnder_3 : decode cX11_isUnder 3 = .ok (.istore_n 3, 1) := by decide +kernel
theorem dX11_isUnder_4 : decode cX11_isUnder 4 = .ok (.iload_n 3, 1) := by decide +kernel
theorem dX11_isUnder_5 : decode cX11_isUnder 5 = .ok (.getstatic 128, 3) := by decide +kernel
theorem dX11_isUnder_8 : decode cX11_isUnder 8 = .ok (.arraylength, 1) := by decide +kernel
theorem dX11_isUnder_9 : decode cX11_isUnder 9 = .ok (.if_icmp .ge 34, 3) := by decide +kernel
theorem dX11_isUnder_12 : decode cX11_isUnder 12 = .ok (.iload_n 2, 1) := by decide +kernel
theorem dX11_isUnder_13 : decode cX11_isUnder 13 = .ok (.ifCond .lt 30, 3) := by decide +kernel
theorem dX11_isUnder_16 : decode cX11_isUnder 16 = .ok (.iload_n 2, 1) := by decide +kernel
theorem dX11_isUnder_17 : decode cX11_isUnder 17 = .ok (.getstatic 128, 3) := by decide +kernel
theorem dX11_isUnder_20 : decode cX11_isUnder 20 = .ok (.arraylength, 1) := by decide +kernel
theorem dX11_isUnder_21 : decode cX11_isUnder 21 = .ok (.if_icmp .ge 22, 3) := by decide +kernel
theorem dX11_isUnder_24 : decode cX11_isUnder 24 = .ok (.iload_n 2, 1) := by decide +kernel
theorem dX11_isUnder_25 : decode cX11_isUnder 25 = .ok (.iload_n 1, 1) := by decide +kernel
theorem dX11_isUnder_26 : decode cX11_isUnder 26 = .ok (.if_icmp .ne 5, 3) := by decide +kernel
theorem dX11_isUnder_29 : decode cX11_isUnder 29 = .ok (.iconst 1, 1) := by decide +kernel
theorem dX11_isUnder_30 : decode cX11_isUnder 30 = .ok (.ireturn, 1) := by decide +kernel
theorem dX11_isUnder_31 : decode cX11_isUnder 31 = .ok (.getstatic 128, 3) := by decide +kernel
theorem dX11_isUnder_34 : decode cX11_isUnder 34 = .ok (.iload_n 2, 1) := by decide +kernel
theorem dX11_isUnder_35 : decode cX11_isUnder 35 = .ok (.iaload, 1) := by decide +kernel
theorem dX11_isUnder_36 : decode cX11_isUnder 36 = .ok (.istore_n 2, 1) := by decide +kernel
theorem dX11_isUnder_37 : decode cX11_isUnder 37 = .ok (.iinc 3 1, 3) := by decide +kernel
theorem dX11_isUnder_40 : decode cX11_isUnder 40 = .ok (.goto (-36), 3) := by decide +kernel
theorem dX11_isUnder_43 : decode cX11_isUnder 43 = .ok (.iconst 0, 1) := by decide +kernel
theorem dX11_isUnder_44 : decode cX11_isUnder 44 = .ok (.ireturn, 1) := by decide +kernel
theorem dX11_isLost_0 : decode cX11_isLost 0 = .ok (.aload_n 0, 1) := by decide +kernel
theorem dX11_isLost_1 : decode cX11_isLost 1 = .ok (.getfield 10, 3) := by decide +kernel
theorem dX11_isLost_4 : decode cX11_isLost 4 = .ok (.getfield 109, 3) := by decide +kernel
theorem dX11_isLost_7 : decode cX11_isLost 7 = .ok (.iload_n 1, 1) := by decide +kernel
theorem dX11_isLost_8 : decode cX11_isLost 8 = .ok (.aaload, 1) := by decide +kernel
theorem dX11_isLost_9 : decode cX11_isLost 9 = .ok (.iconst 4, 1) := by decide +kernel
theorem dX11_isLost_10 : decode cX11_isLost 10 = .ok (.iaload, 1) := by decide +kernel
theorem dX11_isLost_11 : decode cX11_isLost 11 = .ok (.ifCond .eq 7, 3) := by decide +kernel
theorem dX11_isLost_14 : decode cX11_isLost 14 = .ok (.iconst 1, 1) := by decide +kernel
theorem dX11_isLost_15 : decode cX11_isLost 15 = .ok (.goto 4, 3) := by decide +kernel
theorem dX11_isLost_18 : decode cX11_isLost 18 = .ok (.iconst 0, 1) := by decide +kernel
theorem dX11_isLost_19 : decode cX11_isLost 19 = .ok (.ireturn, 1) := by decide +kernel
theorem dX11_lateAt_0 : decode cX11_lateAt 0 = .ok (.aload_n 0, 1) := by decide +kernel
theorem dX11_lateAt_1 : decode cX11_lateAt 1 = .ok (.getfield 10, 3) := by decide +kernel
theorem dX11_lateAt_4 : decode cX11_lateAt 4 = .ok (.getfield 109, 3) := by decide +kernel
theorem dX11_lateAt_7 : decode cX11_lateAt 7 = .ok (.iload_n 1, 1) := by decide +kernel
theorem dX11_lateAt_8 : decode cX11_lateAt 8 = .ok (.aaload, 1) := by decide +kernel
theorem dX11_lateAt_9 : decode cX11_lateAt 9 = .ok (.iconst 0, 1) := by decide +kernel
theorem dX11_lateAt_10 : decode cX11_lateAt 10 = .ok (.iaload, 1) := by decide +kernel
theorem dX11_lateAt_11 : decode cX11_lateAt 11 = .ok (.istore_n 3, 1) := by decide +kernel
theorem dX11_lateAt_12 : decode cX11_lateAt 12 = .ok (.aload_n 0, 1) := by decide +kernel
theorem dX11_lateAt_13 : decode cX11_lateAt 13 = .ok (.getfield 10, 3) := by decide +kernel
theorem dX11_lateAt_16 : decode cX11_lateAt 16 = .ok (.getfield 109, 3) := by decide +kernel
theorem dX11_lateAt_19 : decode cX11_lateAt 19 = .ok (.iload_n 1, 1) := by decide +kernel
theorem dX11_lateAt_20 : decode cX11_lateAt 20 = .ok (.aaload, 1) := by decide +kernel
theorem dX11_lateAt_21 : decode cX11_lateAt 21 = .ok (.iconst 1, 1) := by decide +kernel
theorem dX11_lateAt_22 : decode cX11_lateAt 22 = .ok (.iaload, 1) := by decide +kernel
theorem dX11_lateAt_23 : decode cX11_lateAt 23 = .ok (.istore 4, 2) := by decide +kernel
theorem dX11_lateAt_25 : decode cX11_lateAt 25 = .ok (.aload_n 0, 1) := by decide +kernel
theorem dX11_lateAt_26 : decode cX11_lateAt 26 = .ok (.getfield 48, 3) := by decide +kernel
theorem dX11_lateAt_29 : decode cX11_lateAt 29 = .ok (.iload_n 3, 1) := by decide +kernel
theorem dX11_lateAt_30 : decode cX11_lateAt 30 = .ok (.aaload, 1) := by decide +kernel
theorem dX11_lateAt_31 : decode cX11_lateAt 31 = .ok (.aload_n 0, 1) := by decide +kernel
theorem dX11_lateAt_32 : decode cX11_lateAt 32 = .ok (.iconst 0, 1) := by decide +kernel
theorem dX11_lateAt_33 : decode cX11_lateAt 33 = .ok (.iload 4, 2) := by decide +kernel
theorem dX11_lateAt_35 : decode cX11_lateAt 35 = .ok (.iload_n 3, 1) := by decide +kernel
theorem dX11_lateAt_36 : decode cX11_lateAt 36 = .ok (.iload_n 2, 1) := by decide +kernel
theorem dX11_lateAt_37 : decode cX11_lateAt 37 = .ok (.bipush 60, 2) := by decide +kernel
theorem dX11_lateAt_39 : decode cX11_lateAt 39 = .ok (.irem, 1) := by decide +kernel
theorem dX11_lateAt_40 : decode cX11_lateAt 40 = .ok (.invokevirtual 134, 3) := by decide +kernel
theorem dX11_lateAt_43 : decode cX11_lateAt 43 = .ok (.iload 4, 2) := by decide +kernel
theorem dX11_lateAt_45 : decode cX11_lateAt 45 = .ok (.invokevirtual 138, 3) := by decide +kernel
theorem dX11_lateAt_48 : decode cX11_lateAt 48 = .ok (.ireturn, 1) := by decide +kernel
theorem dX11_lastsWith_0 : decode cX11_lastsWith 0 = .ok (.aload_n 0, 1) := by decide +kernel
theorem dX11_lastsWith_1 : decode cX11_lastsWith 1 = .ok (.getfield 48, 3) := by decide +kernel
theorem dX11_lastsWith_4 : decode cX11_lastsWith 4 = .ok (.aload_n 0, 1) := by decide +kernel
theorem dX11_lastsWith_5 : decode cX11_lastsWith 5 = .ok (.getfield 10, 3) := by decide +kernel
theorem dX11_lastsWith_8 : decode cX11_lastsWith 8 = .ok (.getfield 109, 3) := by decide +kernel
theorem dX11_lastsWith_11 : decode cX11_lastsWith 11 = .ok (.iload_n 1, 1) := by decide +kernel
theorem dX11_lastsWith_12 : decode cX11_lastsWith 12 = .ok (.aaload, 1) := by decide +kernel
theorem dX11_lastsWith_13 : decode cX11_lastsWith 13 = .ok (.iconst 0, 1) := by decide +kernel
theorem dX11_lastsWith_14 : decode cX11_lastsWith 14 = .ok (.iaload, 1) := by decide +kernel
theorem dX11_lastsWith_15 : decode cX11_lastsWith 15 = .ok (.aaload, 1) := by decide +kernel
theorem dX11_lastsWith_16 : decode cX11_lastsWith 16 = .ok (.iload_n 2, 1) := by decide +kernel
theorem dX11_lastsWith_17 : decode cX11_lastsWith 17 = .ok (.invokevirtual 141, 3) := by decide +kernel
theorem dX11_lastsWith_20 : decode cX11_lastsWith 20 = .ok (.ireturn, 1) := by decide +kernel
theorem dX11_error_0 : decode cX11_error 0 = .ok (.aload_n 0, 1) := by decide +kernel
theorem dX11_error_1 : decode cX11_error 1 = .ok (.getfield 23, 3) := by decide +kernel
theorem dX11_error_4 : decode cX11_error 4 = .ok (.iload_n 1, 1) := by decide +kernel
theorem dX11_error_5 : decode cX11_error 5 = .ok (.dup2, 1) := by decide +kernel
theorem dX11_error_6 : decode cX11_error 6 = .ok (.iaload, 1) := by decide +kernel
theorem dX11_error_7 : decode cX11_error 7 = .ok (.iconst 1, 1) := by decide +kernel
theorem dX11_error_8 : decode cX11_error 8 = .ok (.iadd, 1) := by decide +kernel
theorem dX11_error_9 : decode cX11_error 9 = .ok (.iastore, 1) := by decide +kernel
theorem dX11_error_10 : decode cX11_error 10 = .ok (.ldc 144, 2) := by decide +kernel
theorem dX11_error_12 : decode cX11_error 12 = .ok (.iload_n 1, 1) := by decide +kernel
theorem dX11_error_13 : decode cX11_error 13 = .ok (.isub, 1) := by decide +kernel
theorem dX11_error_14 : decode cX11_error 14 = .ok (.ireturn, 1) := by decide +kernel
theorem dX11_feed_0 : decode cX11_feed 0 = .ok (.iload_n 3, 1) := by decide +kernel
theorem dX11_feed_1 : decode cX11_feed 1 = .ok (.iconst 1, 1) := by decide +kernel
theorem dX11_feed_2 : decode cX11_feed 2 = .ok (.if_icmp .lt 9, 3) := by decide +kernel
theorem dX11_feed_5 : decode cX11_feed 5 = .ok (.iload_n 3, 1) := by decide +kernel
theorem dX11_feed_6 : decode cX11_feed 6 = .ok (.bipush 8, 2) := by decide +kernel
theorem dX11_feed_8 : decode cX11_feed 8 = .ok (.if_icmp .le 9, 3) := by decide +kernel
theorem dX11_feed_11 : decode cX11_feed 11 = .ok (.aload_n 0, 1) := by decide +kernel
theorem dX11_feed_12 : decode cX11_feed 12 = .ok (.iconst 1, 1) := by decide +kernel
theorem dX11_feed_13 : decode cX11_feed 13 = .ok (.invokevirtual 91, 3) := by decide +kernel
theorem dX11_feed_16 : decode cX11_feed 16 = .ok (.ireturn, 1) := by decide +kernel
theorem dX11_feed_17 : decode cX11_feed 17 = .ok (.aload_n 0, 1) := by decide +kernel
theorem dX11_feed_18 : decode cX11_feed 18 = .ok (.getfield 10, 3) := by decide +kernel
theorem dX11_feed_21 : decode cX11_feed 21 = .ok (.getfield 145, 3) := by decide +kernel
theorem dX11_feed_24 : decode cX11_feed 24 = .ok (.iload_n 3, 1) := by decide +kernel
theorem dX11_feed_25 : decode cX11_feed 25 = .ok (.iadd, 1) := by decide +kernel
theorem dX11_feed_26 : decode cX11_feed 26 = .ok (.bipush 50, 2) := by decide +kernel
theorem dX11_feed_28 : decode cX11_feed 28 = .ok (.if_icmp .le 9, 3) := by decide +kernel
theorem dX11_feed_31 : decode cX11_feed 31 = .ok (.aload_n 0, 1) := by decide +kernel
theorem dX11_feed_32 : decode cX11_feed 32 = .ok (.iconst 4, 1) := by decide +kernel
theorem dX11_feed_33 : decode cX11_feed 33 = .ok (.invokevirtual 91, 3) := by decide +kernel
theorem dX11_feed_36 : decode cX11_feed 36 = .ok (.ireturn, 1) := by decide +kernel
theorem dX11_feed_37 : decode cX11_feed 37 = .ok (.iconst 0, 1) := by decide +kernel
theorem dX11_feed_38 : decode cX11_feed 38 = .ok (.istore 4, 2) := by decide +kernel
theorem dX11_feed_40 : decode cX11_feed 40 = .ok (.iload 4, 2) := by decide +kernel
theorem dX11_feed_42 : decode cX11_feed 42 = .ok (.iload_n 3, 1) := by decide +kernel
theorem dX11_feed_43 : decode cX11_feed 43 = .ok (.if_icmp .ge 49, 3) := by decide +kernel
theorem dX11_feed_46 : decode cX11_feed 46 = .ok (.aload_n 0, 1) := by decide +kernel
theorem dX11_feed_47 : decode cX11_feed 47 = .ok (.getfield 10, 3) := by decide +kernel
theorem dX11_feed_50 : decode cX11_feed 50 = .ok (.getfield 54, 3) := by decide +kernel
theorem dX11_feed_53 : decode cX11_feed 53 = .ok (.aload_n 0, 1) := by decide +kernel
theorem dX11_feed_54 : decode cX11_feed 54 = .ok (.getfield 10, 3) := by decide +kernel
theorem dX11_feed_57 : decode cX11_feed 57 = .ok (.getfield 145, 3) := by decide +kernel
theorem dX11_feed_60 : decode cX11_feed 60 = .ok (.lload_n 1, 1) := by decide +kernel
theorem dX11_feed_61 : decode cX11_feed 61 = .ok (.bipush 8, 2) := by decide +kernel
theorem dX11_feed_63 : decode cX11_feed 63 = .ok (.iload 4, 2) := by decide +kernel
theorem dX11_feed_65 : decode cX11_feed 65 = .ok (.imul, 1) := by decide +kernel
theorem dX11_feed_66 : decode cX11_feed 66 = .ok (.lushr, 1) := by decide +kernel
theorem dX11_feed_67 : decode cX11_feed 67 = .ok (.l2i, 1) := by decide +kernel
theorem dX11_feed_68 : decode cX11_feed 68 = .ok (.sipush 255, 3) := by decide +kernel
theorem dX11_feed_71 : decode cX11_feed 71 = .ok (.iand, 1) := by decide +kernel
theorem dX11_feed_72 : decode cX11_feed 72 = .ok (.iastore, 1) := by decide +kernel
theorem dX11_feed_73 : decode cX11_feed 73 = .ok (.aload_n 0, 1) := by decide +kernel
theorem dX11_feed_74 : decode cX11_feed 74 = .ok (.getfield 10, 3) := by decide +kernel
theorem dX11_feed_77 : decode cX11_feed 77 = .ok (.dup, 1) := by decide +kernel
theorem dX11_feed_78 : decode cX11_feed 78 = .ok (.getfield 145, 3) := by decide +kernel
theorem dX11_feed_81 : decode cX11_feed 81 = .ok (.iconst 1, 1) := by decide +kernel
theorem dX11_feed_82 : decode cX11_feed 82 = .ok (.iadd, 1) := by decide +kernel
theorem dX11_feed_83 : decode cX11_feed 83 = .ok (.putfield 145, 3) := by decide +kernel
theorem dX11_feed_86 : decode cX11_feed 86 = .ok (.iinc 4 1, 3) := by decide +kernel
theorem dX11_feed_89 : decode cX11_feed 89 = .ok (.goto (-49), 3) := by decide +kernel
theorem dX11_feed_92 : decode cX11_feed 92 = .ok (.aload_n 0, 1) := by decide +kernel
theorem dX11_feed_93 : decode cX11_feed 93 = .ok (.getfield 10, 3) := by decide +kernel
theorem dX11_feed_96 : decode cX11_feed 96 = .ok (.getfield 145, 3) := by decide +kernel
theorem dX11_feed_99 : decode cX11_feed 99 = .ok (.ireturn, 1) := by decide +kernel
theorem dX11_text_0 : decode cX11_text 0 = .ok (.iload_n 1, 1) := by decide +kernel
theorem dX11_text_1 : decode cX11_text 1 = .ok (.iconst 1, 1) := by decide +kernel
theorem dX11_text_2 : decode cX11_text 2 = .ok (.invokestatic 98, 3) := by decide +kernel
theorem dX11_text_5 : decode cX11_text 5 = .ok (.ifCond .ne 9, 3) := by decide +kernel
theorem dX11_text_8 : decode cX11_text 8 = .ok (.aload_n 0, 1) := by decide +kernel
theorem dX11_text_9 : decode cX11_text 9 = .ok (.iconst 1, 1) := by decide +kernel
theorem dX11_text_10 : decode cX11_text 10 = .ok (.invokevirtual 91, 3) := by decide +kernel
theorem dX11_text_13 : decode cX11_text 13 = .ok (.ireturn, 1) := by decide +kernel
theorem dX11_text_14 : decode cX11_text 14 = .ok (.aload_n 0, 1) := by decide +kernel
theorem dX11_text_15 : decode cX11_text 15 = .ok (.getfield 60, 3) := by decide +kernel
theorem dX11_text_18 : decode cX11_text 18 = .ok (.aload_n 0, 1) := by decide +kernel
theorem dX11_text_19 : decode cX11_text 19 = .ok (.getfield 10, 3) := by decide +kernel
theorem dX11_text_22 : decode cX11_text 22 = .ok (.getfield 145, 3) := by decide +kernel
theorem dX11_text_25 : decode cX11_text 25 = .ok (.iload_n 1, 1) := by decide +kernel
theorem dX11_text_26 : decode cX11_text 26 = .ok (.ifCond .ne 8, 3) := by decide +kernel
theorem dX11_text_29 : decode cX11_text 29 = .ok (.ldc 148, 2) := by decide +kernel
theorem dX11_text_31 : decode cX11_text 31 = .ok (.goto 5, 3) := by decide +kernel
theorem dX11_text_34 : decode cX11_text 34 = .ok (.ldc 150, 2) := by decide +kernel
theorem dX11_text_36 : decode cX11_text 36 = .ok (.invokevirtual 152, 3) := by decide +kernel
theorem dX11_text_39 : decode cX11_text 39 = .ok (.istore_n 2, 1) := by decide +kernel
theorem dX11_text_40 : decode cX11_text 40 = .ok (.aload_n 0, 1) := by decide +kernel
theorem dX11_text_41 : decode cX11_text 41 = .ok (.getfield 10, 3) := by decide +kernel
theorem dX11_text_44 : decode cX11_text 44 = .ok (.iconst 0, 1) := by decide +kernel
theorem dX11_text_45 : decode cX11_text 45 = .ok (.putfield 145, 3) := by decide +kernel
theorem dX11_text_48 : decode cX11_text 48 = .ok (.iload_n 2, 1) := by decide +kernel
theorem dX11_text_49 : decode cX11_text 49 = .ok (.ifCond .ne 14, 3) := by decide +kernel
theorem dX11_text_52 : decode cX11_text 52 = .ok (.bipush (-10), 2) := by decide +kernel
theorem dX11_text_54 : decode cX11_text 54 = .ok (.aload_n 0, 1) := by decide +kernel
theorem dX11_text_55 : decode cX11_text 55 = .ok (.getfield 60, 3) := by decide +kernel
theorem dX11_text_58 : decode cX11_text 58 = .ok (.getfield 156, 3) := by decide +kernel
theorem dX11_text_61 : decode cX11_text 61 = .ok (.isub, 1) := by decide +kernel
theorem dX11_text_62 : decode cX11_text 62 = .ok (.ireturn, 1) := by decide +kernel
theorem dX11_text_63 : decode cX11_text 63 = .ok (.aload_n 0, 1) := by decide +kernel
theorem dX11_text_64 : decode cX11_text 64 = .ok (.getfield 10, 3) := by decide +kernel
theorem dX11_text_67 : decode cX11_text 67 = .ok (.getfield 159, 3) := by decide +kernel
theorem dX11_text_70 : decode cX11_text 70 = .ok (.iload_n 1, 1) := by decide +kernel
theorem dX11_text_71 : decode cX11_text 71 = .ok (.aaload, 1) := by decide +kernel
theorem dX11_text_72 : decode cX11_text 72 = .ok (.aload_n 0, 1) := by decide +kernel
theorem dX11_text_73 : decode cX11_text 73 = .ok (.getfield 60, 3) := by decide +kernel
theorem dX11_text_76 : decode cX11_text 76 = .ok (.getfield 163, 3) := by decide +kernel
theorem dX11_text_79 : decode cX11_text 79 = .ok (.invokevirtual 167, 3) := by decide +kernel
theorem dX11_text_82 : decode cX11_text 82 = .ok (.iconst 1, 1) := by decide +kernel
theorem dX11_text_83 : decode cX11_text 83 = .ok (.ireturn, 1) := by decide +kernel
theorem dX11_law_0 : decode cX11_law 0 = .ok (.iload_n 1, 1) := by decide +kernel
theorem dX11_law_1 : decode cX11_law 1 = .ok (.iconst 1, 1) := by decide +kernel
theorem dX11_law_2 : decode cX11_law 2 = .ok (.invokestatic 98, 3) := by decide +kernel
theorem dX11_law_5 : decode cX11_law 5 = .ok (.ifCond .eq 15, 3) := by decide +kernel
theorem dX11_law_8 : decode cX11_law 8 = .ok (.aload_n 0, 1) := by decide +kernel
theorem dX11_law_9 : decode cX11_law 9 = .ok (.iload_n 1, 1) := by decide +kernel
theorem dX11_law_10 : decode cX11_law 10 = .ok (.iload_n 2, 1) := by decide +kernel
theorem dX11_law_11 : decode cX11_law 11 = .ok (.iload_n 3, 1) := by decide +kernel
theorem dX11_law_12 : decode cX11_law 12 = .ok (.iload 4, 2) := by decide +kernel
theorem dX11_law_14 : decode cX11_law 14 = .ok (.invokevirtual 134, 3) := by decide +kernel
theorem dX11_law_17 : decode cX11_law 17 = .ok (.goto 8, 3) := by decide +kernel
theorem dX11_law_20 : decode cX11_law 20 = .ok (.aload_n 0, 1) := by decide +kernel
theorem dX11_law_21 : decode cX11_law 21 = .ok (.iconst 1, 1) := by decide +kernel
theorem dX11_law_22 : decode cX11_law 22 = .ok (.invokevirtual 91, 3) := by decide +kernel
theorem dX11_law_25 : decode cX11_law 25 = .ok (.ireturn, 1) := by decide +kernel
theorem dX11_gives_0 : decode cX11_gives 0 = .ok (.aload_n 0, 1) := by decide +kernel
theorem dX11_gives_1 : decode cX11_gives 1 = .ok (.getfield 10, 3) := by decide +kernel
theorem dX11_gives_4 : decode cX11_gives 4 = .ok (.getfield 159, 3) := by decide +kernel
theorem dX11_gives_7 : decode cX11_gives 7 = .ok (.iload_n 1, 1) := by decide +kernel
theorem dX11_gives_8 : decode cX11_gives 8 = .ok (.aaload, 1) := by decide +kernel
theorem dX11_gives_9 : decode cX11_gives 9 = .ok (.astore 5, 2) := by decide +kernel
theorem dX11_gives_11 : decode cX11_gives 11 = .ok (.aload 5, 2) := by decide +kernel
theorem dX11_gives_13 : decode cX11_gives 13 = .ok (.getfield 173, 3) := by decide +kernel
theorem dX11_gives_16 : decode cX11_gives 16 = .ok (.ifCond .le 19, 3) := by decide +kernel
theorem dX11_gives_19 : decode cX11_gives 19 = .ok (.aload 5, 2) := by decide +kernel
theorem dX11_gives_21 : decode cX11_gives 21 = .ok (.aload_n 0, 1) := by decide +kernel
theorem dX11_gives_22 : decode cX11_gives 22 = .ok (.getfield 64, 3) := by decide +kernel
theorem dX11_gives_25 : decode cX11_gives 25 = .ok (.iload_n 2, 1) := by decide +kernel
theorem dX11_gives_26 : decode cX11_gives 26 = .ok (.iload_n 3, 1) := by decide +kernel
theorem dX11_gives_27 : decode cX11_gives 27 = .ok (.iload 4, 2) := by decide +kernel
theorem dX11_gives_29 : decode cX11_gives 29 = .ok (.invokevirtual 176, 3) := by decide +kernel
theorem dX11_gives_32 : decode cX11_gives 32 = .ok (.goto 8, 3) := by decide +kernel
theorem dX11_gives_35 : decode cX11_gives 35 = .ok (.iload_n 1, 1) := by decide +kernel
theorem dX11_gives_36 : decode cX11_gives 36 = .ok (.iload_n 2, 1) := by decide +kernel
theorem dX11_gives_37 : decode cX11_gives 37 = .ok (.invokestatic 180, 3) := by decide +kernel
theorem dX11_gives_40 : decode cX11_gives 40 = .ok (.istore 6, 2) := by decide +kernel
theorem dX11_gives_42 : decode cX11_gives 42 = .ok (.iconst 0, 1) := by decide +kernel
theorem dX11_gives_43 : decode cX11_gives 43 = .ok (.iload 6, 2) := by decide +kernel
theorem dX11_gives_45 : decode cX11_gives 45 = .ok (.iload_n 1, 1) := by decide +kernel
theorem dX11_gives_46 : decode cX11_gives 46 = .ok (.ifCond .ne 9, 3) := by decide +kernel
theorem dX11_gives_49 : decode cX11_gives 49 = .ok (.sipush 300, 3) := by decide +kernel
theorem dX11_gives_52 : decode cX11_gives 52 = .ok (.goto 4, 3) := by decide +kernel
theorem dX11_gives_55 : decode cX11_gives 55 = .ok (.iconst 1, 1) := by decide +kernel
theorem dX11_gives_56 : decode cX11_gives 56 = .ok (.invokestatic 183, 3) := by decide +kernel
theorem dX11_gives_59 : decode cX11_gives 59 = .ok (.invokestatic 188, 3) := by decide +kernel
theorem dX11_gives_62 : decode cX11_gives 62 = .ok (.ireturn, 1) := by decide +kernel
theorem dX11_withoutText_0 : decode cX11_withoutText 0 = .ok (.iload_n 0, 1) := by decide +kernel
theorem dX11_withoutText_1 : decode cX11_withoutText 1 = .ok (.ifCond .ne 7, 3) := by decide +kernel
theorem dX11_withoutText_4 : decode cX11_withoutText 4 = .ok (.iconst 3, 1) := by decide +kernel
theorem dX11_withoutText_5 : decode cX11_withoutText 5 = .ok (.iload_n 1, 1) := by decide +kernel
theorem dX11_withoutText_6 : decode cX11_withoutText 6 = .ok (.iadd, 1) := by decide +kernel
theorem dX11_withoutText_7 : decode cX11_withoutText 7 = .ok (.ireturn, 1) := by decide +kernel
theorem dX11_withoutText_8 : decode cX11_withoutText 8 = .ok (.iload_n 1, 1) := by decide +kernel
theorem dX11_withoutText_9 : decode cX11_withoutText 9 = .ok (.bipush 60, 2) := by decide +kernel
theorem dX11_withoutText_11 : decode cX11_withoutText 11 = .ok (.if_icmp .le 7, 3) := by decide +kernel
theorem dX11_withoutText_14 : decode cX11_withoutText 14 = .ok (.iconst 1, 1) := by decide +kernel
theorem dX11_withoutText_15 : decode cX11_withoutText 15 = .ok (.goto 4, 3) := by decide +kernel
theorem dX11_withoutText_18 : decode cX11_withoutText 18 = .ok (.iconst 0, 1) := by decide +kernel
theorem dX11_withoutText_19 : decode cX11_withoutText 19 = .ok (.ireturn, 1) := by decide +kernel
theorem dX11_ask_0 : decode cX11_ask 0 = .ok (.aload_n 0, 1) := by decide +kernel
theorem dX11_ask_1 : decode cX11_ask 1 = .ok (.iload_n 1, 1) := by decide +kernel
theorem dX11_ask_2 : decode cX11_ask 2 = .ok (.invokevirtual 191, 3) := by decide +kernel
theorem dX11_ask_5 : decode cX11_ask 5 = .ok (.istore_n 2, 1) := by decide +kernel
theorem dX11_ask_6 : decode cX11_ask 6 = .ok (.iload_n 2, 1) := by decide +kernel
theorem dX11_ask_7 : decode cX11_ask 7 = .ok (.ifCond .eq 9, 3) := by decide +kernel
theorem dX11_ask_10 : decode cX11_ask 10 = .ok (.aload_n 0, 1) := by decide +kernel
theorem dX11_ask_11 : decode cX11_ask 11 = .ok (.iload_n 2, 1) := by decide +kernel
theorem dX11_ask_12 : decode cX11_ask 12 = .ok (.invokevirtual 91, 3) := by decide +kernel
theorem dX11_ask_15 : decode cX11_ask 15 = .ok (.ireturn, 1) := by decide +kernel
theorem dX11_ask_16 : decode cX11_ask 16 = .ok (.aload_n 0, 1) := by decide +kernel
theorem dX11_ask_17 : decode cX11_ask 17 = .ok (.iload_n 1, 1) := by decide +kernel
theorem dX11_ask_18 : decode cX11_ask 18 = .ok (.invokevirtual 194, 3) := by decide +kernel
theorem dX11_ask_21 : decode cX11_ask 21 = .ok (.ireturn, 1) := by decide +kernel
theorem dX11_ofCode_0 : decode cX11_ofCode 0 = .ok (.iload_n 1, 1) := by decide +kernel
theorem dX11_ofCode_1 : decode cX11_ofCode 1 = .ok (.ifCond .lt 23, 3) := by decide +kernel
theorem dX11_ofCode_4 : decode cX11_ofCode 4 = .ok (.iload_n 1, 1) := by decide +kernel
theorem dX11_ofCode_5 : decode cX11_ofCode 5 = .ok (.aload_n 0, 1) := by decide +kernel
theorem dX11_ofCode_6 : decode cX11_ofCode 6 = .ok (.getfield 10, 3) := by decide +kernel
theorem dX11_ofCode_9 : decode cX11_ofCode 9 = .ok (.getfield 197, 3) := by decide +kernel
theorem dX11_ofCode_12 : decode cX11_ofCode 12 = .ok (.if_icmp .ge 12, 3) := by decide +kernel
theorem dX11_ofCode_15 : decode cX11_ofCode 15 = .ok (.iload_n 2, 1) := by decide +kernel
theorem dX11_ofCode_16 : decode cX11_ofCode 16 = .ok (.bipush 6, 2) := by decide +kernel
theorem dX11_ofCode_18 : decode cX11_ofCode 18 = .ok (.invokestatic 98, 3) := by decide +kernel
theorem dX11_ofCode_21 : decode cX11_ofCode 21 = .ok (.ifCond .ne 9, 3) := by decide +kernel
theorem dX11_ofCode_24 : decode cX11_ofCode 24 = .ok (.aload_n 0, 1) := by decide +kernel
theorem dX11_ofCode_25 : decode cX11_ofCode 25 = .ok (.iconst 1, 1) := by decide +kernel
theorem dX11_ofCode_26 : decode cX11_ofCode 26 = .ok (.invokevirtual 91, 3) := by decide +kernel
theorem dX11_ofCode_29 : decode cX11_ofCode 29 = .ok (.ireturn, 1) := by decide +kernel
theorem dX11_ofCode_30 : decode cX11_ofCode 30 = .ok (.iload_n 2, 1) := by decide +kernel
theorem dX11_ofCode_31 : decode cX11_ofCode 31 = .ok (.bipush 6, 2) := by decide +kernel
theorem dX11_ofCode_33 : decode cX11_ofCode 33 = .ok (.if_icmp .ne 17, 3) := by decide +kernel
theorem dX11_ofCode_36 : decode cX11_ofCode 36 = .ok (.aload_n 0, 1) := by decide +kernel
theorem dX11_ofCode_37 : decode cX11_ofCode 37 = .ok (.iload_n 1, 1) := by decide +kernel
theorem dX11_ofCode_38 : decode cX11_ofCode 38 = .ok (.invokevirtual 200, 3) := by decide +kernel
theorem dX11_ofCode_41 : decode cX11_ofCode 41 = .ok (.ifCond .eq 7, 3) := by decide +kernel
theorem dX11_ofCode_44 : decode cX11_ofCode 44 = .ok (.iconst 1, 1) := by decide +kernel
theorem dX11_ofCode_45 : decode cX11_ofCode 45 = .ok (.goto 4, 3) := by decide +kernel
theorem dX11_ofCode_48 : decode cX11_ofCode 48 = .ok (.iconst 0, 1) := by decide +kernel
theorem dX11_ofCode_49 : decode cX11_ofCode 49 = .ok (.ireturn, 1) := by decide +kernel
theorem dX11_ofCode_50 : decode cX11_ofCode 50 = .ok (.aload_n 0, 1) := by decide +kernel
theorem dX11_ofCode_51 : decode cX11_ofCode 51 = .ok (.getfield 10, 3) := by decide +kernel
theorem dX11_ofCode_54 : decode cX11_ofCode 54 = .ok (.getfield 203, 3) := by decide +kernel
theorem dX11_ofCode_57 : decode cX11_ofCode 57 = .ok (.iload_n 1, 1) := by decide +kernel
theorem dX11_ofCode_58 : decode cX11_ofCode 58 = .ok (.aaload, 1) := by decide +kernel
theorem dX11_ofCode_59 : decode cX11_ofCode 59 = .ok (.iload_n 2, 1) := by decide +kernel
theorem dX11_ofCode_60 : decode cX11_ofCode 60 = .ok (.iaload, 1) := by decide +kernel
theorem dX11_ofCode_61 : decode cX11_ofCode 61 = .ok (.ireturn, 1) := by decide +kernel
theorem dX11_enter_0 : decode cX11_enter 0 = .ok (.iload_n 1, 1) := by decide +kernel
theorem dX11_enter_1 : decode cX11_enter 1 = .ok (.ldc 206, 2) := by decide +kernel
theorem dX11_enter_3 : decode cX11_enter 3 = .ok (.invokestatic 98, 3) := by decide +kernel
theorem dX11_enter_6 : decode cX11_enter 6 = .ok (.ifCond .ne 9, 3) := by decide +kernel
theorem dX11_enter_9 : decode cX11_enter 9 = .ok (.aload_n 0, 1) := by decide +kernel
theorem dX11_enter_10 : decode cX11_enter 10 = .ok (.iconst 1, 1) := by decide +kernel
theorem dX11_enter_11 : decode cX11_enter 11 = .ok (.invokevirtual 91, 3) := by decide +kernel
theorem dX11_enter_14 : decode cX11_enter 14 = .ok (.ireturn, 1) := by decide +kernel
theorem dX11_enter_15 : decode cX11_enter 15 = .ok (.aload_n 0, 1) := by decide +kernel
theorem dX11_enter_16 : decode cX11_enter 16 = .ok (.getfield 10, 3) := by decide +kernel
theorem dX11_enter_19 : decode cX11_enter 19 = .ok (.getfield 115, 3) := by decide +kernel
theorem dX11_enter_22 : decode cX11_enter 22 = .ok (.aload_n 0, 1) := by decide +kernel
theorem dX11_enter_23 : decode cX11_enter 23 = .ok (.getfield 10, 3) := by decide +kernel
theorem dX11_enter_26 : decode cX11_enter 26 = .ok (.getfield 207, 3) := by decide +kernel
theorem dX11_enter_29 : decode cX11_enter 29 = .ok (.if_icmp .lt 17, 3) := by decide +kernel
theorem dX11_enter_32 : decode cX11_enter 32 = .ok (.aload_n 0, 1) := by decide +kernel
theorem dX11_enter_33 : decode cX11_enter 33 = .ok (.getfield 10, 3) := by decide +kernel
theorem dX11_enter_36 : decode cX11_enter 36 = .ok (.getfield 115, 3) := by decide +kernel
theorem dX11_enter_39 : decode cX11_enter 39 = .ok (.iconst 2, 1) := by decide +kernel
theorem dX11_enter_40 : decode cX11_enter 40 = .ok (.iadd, 1) := by decide +kernel
theorem dX11_enter_41 : decode cX11_enter 41 = .ok (.ldc 206, 2) := by decide +kernel
theorem dX11_enter_43 : decode cX11_enter 43 = .ok (.if_icmp .le 9, 3) := by decide +kernel
theorem dX11_enter_46 : decode cX11_enter 46 = .ok (.aload_n 0, 1) := by decide +kernel
theorem dX11_enter_47 : decode cX11_enter 47 = .ok (.iconst 3, 1) := by decide +kernel
theorem dX11_enter_48 : decode cX11_enter 48 = .ok (.invokevirtual 91, 3) := by decide +kernel
theorem dX11_enter_51 : decode cX11_enter 51 = .ok (.ireturn, 1) := by decide +kernel
theorem dX11_enter_52 : decode cX11_enter 52 = .ok (.aload_n 0, 1) := by decide +kernel
theorem dX11_enter_53 : decode cX11_enter 53 = .ok (.getfield 10, 3) := by decide +kernel
theorem dX11_enter_56 : decode cX11_enter 56 = .ok (.dup, 1) := by decide +kernel
theorem dX11_enter_57 : decode cX11_enter 57 = .ok (.getfield 115, 3) := by decide +kernel
theorem dX11_enter_60 : decode cX11_enter 60 = .ok (.iconst 2, 1) := by decide +kernel
theorem dX11_enter_61 : decode cX11_enter 61 = .ok (.iadd, 1) := by decide +kernel
theorem dX11_enter_62 : decode cX11_enter 62 = .ok (.putfield 115, 3) := by decide +kernel
theorem dX11_enter_65 : decode cX11_enter 65 = .ok (.aload_n 0, 1) := by decide +kernel
theorem dX11_enter_66 : decode cX11_enter 66 = .ok (.iload_n 1, 1) := by decide +kernel
theorem dX11_enter_67 : decode cX11_enter 67 = .ok (.invokevirtual 210, 3) := by decide +kernel
theorem dX11_enter_70 : decode cX11_enter 70 = .ok (.istore_n 2, 1) := by decide +kernel
theorem dX11_enter_71 : decode cX11_enter 71 = .ok (.iload_n 2, 1) := by decide +kernel
theorem dX11_enter_72 : decode cX11_enter 72 = .ok (.ifCond .lt 38, 3) := by decide +kernel
theorem dX11_enter_75 : decode cX11_enter 75 = .ok (.aload_n 0, 1) := by decide +kernel
theorem dX11_enter_76 : decode cX11_enter 76 = .ok (.getfield 10, 3) := by decide +kernel
theorem dX11_enter_79 : decode cX11_enter 79 = .ok (.getfield 203, 3) := by decide +kernel
theorem dX11_enter_82 : decode cX11_enter 82 = .ok (.iload_n 2, 1) := by decide +kernel
theorem dX11_enter_83 : decode cX11_enter 83 = .ok (.aaload, 1) := by decide +kernel
theorem dX11_enter_84 : decode cX11_enter 84 = .ok (.iconst 5, 1) := by decide +kernel
theorem dX11_enter_85 : decode cX11_enter 85 = .ok (.iconst 1, 1) := by decide +kernel
theorem dX11_enter_86 : decode cX11_enter 86 = .ok (.iastore, 1) := by decide +kernel
theorem dX11_enter_87 : decode cX11_enter 87 = .ok (.aload_n 0, 1) := by decide +kernel
theorem dX11_enter_88 : decode cX11_enter 88 = .ok (.getfield 10, 3) := by decide +kernel
theorem dX11_enter_91 : decode cX11_enter 91 = .ok (.dup, 1) := by decide +kernel
theorem dX11_enter_92 : decode cX11_enter 92 = .ok (.getfield 213, 3) := by decide +kernel
theorem dX11_enter_95 : decode cX11_enter 95 = .ok (.iconst 1, 1) := by decide +kernel
theorem dX11_enter_96 : decode cX11_enter 96 = .ok (.iadd, 1) := by decide +kernel
theorem dX11_enter_97 : decode cX11_enter 97 = .ok (.putfield 213, 3) := by decide +kernel
theorem dX11_enter_100 : decode cX11_enter 100 = .ok (.aload_n 0, 1) := by decide +kernel
theorem dX11_enter_101 : decode cX11_enter 101 = .ok (.getfield 10, 3) := by decide +kernel
theorem dX11_enter_104 : decode cX11_enter 104 = .ok (.iconst 0, 1) := by decide +kernel
theorem dX11_enter_105 : decode cX11_enter 105 = .ok (.putfield 216, 3) := by decide +kernel
theorem dX11_enter_108 : decode cX11_enter 108 = .ok (.iconst 1, 1) := by decide +kernel
theorem dX11_enter_109 : decode cX11_enter 109 = .ok (.ireturn, 1) := by decide +kernel
theorem dX11_enter_110 : decode cX11_enter 110 = .ok (.aload_n 0, 1) := by decide +kernel
theorem dX11_enter_111 : decode cX11_enter 111 = .ok (.getfield 10, 3) := by decide +kernel
theorem dX11_enter_114 : decode cX11_enter 114 = .ok (.dup, 1) := by decide +kernel
theorem dX11_enter_115 : decode cX11_enter 115 = .ok (.getfield 216, 3) := by decide +kernel
theorem dX11_enter_118 : decode cX11_enter 118 = .ok (.iconst 1, 1) := by decide +kernel
theorem dX11_enter_119 : decode cX11_enter 119 = .ok (.iadd, 1) := by decide +kernel
theorem dX11_enter_120 : decode cX11_enter 120 = .ok (.putfield 216, 3) := by decide +kernel
theorem dX11_enter_123 : decode cX11_enter 123 = .ok (.aload_n 0, 1) := by decide +kernel
theorem dX11_enter_124 : decode cX11_enter 124 = .ok (.getfield 10, 3) := by decide +kernel
theorem dX11_enter_127 : decode cX11_enter 127 = .ok (.getfield 216, 3) := by decide +kernel
theorem dX11_enter_130 : decode cX11_enter 130 = .ok (.aload_n 0, 1) := by decide +kernel
theorem dX11_enter_131 : decode cX11_enter 131 = .ok (.getfield 10, 3) := by decide +kernel
theorem dX11_enter_134 : decode cX11_enter 134 = .ok (.getfield 95, 3) := by decide +kernel
theorem dX11_enter_137 : decode cX11_enter 137 = .ok (.iconst 2, 1) := by decide +kernel
theorem dX11_enter_138 : decode cX11_enter 138 = .ok (.iaload, 1) := by decide +kernel
theorem dX11_enter_139 : decode cX11_enter 139 = .ok (.if_icmp .lt 35, 3) := by decide +kernel
theorem dX11_enter_142 : decode cX11_enter 142 = .ok (.aload_n 0, 1) := by decide +kernel
theorem dX11_enter_143 : decode cX11_enter 143 = .ok (.getfield 10, 3) := by decide +kernel
theorem dX11_enter_146 : decode cX11_enter 146 = .ok (.aload_n 0, 1) := by decide +kernel
theorem dX11_enter_147 : decode cX11_enter 147 = .ok (.getfield 10, 3) := by decide +kernel
theorem dX11_enter_150 : decode cX11_enter 150 = .ok (.getfield 115, 3) := by decide +kernel
theorem dX11_enter_153 : decode cX11_enter 153 = .ok (.aload_n 0, 1) := by decide +kernel
theorem dX11_enter_154 : decode cX11_enter 154 = .ok (.getfield 10, 3) := by decide +kernel
theorem dX11_enter_157 : decode cX11_enter 157 = .ok (.getfield 95, 3) := by decide +kernel
theorem dX11_enter_160 : decode cX11_enter 160 = .ok (.iconst 3, 1) := by decide +kernel
theorem dX11_enter_161 : decode cX11_enter 161 = .ok (.iaload, 1) := by decide +kernel
theorem dX11_enter_162 : decode cX11_enter 162 = .ok (.iadd, 1) := by decide +kernel
theorem dX11_enter_163 : decode cX11_enter 163 = .ok (.putfield 207, 3) := by decide +kernel
theorem dX11_enter_166 : decode cX11_enter 166 = .ok (.aload_n 0, 1) := by decide +kernel
theorem dX11_enter_167 : decode cX11_enter 167 = .ok (.getfield 10, 3) := by decide +kernel
theorem dX11_enter_170 : decode cX11_enter 170 = .ok (.iconst 0, 1) := by decide +kernel
theorem dX11_enter_171 : decode cX11_enter 171 = .ok (.putfield 216, 3) := by decide +kernel
theorem dX11_enter_174 : decode cX11_enter 174 = .ok (.iconst 0, 1) := by decide +kernel
theorem dX11_enter_175 : decode cX11_enter 175 = .ok (.ireturn, 1) := by decide +kernel
theorem dX11_pass_0 : decode cX11_pass 0 = .ok (.iload_n 1, 1) := by decide +kernel
theorem dX11_pass_1 : decode cX11_pass 1 = .ok (.iconst 1, 1) := by decide +kernel
theorem dX11_pass_2 : decode cX11_pass 2 = .ok (.if_icmp .lt 10, 3) := by decide +kernel
theorem dX11_pass_5 : decode cX11_pass 5 = .ok (.iload_n 1, 1) := by decide +kernel
theorem dX11_pass_6 : decode cX11_pass 6 = .ok (.sipush 9999, 3) := by decide +kernel
theorem dX11_pass_9 : decode cX11_pass 9 = .ok (.if_icmp .le 9, 3) := by decide +kernel
theorem dX11_pass_12 : decode cX11_pass 12 = .ok (.aload_n 0, 1) := by decide +kernel
theorem dX11_pass_13 : decode cX11_pass 13 = .ok (.iconst 1, 1) := by decide +kernel
theorem dX11_pass_14 : decode cX11_pass 14 = .ok (.invokevirtual 91, 3) := by decide +kernel
theorem dX11_pass_17 : decode cX11_pass 17 = .ok (.ireturn, 1) := by decide +kernel
theorem dX11_pass_18 : decode cX11_pass 18 = .ok (.aload_n 0, 1) := by decide +kernel
theorem dX11_pass_19 : decode cX11_pass 19 = .ok (.getfield 10, 3) := by decide +kernel
theorem dX11_pass_22 : decode cX11_pass 22 = .ok (.getfield 115, 3) := by decide +kernel
theorem dX11_pass_25 : decode cX11_pass 25 = .ok (.iload_n 1, 1) := by decide +kernel
theorem dX11_pass_26 : decode cX11_pass 26 = .ok (.iadd, 1) := by decide +kernel
theorem dX11_pass_27 : decode cX11_pass 27 = .ok (.ldc 206, 2) := by decide +kernel
theorem dX11_pass_29 : decode cX11_pass 29 = .ok (.if_icmp .le 9, 3) := by decide +kernel
theorem dX11_pass_32 : decode cX11_pass 32 = .ok (.aload_n 0, 1) := by decide +kernel
theorem dX11_pass_33 : decode cX11_pass 33 = .ok (.iconst 3, 1) := by decide +kernel
theorem dX11_pass_34 : decode cX11_pass 34 = .ok (.invokevirtual 91, 3) := by decide +kernel
theorem dX11_pass_37 : decode cX11_pass 37 = .ok (.ireturn, 1) := by decide +kernel
theorem dX11_pass_38 : decode cX11_pass 38 = .ok (.aload_n 0, 1) := by decide +kernel
theorem dX11_pass_39 : decode cX11_pass 39 = .ok (.getfield 10, 3) := by decide +kernel
theorem dX11_pass_42 : decode cX11_pass 42 = .ok (.dup, 1) := by decide +kernel
theorem dX11_pass_43 : decode cX11_pass 43 = .ok (.getfield 115, 3) := by decide +kernel
theorem dX11_pass_46 : decode cX11_pass 46 = .ok (.iload_n 1, 1) := by decide +kernel
theorem dX11_pass_47 : decode cX11_pass 47 = .ok (.iadd, 1) := by decide +kernel
theorem dX11_pass_48 : decode cX11_pass 48 = .ok (.putfield 115, 3) := by decide +kernel
theorem dX11_pass_51 : decode cX11_pass 51 = .ok (.aload_n 0, 1) := by decide +kernel
theorem dX11_pass_52 : decode cX11_pass 52 = .ok (.getfield 10, 3) := by decide +kernel
theorem dX11_pass_55 : decode cX11_pass 55 = .ok (.getfield 115, 3) := by decide +kernel
theorem dX11_pass_58 : decode cX11_pass 58 = .ok (.ireturn, 1) := by decide +kernel
theorem dX11_loose_0 : decode cX11_loose 0 = .ok (.iload_n 1, 1) := by decide +kernel
theorem dX11_loose_1 : decode cX11_loose 1 = .ok (.iconst 1, 1) := by decide +kernel
theorem dX11_loose_2 : decode cX11_loose 2 = .ok (.if_icmp .lt 9, 3) := by decide +kernel
theorem dX11_loose_5 : decode cX11_loose 5 = .ok (.iload_n 1, 1) := by decide +kernel
theorem dX11_loose_6 : decode cX11_loose 6 = .ok (.bipush 60, 2) := by decide +kernel
theorem dX11_loose_8 : decode cX11_loose 8 = .ok (.if_icmp .le 9, 3) := by decide +kernel
theorem dX11_loose_11 : decode cX11_loose 11 = .ok (.aload_n 0, 1) := by decide +kernel
theorem dX11_loose_12 : decode cX11_loose 12 = .ok (.iconst 1, 1) := by decide +kernel
theorem dX11_loose_13 : decode cX11_loose 13 = .ok (.invokevirtual 91, 3) := by decide +kernel
theorem dX11_loose_16 : decode cX11_loose 16 = .ok (.ireturn, 1) := by decide +kernel
theorem dX11_loose_17 : decode cX11_loose 17 = .ok (.aload_n 0, 1) := by decide +kernel
theorem dX11_loose_18 : decode cX11_loose 18 = .ok (.getfield 10, 3) := by decide +kernel
theorem dX11_loose_21 : decode cX11_loose 21 = .ok (.getfield 115, 3) := by decide +kernel
theorem dX11_loose_24 : decode cX11_loose 24 = .ok (.iload_n 1, 1) := by decide +kernel
theorem dX11_loose_25 : decode cX11_loose 25 = .ok (.iadd, 1) := by decide +kernel
theorem dX11_loose_26 : decode cX11_loose 26 = .ok (.ldc 206, 2) := by decide +kernel
theorem dX11_loose_28 : decode cX11_loose 28 = .ok (.if_icmp .le 9, 3) := by decide +kernel
theorem dX11_loose_31 : decode cX11_loose 31 = .ok (.aload_n 0, 1) := by decide +kernel
theorem dX11_loose_32 : decode cX11_loose 32 = .ok (.iconst 3, 1) := by decide +kernel
theorem dX11_loose_33 : decode cX11_loose 33 = .ok (.invokevirtual 91, 3) := by decide +kernel
theorem dX11_loose_36 : decode cX11_loose 36 = .ok (.ireturn, 1) := by decide +kernel
theorem dX11_loose_37 : decode cX11_loose 37 = .ok (.iconst 0, 1) := by decide +kernel
theorem dX11_loose_38 : decode cX11_loose 38 = .ok (.istore_n 2, 1) := by decide +kernel
theorem dX11_loose_39 : decode cX11_loose 39 = .ok (.iconst 0, 1) := by decide +kernel
theorem dX11_loose_40 : decode cX11_loose 40 = .ok (.istore_n 3, 1) := by decide +kernel
theorem dX11_loose_41 : decode cX11_loose 41 = .ok (.iload_n 3, 1) := by decide +kernel
theorem dX11_loose_42 : decode cX11_loose 42 = .ok (.iload_n 1, 1) := by decide +kernel
theorem dX11_loose_43 : decode cX11_loose 43 = .ok (.if_icmp .ge 32, 3) := by decide +kernel
theorem dX11_loose_46 : decode cX11_loose 46 = .ok (.aload_n 0, 1) := by decide +kernel
theorem dX11_loose_47 : decode cX11_loose 47 = .ok (.invokevirtual 219, 3) := by decide +kernel
theorem dX11_loose_50 : decode cX11_loose 50 = .ok (.ifCond .eq 6, 3) := by decide +kernel
theorem dX11_loose_53 : decode cX11_loose 53 = .ok (.iinc 2 1, 3) := by decide +kernel
theorem dX11_loose_56 : decode cX11_loose 56 = .ok (.aload_n 0, 1) := by decide +kernel
theorem dX11_loose_57 : decode cX11_loose 57 = .ok (.getfield 10, 3) := by decide +kernel
theorem dX11_loose_60 : decode cX11_loose 60 = .ok (.dup, 1) := by decide +kernel
theorem dX11_loose_61 : decode cX11_loose 61 = .ok (.getfield 115, 3) := by decide +kernel
theorem dX11_loose_64 : decode cX11_loose 64 = .ok (.iconst 1, 1) := by decide +kernel
theorem dX11_loose_65 : decode cX11_loose 65 = .ok (.iadd, 1) := by decide +kernel
theorem dX11_loose_66 : decode cX11_loose 66 = .ok (.putfield 115, 3) := by decide +kernel
theorem dX11_loose_69 : decode cX11_loose 69 = .ok (.iinc 3 1, 3) := by decide +kernel
theorem dX11_loose_72 : decode cX11_loose 72 = .ok (.goto (-31), 3) := by decide +kernel
theorem dX11_loose_75 : decode cX11_loose 75 = .ok (.iload_n 2, 1) := by decide +kernel
theorem dX11_loose_76 : decode cX11_loose 76 = .ok (.ireturn, 1) := by decide +kernel
theorem dX11_asksByDraws_0 : decode cX11_asksByDraws 0 = .ok (.aload_n 0, 1) := by decide +kernel
theorem dX11_asksByDraws_1 : decode cX11_asksByDraws 1 = .ok (.invokevirtual 223, 3) := by decide +kernel
theorem dX11_asksByDraws_4 : decode cX11_asksByDraws 4 = .ok (.istore_n 1, 1) := by decide +kernel
theorem dX11_asksByDraws_5 : decode cX11_asksByDraws 5 = .ok (.aload_n 0, 1) := by decide +kernel
theorem dX11_asksByDraws_6 : decode cX11_asksByDraws 6 = .ok (.getfield 10, 3) := by decide +kernel
theorem dX11_asksByDraws_9 : decode cX11_asksByDraws 9 = .ok (.getfield 106, 3) := by decide +kernel
theorem dX11_asksByDraws_12 : decode cX11_asksByDraws 12 = .ok (.ifCond .le 9, 3) := by decide +kernel
theorem dX11_asksByDraws_15 : decode cX11_asksByDraws 15 = .ok (.iload_n 1, 1) := by decide +kernel
theorem dX11_asksByDraws_16 : decode cX11_asksByDraws 16 = .ok (.iconst 4, 1) := by decide +kernel
theorem dX11_asksByDraws_17 : decode cX11_asksByDraws 17 = .ok (.irem, 1) := by decide +kernel
theorem dX11_asksByDraws_18 : decode cX11_asksByDraws 18 = .ok (.ifCond .eq 5, 3) := by decide +kernel
theorem dX11_asksByDraws_21 : decode cX11_asksByDraws 21 = .ok (.iconst 0, 1) := by decide +kernel
theorem dX11_asksByDraws_22 : decode cX11_asksByDraws 22 = .ok (.ireturn, 1) := by decide +kernel
theorem dX11_asksByDraws_23 : decode cX11_asksByDraws 23 = .ok (.aload_n 0, 1) := by decide +kernel
theorem dX11_asksByDraws_24 : decode cX11_asksByDraws 24 = .ok (.invokevirtual 223, 3) := by decide +kernel
theorem dX11_asksByDraws_27 : decode cX11_asksByDraws 27 = .ok (.aload_n 0, 1) := by decide +kernel
theorem dX11_asksByDraws_28 : decode cX11_asksByDraws 28 = .ok (.getfield 10, 3) := by decide +kernel
theorem dX11_asksByDraws_31 : decode cX11_asksByDraws 31 = .ok (.getfield 106, 3) := by decide +kernel
theorem dX11_asksByDraws_34 : decode cX11_asksByDraws 34 = .ok (.irem, 1) := by decide +kernel
theorem dX11_asksByDraws_35 : decode cX11_asksByDraws 35 = .ok (.istore_n 2, 1) := by decide +kernel
theorem dX11_asksByDraws_36 : decode cX11_asksByDraws 36 = .ok (.aload_n 0, 1) := by decide +kernel
theorem dX11_asksByDraws_37 : decode cX11_asksByDraws 37 = .ok (.iload_n 2, 1) := by decide +kernel
theorem dX11_asksByDraws_38 : decode cX11_asksByDraws 38 = .ok (.invokevirtual 227, 3) := by decide +kernel
theorem dX11_asksByDraws_41 : decode cX11_asksByDraws 41 = .ok (.ifCond .eq 5, 3) := by decide +kernel
theorem dX11_asksByDraws_44 : decode cX11_asksByDraws 44 = .ok (.iconst 0, 1) := by decide +kernel
theorem dX11_asksByDraws_45 : decode cX11_asksByDraws 45 = .ok (.ireturn, 1) := by decide +kernel
theorem dX11_asksByDraws_46 : decode cX11_asksByDraws 46 = .ok (.aload_n 0, 1) := by decide +kernel
theorem dX11_asksByDraws_47 : decode cX11_asksByDraws 47 = .ok (.iload_n 2, 1) := by decide +kernel
theorem dX11_asksByDraws_48 : decode cX11_asksByDraws 48 = .ok (.invokevirtual 194, 3) := by decide +kernel
theorem dX11_asksByDraws_51 : decode cX11_asksByDraws 51 = .ok (.pop, 1) := by decide +kernel
theorem dX11_asksByDraws_52 : decode cX11_asksByDraws 52 = .ok (.iconst 1, 1) := by decide +kernel
theorem dX11_asksByDraws_53 : decode cX11_asksByDraws 53 = .ok (.ireturn, 1) := by decide +kernel
theorem dX11_refusalOfAsking_0 : decode cX11_refusalOfAsking 0 = .ok (.aload_n 0, 1) := by decide +kernel
theorem dX11_refusalOfAsking_1 : decode cX11_refusalOfAsking 1 = .ok (.iload_n 1, 1) := by decide +kernel
theorem dX11_refusalOfAsking_2 : decode cX11_refusalOfAsking 2 = .ok (.invokevirtual 112, 3) := by decide +kernel
theorem dX11_refusalOfAsking_5 : decode cX11_refusalOfAsking 5 = .ok (.ifCond .ne 5, 3) := by decide +kernel
theorem dX11_refusalOfAsking_8 : decode cX11_refusalOfAsking 8 = .ok (.iconst 1, 1) := by decide +kernel
theorem dX11_refusalOfAsking_9 : decode cX11_refusalOfAsking 9 = .ok (.ireturn, 1) := by decide +kernel
theorem dX11_refusalOfAsking_10 : decode cX11_refusalOfAsking 10 = .ok (.aload_n 0, 1) := by decide +kernel
theorem dX11_refusalOfAsking_11 : decode cX11_refusalOfAsking 11 = .ok (.iload_n 1, 1) := by decide +kernel
theorem dX11_refusalOfAsking_12 : decode cX11_refusalOfAsking 12 = .ok (.invokevirtual 227, 3) := by decide +kernel
theorem dX11_refusalOfAsking_15 : decode cX11_refusalOfAsking 15 = .ok (.ifCond .eq 7, 3) := by decide +kernel
theorem dX11_refusalOfAsking_18 : decode cX11_refusalOfAsking 18 = .ok (.iconst 3, 1) := by decide +kernel
theorem dX11_refusalOfAsking_19 : decode cX11_refusalOfAsking 19 = .ok (.goto 4, 3) := by decide +kernel
theorem dX11_refusalOfAsking_22 : decode cX11_refusalOfAsking 22 = .ok (.iconst 0, 1) := by decide +kernel
theorem dX11_refusalOfAsking_23 : decode cX11_refusalOfAsking 23 = .ok (.ireturn, 1) := by decide +kernel
theorem dX11_draw_0 : decode cX11_draw 0 = .ok (.aload_n 0, 1) := by decide +kernel
theorem dX11_draw_1 : decode cX11_draw 1 = .ok (.getfield 10, 3) := by decide +kernel
theorem dX11_draw_4 : decode cX11_draw 4 = .ok (.aload_n 0, 1) := by decide +kernel
theorem dX11_draw_5 : decode cX11_draw 5 = .ok (.getfield 10, 3) := by decide +kernel
theorem dX11_draw_8 : decode cX11_draw 8 = .ok (.getfield 230, 3) := by decide +kernel
theorem dX11_draw_11 : decode cX11_draw 11 = .ok (.ldc 233, 2) := by decide +kernel
theorem dX11_draw_13 : decode cX11_draw 13 = .ok (.imul, 1) := by decide +kernel
theorem dX11_draw_14 : decode cX11_draw 14 = .ok (.sipush 12345, 3) := by decide +kernel
theorem dX11_draw_17 : decode cX11_draw 17 = .ok (.iadd, 1) := by decide +kernel
theorem dX11_draw_18 : decode cX11_draw 18 = .ok (.putfield 230, 3) := by decide +kernel
theorem dX11_draw_21 : decode cX11_draw 21 = .ok (.aload_n 0, 1) := by decide +kernel
theorem dX11_draw_22 : decode cX11_draw 22 = .ok (.getfield 10, 3) := by decide +kernel
theorem dX11_draw_25 : decode cX11_draw 25 = .ok (.getfield 230, 3) := by decide +kernel
theorem dX11_draw_28 : decode cX11_draw 28 = .ok (.bipush 8, 2) := by decide +kernel
theorem dX11_draw_30 : decode cX11_draw 30 = .ok (.iushr, 1) := by decide +kernel
theorem dX11_draw_31 : decode cX11_draw 31 = .ok (.ireturn, 1) := by decide +kernel
theorem dX11_send_0 : decode cX11_send 0 = .ok (.aload_n 0, 1) := by decide +kernel
theorem dX11_send_1 : decode cX11_send 1 = .ok (.getfield 10, 3) := by decide +kernel
theorem dX11_send_4 : decode cX11_send 4 = .ok (.invokevirtual 234, 3) := by decide +kernel
theorem dX11_send_7 : decode cX11_send 7 = .ok (.astore_n 2, 1) := by decide +kernel
theorem dX11_send_8 : decode cX11_send 8 = .ok (.aload_n 2, 1) := by decide +kernel
theorem dX11_send_9 : decode cX11_send 9 = .ok (.iconst 0, 1) := by decide +kernel
theorem dX11_send_10 : decode cX11_send 10 = .ok (.iload_n 1, 1) := by decide +kernel
theorem dX11_send_11 : decode cX11_send 11 = .ok (.iastore, 1) := by decide +kernel
theorem dX11_send_12 : decode cX11_send 12 = .ok (.aload_n 2, 1) := by decide +kernel
theorem dX11_send_13 : decode cX11_send 13 = .ok (.iconst 1, 1) := by decide +kernel
theorem dX11_send_14 : decode cX11_send 14 = .ok (.aload_n 0, 1) := by decide +kernel
theorem dX11_send_15 : decode cX11_send 15 = .ok (.invokevirtual 223, 3) := by decide +kernel
theorem dX11_send_18 : decode cX11_send 18 = .ok (.aload_n 0, 1) := by decide +kernel
theorem dX11_send_19 : decode cX11_send 19 = .ok (.getfield 10, 3) := by decide +kernel
theorem dX11_send_22 : decode cX11_send 22 = .ok (.getfield 95, 3) := by decide +kernel
theorem dX11_send_25 : decode cX11_send 25 = .ok (.iconst 0, 1) := by decide +kernel
theorem dX11_send_26 : decode cX11_send 26 = .ok (.iaload, 1) := by decide +kernel
theorem dX11_send_27 : decode cX11_send 27 = .ok (.invokestatic 238, 3) := by decide +kernel
theorem dX11_send_30 : decode cX11_send 30 = .ok (.irem, 1) := by decide +kernel
theorem dX11_send_31 : decode cX11_send 31 = .ok (.iastore, 1) := by decide +kernel
theorem dX11_send_32 : decode cX11_send 32 = .ok (.aload_n 2, 1) := by decide +kernel
theorem dX11_send_33 : decode cX11_send 33 = .ok (.iconst 2, 1) := by decide +kernel
theorem dX11_send_34 : decode cX11_send 34 = .ok (.aload_n 0, 1) := by decide +kernel
theorem dX11_send_35 : decode cX11_send 35 = .ok (.getfield 10, 3) := by decide +kernel
theorem dX11_send_38 : decode cX11_send 38 = .ok (.getfield 115, 3) := by decide +kernel
theorem dX11_send_41 : decode cX11_send 41 = .ok (.iastore, 1) := by decide +kernel
theorem dX11_send_42 : decode cX11_send 42 = .ok (.aload_n 2, 1) := by decide +kernel
theorem dX11_send_43 : decode cX11_send 43 = .ok (.iconst 3, 1) := by decide +kernel
theorem dX11_send_44 : decode cX11_send 44 = .ok (.aload_n 0, 1) := by decide +kernel
theorem dX11_send_45 : decode cX11_send 45 = .ok (.getfield 10, 3) := by decide +kernel
theorem dX11_send_48 : decode cX11_send 48 = .ok (.getfield 115, 3) := by decide +kernel
theorem dX11_send_51 : decode cX11_send 51 = .ok (.aload_n 0, 1) := by decide +kernel
theorem dX11_send_52 : decode cX11_send 52 = .ok (.iload_n 1, 1) := by decide +kernel
theorem dX11_send_53 : decode cX11_send 53 = .ok (.aload_n 0, 1) := by decide +kernel
theorem dX11_send_54 : decode cX11_send 54 = .ok (.getfield 10, 3) := by decide +kernel
theorem dX11_send_57 : decode cX11_send 57 = .ok (.getfield 115, 3) := by decide +kernel
theorem dX11_send_60 : decode cX11_send 60 = .ok (.invokevirtual 118, 3) := by decide +kernel
theorem dX11_send_63 : decode cX11_send 63 = .ok (.iadd, 1) := by decide +kernel
theorem dX11_send_64 : decode cX11_send 64 = .ok (.iastore, 1) := by decide +kernel
theorem dX11_send_65 : decode cX11_send 65 = .ok (.aload_n 2, 1) := by decide +kernel
theorem dX11_send_66 : decode cX11_send 66 = .ok (.iconst 4, 1) := by decide +kernel
theorem dX11_send_67 : decode cX11_send 67 = .ok (.aload_n 0, 1) := by decide +kernel
theorem dX11_send_68 : decode cX11_send 68 = .ok (.getfield 10, 3) := by decide +kernel
theorem dX11_send_71 : decode cX11_send 71 = .ok (.getfield 115, 3) := by decide +kernel
theorem dX11_send_74 : decode cX11_send 74 = .ok (.aload_n 0, 1) := by decide +kernel
theorem dX11_send_75 : decode cX11_send 75 = .ok (.iload_n 1, 1) := by decide +kernel
theorem dX11_send_76 : decode cX11_send 76 = .ok (.aload_n 0, 1) := by decide +kernel
theorem dX11_send_77 : decode cX11_send 77 = .ok (.getfield 10, 3) := by decide +kernel
theorem dX11_send_80 : decode cX11_send 80 = .ok (.getfield 95, 3) := by decide +kernel
theorem dX11_send_83 : decode cX11_send 83 = .ok (.iconst 1, 1) := by decide +kernel
theorem dX11_send_84 : decode cX11_send 84 = .ok (.iaload, 1) := by decide +kernel
theorem dX11_send_85 : decode cX11_send 85 = .ok (.invokevirtual 122, 3) := by decide +kernel
theorem dX11_send_88 : decode cX11_send 88 = .ok (.iadd, 1) := by decide +kernel
theorem dX11_send_89 : decode cX11_send 89 = .ok (.iastore, 1) := by decide +kernel
theorem dX11_send_90 : decode cX11_send 90 = .ok (.aload_n 2, 1) := by decide +kernel
theorem dX11_send_91 : decode cX11_send 91 = .ok (.iconst 5, 1) := by decide +kernel
theorem dX11_send_92 : decode cX11_send 92 = .ok (.iconst 0, 1) := by decide +kernel
theorem dX11_send_93 : decode cX11_send 93 = .ok (.iastore, 1) := by decide +kernel
theorem dX11_send_94 : decode cX11_send 94 = .ok (.aload_n 0, 1) := by decide +kernel
theorem dX11_send_95 : decode cX11_send 95 = .ok (.getfield 10, 3) := by decide +kernel
theorem dX11_send_98 : decode cX11_send 98 = .ok (.getfield 197, 3) := by decide +kernel
theorem dX11_send_101 : decode cX11_send 101 = .ok (.iconst 1, 1) := by decide +kernel
theorem dX11_send_102 : decode cX11_send 102 = .ok (.isub, 1) := by decide +kernel
theorem dX11_send_103 : decode cX11_send 103 = .ok (.ireturn, 1) := by decide +kernel
theorem dX11_tens_0 : decode cX11_tens 0 = .ok (.iconst 1, 1) := by decide +kernel
theorem dX11_tens_1 : decode cX11_tens 1 = .ok (.istore_n 1, 1) := by decide +kernel
theorem dX11_tens_2 : decode cX11_tens 2 = .ok (.iconst 0, 1) := by decide +kernel
theorem dX11_tens_3 : decode cX11_tens 3 = .ok (.istore_n 2, 1) := by decide +kernel
theorem dX11_tens_4 : decode cX11_tens 4 = .ok (.iload_n 2, 1) := by decide +kernel
theorem dX11_tens_5 : decode cX11_tens 5 = .ok (.iload_n 0, 1) := by decide +kernel
theorem dX11_tens_6 : decode cX11_tens 6 = .ok (.if_icmp .ge 14, 3) := by decide +kernel
theorem dX11_tens_9 : decode cX11_tens 9 = .ok (.iload_n 1, 1) := by decide +kernel
theorem dX11_tens_10 : decode cX11_tens 10 = .ok (.bipush 10, 2) := by decide +kernel
theorem dX11_tens_12 : decode cX11_tens 12 = .ok (.imul, 1) := by decide +kernel
theorem dX11_tens_13 : decode cX11_tens 13 = .ok (.istore_n 1, 1) := by decide +kernel
theorem dX11_tens_14 : decode cX11_tens 14 = .ok (.iinc 2 1, 3) := by decide +kernel
theorem dX11_tens_17 : decode cX11_tens 17 = .ok (.goto (-13), 3) := by decide +kernel
theorem dX11_tens_20 : decode cX11_tens 20 = .ok (.iload_n 1, 1) := by decide +kernel
theorem dX11_tens_21 : decode cX11_tens 21 = .ok (.ireturn, 1) := by decide +kernel
theorem dX11_isCounting_0 : decode cX11_isCounting 0 = .ok (.aload_n 0, 1) := by decide +kernel
theorem dX11_isCounting_1 : decode cX11_isCounting 1 = .ok (.getfield 10, 3) := by decide +kernel
theorem dX11_isCounting_4 : decode cX11_isCounting 4 = .ok (.getfield 203, 3) := by decide +kernel
theorem dX11_isCounting_7 : decode cX11_isCounting 7 = .ok (.iload_n 1, 1) := by decide +kernel
theorem dX11_isCounting_8 : decode cX11_isCounting 8 = .ok (.aaload, 1) := by decide +kernel
theorem dX11_isCounting_9 : decode cX11_isCounting 9 = .ok (.astore_n 2, 1) := by decide +kernel
theorem dX11_isCounting_10 : decode cX11_isCounting 10 = .ok (.aload_n 2, 1) := by decide +kernel
theorem dX11_isCounting_11 : decode cX11_isCounting 11 = .ok (.iconst 5, 1) := by decide +kernel
theorem dX11_isCounting_12 : decode cX11_isCounting 12 = .ok (.iaload, 1) := by decide +kernel
theorem dX11_isCounting_13 : decode cX11_isCounting 13 = .ok (.ifCond .ne 58, 3) := by decide +kernel
theorem dX11_isCounting_16 : decode cX11_isCounting 16 = .ok (.aload_n 0, 1) := by decide +kernel
theorem dX11_isCounting_17 : decode cX11_isCounting 17 = .ok (.getfield 10, 3) := by decide +kernel
theorem dX11_isCounting_20 : decode cX11_isCounting 20 = .ok (.getfield 115, 3) := by decide +kernel
theorem dX11_isCounting_23 : decode cX11_isCounting 23 = .ok (.aload_n 2, 1) := by decide +kernel
theorem dX11_isCounting_24 : decode cX11_isCounting 24 = .ok (.iconst 3, 1) := by decide +kernel
theorem dX11_isCounting_25 : decode cX11_isCounting 25 = .ok (.iaload, 1) := by decide +kernel
theorem dX11_isCounting_26 : decode cX11_isCounting 26 = .ok (.if_icmp .lt 45, 3) := by decide +kernel
theorem dX11_isCounting_29 : decode cX11_isCounting 29 = .ok (.aload_n 0, 1) := by decide +kernel
theorem dX11_isCounting_30 : decode cX11_isCounting 30 = .ok (.getfield 10, 3) := by decide +kernel
theorem dX11_isCounting_33 : decode cX11_isCounting 33 = .ok (.getfield 115, 3) := by decide +kernel
theorem dX11_isCounting_36 : decode cX11_isCounting 36 = .ok (.aload_n 2, 1) := by decide +kernel
theorem dX11_isCounting_37 : decode cX11_isCounting 37 = .ok (.iconst 4, 1) := by decide +kernel
theorem dX11_isCounting_38 : decode cX11_isCounting 38 = .ok (.iaload, 1) := by decide +kernel
theorem dX11_isCounting_39 : decode cX11_isCounting 39 = .ok (.if_icmp .gt 32, 3) := by decide +kernel
theorem dX11_isCounting_42 : decode cX11_isCounting 42 = .ok (.aload_n 0, 1) := by decide +kernel
theorem dX11_isCounting_43 : decode cX11_isCounting 43 = .ok (.getfield 10, 3) := by decide +kernel
theorem dX11_isCounting_46 : decode cX11_isCounting 46 = .ok (.getfield 95, 3) := by decide +kernel
theorem dX11_isCounting_49 : decode cX11_isCounting 49 = .ok (.iconst 4, 1) := by decide +kernel
theorem dX11_isCounting_50 : decode cX11_isCounting 50 = .ok (.iaload, 1) := by decide +kernel
theorem dX11_isCounting_51 : decode cX11_isCounting 51 = .ok (.ifCond .eq 16, 3) := by decide +kernel
theorem dX11_isCounting_54 : decode cX11_isCounting 54 = .ok (.iload_n 1, 1) := by decide +kernel
theorem dX11_isCounting_55 : decode cX11_isCounting 55 = .ok (.aload_n 0, 1) := by decide +kernel
theorem dX11_isCounting_56 : decode cX11_isCounting 56 = .ok (.getfield 10, 3) := by decide +kernel
theorem dX11_isCounting_59 : decode cX11_isCounting 59 = .ok (.getfield 197, 3) := by decide +kernel
theorem dX11_isCounting_62 : decode cX11_isCounting 62 = .ok (.iconst 1, 1) := by decide +kernel
theorem dX11_isCounting_63 : decode cX11_isCounting 63 = .ok (.isub, 1) := by decide +kernel
theorem dX11_isCounting_64 : decode cX11_isCounting 64 = .ok (.if_icmp .ne 7, 3) := by decide +kernel
theorem dX11_isCounting_67 : decode cX11_isCounting 67 = .ok (.iconst 1, 1) := by decide +kernel
theorem dX11_isCounting_68 : decode cX11_isCounting 68 = .ok (.goto 4, 3) := by decide +kernel
theorem dX11_isCounting_71 : decode cX11_isCounting 71 = .ok (.iconst 0, 1) := by decide +kernel
theorem dX11_isCounting_72 : decode cX11_isCounting 72 = .ok (.ireturn, 1) := by decide +kernel
theorem dX11_codeThatOpens_0 : decode cX11_codeThatOpens 0 = .ok (.iconst 0, 1) := by decide +kernel
theorem dX11_codeThatOpens_1 : decode cX11_codeThatOpens 1 = .ok (.istore_n 2, 1) := by decide +kernel
theorem dX11_codeThatOpens_2 : decode cX11_codeThatOpens 2 = .ok (.iload_n 2, 1) := by decide +kernel
theorem dX11_codeThatOpens_3 : decode cX11_codeThatOpens 3 = .ok (.aload_n 0, 1) := by decide +kernel
theorem dX11_codeThatOpens_4 : decode cX11_codeThatOpens 4 = .ok (.getfield 10, 3) := by decide +kernel
theorem dX11_codeThatOpens_7 : decode cX11_codeThatOpens 7 = .ok (.getfield 197, 3) := by decide +kernel
theorem dX11_codeThatOpens_10 : decode cX11_codeThatOpens 10 = .ok (.if_icmp .ge 34, 3) := by decide +kernel
theorem dX11_codeThatOpens_13 : decode cX11_codeThatOpens 13 = .ok (.aload_n 0, 1) := by decide +kernel
theorem dX11_codeThatOpens_14 : decode cX11_codeThatOpens 14 = .ok (.getfield 10, 3) := by decide +kernel
theorem dX11_codeThatOpens_17 : decode cX11_codeThatOpens 17 = .ok (.getfield 203, 3) := by decide +kernel
theorem dX11_codeThatOpens_20 : decode cX11_codeThatOpens 20 = .ok (.iload_n 2, 1) := by decide +kernel
theorem dX11_codeThatOpens_21 : decode cX11_codeThatOpens 21 = .ok (.aaload, 1) := by decide +kernel
theorem dX11_codeThatOpens_22 : decode cX11_codeThatOpens 22 = .ok (.iconst 1, 1) := by decide +kernel
theorem dX11_codeThatOpens_23 : decode cX11_codeThatOpens 23 = .ok (.iaload, 1) := by decide +kernel
theorem dX11_codeThatOpens_24 : decode cX11_codeThatOpens 24 = .ok (.iload_n 1, 1) := by decide +kernel
theorem dX11_codeThatOpens_25 : decode cX11_codeThatOpens 25 = .ok (.if_icmp .ne 13, 3) := by decide +kernel
theorem dX11_codeThatOpens_28 : decode cX11_codeThatOpens 28 = .ok (.aload_n 0, 1) := by decide +kernel
theorem dX11_codeThatOpens_29 : decode cX11_codeThatOpens 29 = .ok (.iload_n 2, 1) := by decide +kernel
theorem dX11_codeThatOpens_30 : decode cX11_codeThatOpens 30 = .ok (.invokevirtual 200, 3) := by decide +kernel
theorem dX11_codeThatOpens_33 : decode cX11_codeThatOpens 33 = .ok (.ifCond .eq 5, 3) := by decide +kernel
theorem dX11_codeThatOpens_36 : decode cX11_codeThatOpens 36 = .ok (.iload_n 2, 1) := by decide +kernel
theorem dX11_codeThatOpens_37 : decode cX11_codeThatOpens 37 = .ok (.ireturn, 1) := by decide +kernel
theorem dX11_codeThatOpens_38 : decode cX11_codeThatOpens 38 = .ok (.iinc 2 1, 3) := by decide +kernel
theorem dX11_codeThatOpens_41 : decode cX11_codeThatOpens 41 = .ok (.goto (-39), 3) := by decide +kernel
theorem dX11_codeThatOpens_44 : decode cX11_codeThatOpens 44 = .ok (.iconst (-1), 1) := by decide +kernel
theorem dX11_codeThatOpens_45 : decode cX11_codeThatOpens 45 = .ok (.ireturn, 1) := by decide +kernel
theorem dX11_fetched_0 : decode cX11_fetched 0 = .ok (.iload_n 2, 1) := by decide +kernel
theorem dX11_fetched_1 : decode cX11_fetched 1 = .ok (.iconst 1, 1) := by decide +kernel
theorem dX11_fetched_2 : decode cX11_fetched 2 = .ok (.invokestatic 98, 3) := by decide +kernel
theorem dX11_fetched_5 : decode cX11_fetched 5 = .ok (.ifCond .eq 11, 3) := by decide +kernel
theorem dX11_fetched_8 : decode cX11_fetched 8 = .ok (.aload_n 0, 1) := by decide +kernel
theorem dX11_fetched_9 : decode cX11_fetched 9 = .ok (.iload_n 1, 1) := by decide +kernel
theorem dX11_fetched_10 : decode cX11_fetched 10 = .ok (.invokevirtual 191, 3) := by decide +kernel
theorem dX11_fetched_13 : decode cX11_fetched 13 = .ok (.goto 4, 3) := by decide +kernel
theorem dX11_fetched_16 : decode cX11_fetched 16 = .ok (.iconst 1, 1) := by decide +kernel
theorem dX11_fetched_17 : decode cX11_fetched 17 = .ok (.istore_n 3, 1) := by decide +kernel
theorem dX11_fetched_18 : decode cX11_fetched 18 = .ok (.iload_n 3, 1) := by decide +kernel
theorem dX11_fetched_19 : decode cX11_fetched 19 = .ok (.ifCond .eq 9, 3) := by decide +kernel
theorem dX11_fetched_22 : decode cX11_fetched 22 = .ok (.aload_n 0, 1) := by decide +kernel
theorem dX11_fetched_23 : decode cX11_fetched 23 = .ok (.iload_n 3, 1) := by decide +kernel
theorem dX11_fetched_24 : decode cX11_fetched 24 = .ok (.invokevirtual 91, 3) := by decide +kernel
theorem dX11_fetched_27 : decode cX11_fetched 27 = .ok (.ireturn, 1) := by decide +kernel
theorem dX11_fetched_28 : decode cX11_fetched 28 = .ok (.iload_n 2, 1) := by decide +kernel
theorem dX11_fetched_29 : decode cX11_fetched 29 = .ok (.iconst 1, 1) := by decide +kernel
theorem dX11_fetched_30 : decode cX11_fetched 30 = .ok (.if_icmp .ne 16, 3) := by decide +kernel
theorem dX11_fetched_33 : decode cX11_fetched 33 = .ok (.aload_n 0, 1) := by decide +kernel
theorem dX11_fetched_34 : decode cX11_fetched 34 = .ok (.iload_n 1, 1) := by decide +kernel
theorem dX11_fetched_35 : decode cX11_fetched 35 = .ok (.aload_n 0, 1) := by decide +kernel
theorem dX11_fetched_36 : decode cX11_fetched 36 = .ok (.getfield 10, 3) := by decide +kernel
theorem dX11_fetched_39 : decode cX11_fetched 39 = .ok (.getfield 115, 3) := by decide +kernel
theorem dX11_fetched_42 : decode cX11_fetched 42 = .ok (.invokevirtual 241, 3) := by decide +kernel
theorem dX11_fetched_45 : decode cX11_fetched 45 = .ok (.ireturn, 1) := by decide +kernel
theorem dX11_fetched_46 : decode cX11_fetched 46 = .ok (.aload_n 0, 1) := by decide +kernel
theorem dX11_fetched_47 : decode cX11_fetched 47 = .ok (.iload_n 1, 1) := by decide +kernel
theorem dX11_fetched_48 : decode cX11_fetched 48 = .ok (.aload_n 0, 1) := by decide +kernel
theorem dX11_fetched_49 : decode cX11_fetched 49 = .ok (.getfield 10, 3) := by decide +kernel
theorem dX11_fetched_52 : decode cX11_fetched 52 = .ok (.getfield 115, 3) := by decide +kernel
theorem dX11_fetched_55 : decode cX11_fetched 55 = .ok (.invokevirtual 244, 3) := by decide +kernel
theorem dX11_fetched_58 : decode cX11_fetched 58 = .ok (.ifCond .eq 7, 3) := by decide +kernel
theorem dX11_fetched_61 : decode cX11_fetched 61 = .ok (.iconst 1, 1) := by decide +kernel
theorem dX11_fetched_62 : decode cX11_fetched 62 = .ok (.goto 4, 3) := by decide +kernel
theorem dX11_fetched_65 : decode cX11_fetched 65 = .ok (.iconst 0, 1) := by decide +kernel
theorem dX11_fetched_66 : decode cX11_fetched 66 = .ok (.ireturn, 1) := by decide +kernel
theorem dX11_holdFor_0 : decode cX11_holdFor 0 = .ok (.aload_n 0, 1) := by decide +kernel
theorem dX11_holdFor_1 : decode cX11_holdFor 1 = .ok (.iload_n 1, 1) := by decide +kernel
theorem dX11_holdFor_2 : decode cX11_holdFor 2 = .ok (.invokevirtual 191, 3) := by decide +kernel
theorem dX11_holdFor_5 : decode cX11_holdFor 5 = .ok (.istore_n 2, 1) := by decide +kernel
theorem dX11_holdFor_6 : decode cX11_holdFor 6 = .ok (.iload_n 2, 1) := by decide +kernel
theorem dX11_holdFor_7 : decode cX11_holdFor 7 = .ok (.ifCond .eq 9, 3) := by decide +kernel
theorem dX11_holdFor_10 : decode cX11_holdFor 10 = .ok (.aload_n 0, 1) := by decide +kernel
theorem dX11_holdFor_11 : decode cX11_holdFor 11 = .ok (.iload_n 2, 1) := by decide +kernel
theorem dX11_holdFor_12 : decode cX11_holdFor 12 = .ok (.invokevirtual 91, 3) := by decide +kernel
theorem dX11_holdFor_15 : decode cX11_holdFor 15 = .ok (.ireturn, 1) := by decide +kernel
theorem dX11_holdFor_16 : decode cX11_holdFor 16 = .ok (.aload_n 0, 1) := by decide +kernel
theorem dX11_holdFor_17 : decode cX11_holdFor 17 = .ok (.iload_n 1, 1) := by decide +kernel
theorem dX11_holdFor_18 : decode cX11_holdFor 18 = .ok (.aload_n 0, 1) := by decide +kernel
theorem dX11_holdFor_19 : decode cX11_holdFor 19 = .ok (.getfield 10, 3) := by decide +kernel
theorem dX11_holdFor_22 : decode cX11_holdFor 22 = .ok (.getfield 115, 3) := by decide +kernel
theorem dX11_holdFor_25 : decode cX11_holdFor 25 = .ok (.invokevirtual 241, 3) := by decide +kernel
theorem dX11_holdFor_28 : decode cX11_holdFor 28 = .ok (.istore_n 3, 1) := by decide +kernel
theorem dX11_holdFor_29 : decode cX11_holdFor 29 = .ok (.aload_n 0, 1) := by decide +kernel
theorem dX11_holdFor_30 : decode cX11_holdFor 30 = .ok (.iload_n 1, 1) := by decide +kernel
theorem dX11_holdFor_31 : decode cX11_holdFor 31 = .ok (.aload_n 0, 1) := by decide +kernel
theorem dX11_holdFor_32 : decode cX11_holdFor 32 = .ok (.getfield 10, 3) := by decide +kernel
theorem dX11_holdFor_35 : decode cX11_holdFor 35 = .ok (.getfield 115, 3) := by decide +kernel
theorem dX11_holdFor_38 : decode cX11_holdFor 38 = .ok (.iload_n 3, 1) := by decide +kernel
theorem dX11_holdFor_39 : decode cX11_holdFor 39 = .ok (.iadd, 1) := by decide +kernel
theorem dX11_holdFor_40 : decode cX11_holdFor 40 = .ok (.invokevirtual 247, 3) := by decide +kernel
theorem dX11_holdFor_43 : decode cX11_holdFor 43 = .ok (.ifCond .eq 40, 3) := by decide +kernel
theorem dX11_holdFor_46 : decode cX11_holdFor 46 = .ok (.getstatic 85, 3) := by decide +kernel
theorem dX11_holdFor_49 : decode cX11_holdFor 49 = .ok (.iconst 1, 1) := by decide +kernel
theorem dX11_holdFor_50 : decode cX11_holdFor 50 = .ok (.iaload, 1) := by decide +kernel
theorem dX11_holdFor_51 : decode cX11_holdFor 51 = .ok (.istore 4, 2) := by decide +kernel
theorem dX11_holdFor_53 : decode cX11_holdFor 53 = .ok (.iload 4, 2) := by decide +kernel
theorem dX11_holdFor_55 : decode cX11_holdFor 55 = .ok (.getstatic 88, 3) := by decide +kernel
theorem dX11_holdFor_58 : decode cX11_holdFor 58 = .ok (.iconst 1, 1) := by decide +kernel
theorem dX11_holdFor_59 : decode cX11_holdFor 59 = .ok (.iaload, 1) := by decide +kernel
theorem dX11_holdFor_60 : decode cX11_holdFor 60 = .ok (.if_icmp .gt 23, 3) := by decide +kernel
theorem dX11_holdFor_63 : decode cX11_holdFor 63 = .ok (.iload_n 3, 1) := by decide +kernel
theorem dX11_holdFor_64 : decode cX11_holdFor 64 = .ok (.aload_n 0, 1) := by decide +kernel
theorem dX11_holdFor_65 : decode cX11_holdFor 65 = .ok (.iload_n 1, 1) := by decide +kernel
theorem dX11_holdFor_66 : decode cX11_holdFor 66 = .ok (.iload 4, 2) := by decide +kernel
theorem dX11_holdFor_68 : decode cX11_holdFor 68 = .ok (.invokevirtual 122, 3) := by decide +kernel
theorem dX11_holdFor_71 : decode cX11_holdFor 71 = .ok (.if_icmp .gt 6, 3) := by decide +kernel
theorem dX11_holdFor_74 : decode cX11_holdFor 74 = .ok (.iload 4, 2) := by decide +kernel
theorem dX11_holdFor_76 : decode cX11_holdFor 76 = .ok (.ireturn, 1) := by decide +kernel
theorem dX11_holdFor_77 : decode cX11_holdFor 77 = .ok (.iinc 4 1, 3) := by decide +kernel
theorem dX11_holdFor_80 : decode cX11_holdFor 80 = .ok (.goto (-27), 3) := by decide +kernel
theorem dX11_holdFor_83 : decode cX11_holdFor 83 = .ok (.aload_n 0, 1) := by decide +kernel
theorem dX11_holdFor_84 : decode cX11_holdFor 84 = .ok (.iconst 2, 1) := by decide +kernel
theorem dX11_holdFor_85 : decode cX11_holdFor 85 = .ok (.invokevirtual 91, 3) := by decide +kernel
theorem dX11_holdFor_88 : decode cX11_holdFor 88 = .ok (.ireturn, 1) := by decide +kernel
theorem dX11_fastest_0 : decode cX11_fastest 0 = .ok (.iload_n 1, 1) := by decide +kernel
theorem dX11_fastest_1 : decode cX11_fastest 1 = .ok (.iconst 1, 1) := by decide +kernel
theorem dX11_fastest_2 : decode cX11_fastest 2 = .ok (.invokestatic 98, 3) := by decide +kernel
theorem dX11_fastest_5 : decode cX11_fastest 5 = .ok (.ifCond .ne 9, 3) := by decide +kernel
theorem dX11_fastest_8 : decode cX11_fastest 8 = .ok (.aload_n 0, 1) := by decide +kernel
theorem dX11_fastest_9 : decode cX11_fastest 9 = .ok (.iconst 1, 1) := by decide +kernel
theorem dX11_fastest_10 : decode cX11_fastest 10 = .ok (.invokevirtual 91, 3) := by decide +kernel
theorem dX11_fastest_13 : decode cX11_fastest 13 = .ok (.ireturn, 1) := by decide +kernel
theorem dX11_fastest_14 : decode cX11_fastest 14 = .ok (.iconst (-1), 1) := by decide +kernel
theorem dX11_fastest_15 : decode cX11_fastest 15 = .ok (.istore_n 2, 1) := by decide +kernel
theorem dX11_fastest_16 : decode cX11_fastest 16 = .ok (.iconst 0, 1) := by decide +kernel
theorem dX11_fastest_17 : decode cX11_fastest 17 = .ok (.istore_n 3, 1) := by decide +kernel
theorem dX11_fastest_18 : decode cX11_fastest 18 = .ok (.iconst 0, 1) := by decide +kernel
theorem dX11_fastest_19 : decode cX11_fastest 19 = .ok (.istore 4, 2) := by decide +kernel
theorem dX11_fastest_21 : decode cX11_fastest 21 = .ok (.iload 4, 2) := by decide +kernel
theorem dX11_fastest_23 : decode cX11_fastest 23 = .ok (.aload_n 0, 1) := by decide +kernel
theorem dX11_fastest_24 : decode cX11_fastest 24 = .ok (.getfield 10, 3) := by decide +kernel
theorem dX11_fastest_27 : decode cX11_fastest 27 = .ok (.getfield 106, 3) := by decide +kernel
theorem dX11_fastest_30 : decode cX11_fastest 30 = .ok (.if_icmp .ge 65, 3) := by decide +kernel
theorem dX11_fastest_33 : decode cX11_fastest 33 = .ok (.aload_n 0, 1) := by decide +kernel
theorem dX11_fastest_34 : decode cX11_fastest 34 = .ok (.iload 4, 2) := by decide +kernel
theorem dX11_fastest_36 : decode cX11_fastest 36 = .ok (.invokevirtual 227, 3) := by decide +kernel
theorem dX11_fastest_39 : decode cX11_fastest 39 = .ok (.ifCond .ne 50, 3) := by decide +kernel
theorem dX11_fastest_42 : decode cX11_fastest 42 = .ok (.aload_n 0, 1) := by decide +kernel
theorem dX11_fastest_43 : decode cX11_fastest 43 = .ok (.iload 4, 2) := by decide +kernel
theorem dX11_fastest_45 : decode cX11_fastest 45 = .ok (.aload_n 0, 1) := by decide +kernel
theorem dX11_fastest_46 : decode cX11_fastest 46 = .ok (.getfield 10, 3) := by decide +kernel
theorem dX11_fastest_49 : decode cX11_fastest 49 = .ok (.getfield 115, 3) := by decide +kernel
theorem dX11_fastest_52 : decode cX11_fastest 52 = .ok (.invokevirtual 244, 3) := by decide +kernel
theorem dX11_fastest_55 : decode cX11_fastest 55 = .ok (.ifCond .eq 34, 3) := by decide +kernel
theorem dX11_fastest_58 : decode cX11_fastest 58 = .ok (.aload_n 0, 1) := by decide +kernel
theorem dX11_fastest_59 : decode cX11_fastest 59 = .ok (.iload 4, 2) := by decide +kernel
theorem dX11_fastest_61 : decode cX11_fastest 61 = .ok (.aload_n 0, 1) := by decide +kernel
theorem dX11_fastest_62 : decode cX11_fastest 62 = .ok (.getfield 10, 3) := by decide +kernel
theorem dX11_fastest_65 : decode cX11_fastest 65 = .ok (.getfield 115, 3) := by decide +kernel
theorem dX11_fastest_68 : decode cX11_fastest 68 = .ok (.invokevirtual 241, 3) := by decide +kernel
theorem dX11_fastest_71 : decode cX11_fastest 71 = .ok (.istore 5, 2) := by decide +kernel
theorem dX11_fastest_73 : decode cX11_fastest 73 = .ok (.iload_n 2, 1) := by decide +kernel
theorem dX11_fastest_74 : decode cX11_fastest 74 = .ok (.ifCond .lt 9, 3) := by decide +kernel
theorem dX11_fastest_77 : decode cX11_fastest 77 = .ok (.iload 5, 2) := by decide +kernel
theorem dX11_fastest_79 : decode cX11_fastest 79 = .ok (.iload_n 3, 1) := by decide +kernel
theorem dX11_fastest_80 : decode cX11_fastest 80 = .ok (.if_icmp .ge 9, 3) := by decide +kernel
theorem dX11_fastest_83 : decode cX11_fastest 83 = .ok (.iload 4, 2) := by decide +kernel
theorem dX11_fastest_85 : decode cX11_fastest 85 = .ok (.istore_n 2, 1) := by decide +kernel
theorem dX11_fastest_86 : decode cX11_fastest 86 = .ok (.iload 5, 2) := by decide +kernel
theorem dX11_fastest_88 : decode cX11_fastest 88 = .ok (.istore_n 3, 1) := by decide +kernel
theorem dX11_fastest_89 : decode cX11_fastest 89 = .ok (.iinc 4 1, 3) := by decide +kernel
theorem dX11_fastest_92 : decode cX11_fastest 92 = .ok (.goto (-71), 3) := by decide +kernel
theorem dX11_fastest_95 : decode cX11_fastest 95 = .ok (.iload_n 2, 1) := by decide +kernel
theorem dX11_fastest_96 : decode cX11_fastest 96 = .ok (.ifCond .ge 9, 3) := by decide +kernel
theorem dX11_fastest_99 : decode cX11_fastest 99 = .ok (.aload_n 0, 1) := by decide +kernel
theorem dX11_fastest_100 : decode cX11_fastest 100 = .ok (.iconst 2, 1) := by decide +kernel
theorem dX11_fastest_101 : decode cX11_fastest 101 = .ok (.invokevirtual 91, 3) := by decide +kernel
theorem dX11_fastest_104 : decode cX11_fastest 104 = .ok (.ireturn, 1) := by decide +kernel
theorem dX11_fastest_105 : decode cX11_fastest 105 = .ok (.iload_n 1, 1) := by decide +kernel
theorem dX11_fastest_106 : decode cX11_fastest 106 = .ok (.ifCond .ne 7, 3) := by decide +kernel
theorem dX11_fastest_109 : decode cX11_fastest 109 = .ok (.iload_n 2, 1) := by decide +kernel
theorem dX11_fastest_110 : decode cX11_fastest 110 = .ok (.goto 4, 3) := by decide +kernel
theorem dX11_fastest_113 : decode cX11_fastest 113 = .ok (.iload_n 3, 1) := by decide +kernel
theorem dX11_fastest_114 : decode cX11_fastest 114 = .ok (.ireturn, 1) := by decide +kernel
theorem dX11_figuresFor_0 : decode cX11_figuresFor 0 = .ok (.iload_n 1, 1) := by decide +kernel
theorem dX11_figuresFor_1 : decode cX11_figuresFor 1 = .ok (.iconst 1, 1) := by decide +kernel
theorem dX11_figuresFor_2 : decode cX11_figuresFor 2 = .ok (.if_icmp .lt 9, 3) := by decide +kernel
theorem dX11_figuresFor_5 : decode cX11_figuresFor 5 = .ok (.iload_n 1, 1) := by decide +kernel
theorem dX11_figuresFor_6 : decode cX11_figuresFor 6 = .ok (.ldc 206, 2) := by decide +kernel
theorem dX11_figuresFor_8 : decode cX11_figuresFor 8 = .ok (.if_icmp .le 9, 3) := by decide +kernel
theorem dX11_figuresFor_11 : decode cX11_figuresFor 11 = .ok (.aload_n 0, 1) := by decide +kernel
theorem dX11_figuresFor_12 : decode cX11_figuresFor 12 = .ok (.iconst 1, 1) := by decide +kernel
theorem dX11_figuresFor_13 : decode cX11_figuresFor 13 = .ok (.invokevirtual 91, 3) := by decide +kernel
theorem dX11_figuresFor_16 : decode cX11_figuresFor 16 = .ok (.ireturn, 1) := by decide +kernel
theorem dX11_figuresFor_17 : decode cX11_figuresFor 17 = .ok (.getstatic 85, 3) := by decide +kernel
theorem dX11_figuresFor_20 : decode cX11_figuresFor 20 = .ok (.iconst 0, 1) := by decide +kernel
theorem dX11_figuresFor_21 : decode cX11_figuresFor 21 = .ok (.iaload, 1) := by decide +kernel
theorem dX11_figuresFor_22 : decode cX11_figuresFor 22 = .ok (.istore_n 2, 1) := by decide +kernel
theorem dX11_figuresFor_23 : decode cX11_figuresFor 23 = .ok (.iload_n 2, 1) := by decide +kernel
theorem dX11_figuresFor_24 : decode cX11_figuresFor 24 = .ok (.getstatic 88, 3) := by decide +kernel
theorem dX11_figuresFor_27 : decode cX11_figuresFor 27 = .ok (.iconst 0, 1) := by decide +kernel
theorem dX11_figuresFor_28 : decode cX11_figuresFor 28 = .ok (.iaload, 1) := by decide +kernel
theorem dX11_figuresFor_29 : decode cX11_figuresFor 29 = .ok (.if_icmp .gt 29, 3) := by decide +kernel
theorem dX11_figuresFor_32 : decode cX11_figuresFor 32 = .ok (.aload_n 0, 1) := by decide +kernel
theorem dX11_figuresFor_33 : decode cX11_figuresFor 33 = .ok (.getfield 10, 3) := by decide +kernel
theorem dX11_figuresFor_36 : decode cX11_figuresFor 36 = .ok (.getfield 95, 3) := by decide +kernel
theorem dX11_figuresFor_39 : decode cX11_figuresFor 39 = .ok (.iconst 2, 1) := by decide +kernel
theorem dX11_figuresFor_40 : decode cX11_figuresFor 40 = .ok (.iaload, 1) := by decide +kernel
theorem dX11_figuresFor_41 : decode cX11_figuresFor 41 = .ok (.iload_n 1, 1) := by decide +kernel
theorem dX11_figuresFor_42 : decode cX11_figuresFor 42 = .ok (.imul, 1) := by decide +kernel
theorem dX11_figuresFor_43 : decode cX11_figuresFor 43 = .ok (.iload_n 2, 1) := by decide +kernel
theorem dX11_figuresFor_44 : decode cX11_figuresFor 44 = .ok (.invokestatic 238, 3) := by decide +kernel
theorem dX11_figuresFor_47 : decode cX11_figuresFor 47 = .ok (.if_icmp .gt 5, 3) := by decide +kernel
theorem dX11_figuresFor_50 : decode cX11_figuresFor 50 = .ok (.iload_n 2, 1) := by decide +kernel
theorem dX11_figuresFor_51 : decode cX11_figuresFor 51 = .ok (.ireturn, 1) := by decide +kernel
theorem dX11_figuresFor_52 : decode cX11_figuresFor 52 = .ok (.iinc 2 1, 3) := by decide +kernel
theorem dX11_figuresFor_55 : decode cX11_figuresFor 55 = .ok (.goto (-32), 3) := by decide +kernel
theorem dX11_figuresFor_58 : decode cX11_figuresFor 58 = .ok (.aload_n 0, 1) := by decide +kernel
theorem dX11_figuresFor_59 : decode cX11_figuresFor 59 = .ok (.iconst 2, 1) := by decide +kernel
theorem dX11_figuresFor_60 : decode cX11_figuresFor 60 = .ok (.invokevirtual 91, 3) := by decide +kernel
theorem dX11_figuresFor_63 : decode cX11_figuresFor 63 = .ok (.ireturn, 1) := by decide +kernel
theorem dX11_counting_0 : decode cX11_counting 0 = .ok (.iconst 0, 1) := by decide +kernel
theorem dX11_counting_1 : decode cX11_counting 1 = .ok (.istore_n 1, 1) := by decide +kernel
theorem dX11_counting_2 : decode cX11_counting 2 = .ok (.iconst 0, 1) := by decide +kernel
theorem dX11_counting_3 : decode cX11_counting 3 = .ok (.istore_n 2, 1) := by decide +kernel
theorem dX11_counting_4 : decode cX11_counting 4 = .ok (.iload_n 2, 1) := by decide +kernel
theorem dX11_counting_5 : decode cX11_counting 5 = .ok (.aload_n 0, 1) := by decide +kernel
theorem dX11_counting_6 : decode cX11_counting 6 = .ok (.getfield 10, 3) := by decide +kernel
theorem dX11_counting_9 : decode cX11_counting 9 = .ok (.getfield 197, 3) := by decide +kernel
theorem dX11_counting_12 : decode cX11_counting 12 = .ok (.if_icmp .ge 23, 3) := by decide +kernel
theorem dX11_counting_15 : decode cX11_counting 15 = .ok (.aload_n 0, 1) := by decide +kernel
theorem dX11_counting_16 : decode cX11_counting 16 = .ok (.iload_n 2, 1) := by decide +kernel
theorem dX11_counting_17 : decode cX11_counting 17 = .ok (.invokevirtual 200, 3) := by decide +kernel
theorem dX11_counting_20 : decode cX11_counting 20 = .ok (.ifCond .eq 9, 3) := by decide +kernel
theorem dX11_counting_23 : decode cX11_counting 23 = .ok (.iload_n 1, 1) := by decide +kernel
theorem dX11_counting_24 : decode cX11_counting 24 = .ok (.iconst 1, 1) := by decide +kernel
theorem dX11_counting_25 : decode cX11_counting 25 = .ok (.iload_n 2, 1) := by decide +kernel
theorem dX11_counting_26 : decode cX11_counting 26 = .ok (.ishl, 1) := by decide +kernel
theorem dX11_counting_27 : decode cX11_counting 27 = .ok (.ior, 1) := by decide +kernel
theorem dX11_counting_28 : decode cX11_counting 28 = .ok (.istore_n 1, 1) := by decide +kernel
theorem dX11_counting_29 : decode cX11_counting 29 = .ok (.iinc 2 1, 3) := by decide +kernel
theorem dX11_counting_32 : decode cX11_counting 32 = .ok (.goto (-28), 3) := by decide +kernel
theorem dX11_counting_35 : decode cX11_counting 35 = .ok (.iload_n 1, 1) := by decide +kernel
theorem dX11_counting_36 : decode cX11_counting 36 = .ok (.ireturn, 1) := by decide +kernel
theorem dX11_crossed_0 : decode cX11_crossed 0 = .ok (.iconst 0, 1) := by decide +kernel
theorem dX11_crossed_1 : decode cX11_crossed 1 = .ok (.istore_n 1, 1) := by decide +kernel
theorem dX11_crossed_2 : decode cX11_crossed 2 = .ok (.iconst 0, 1) := by decide +kernel
theorem dX11_crossed_3 : decode cX11_crossed 3 = .ok (.istore_n 2, 1) := by decide +kernel
theorem dX11_crossed_4 : decode cX11_crossed 4 = .ok (.iload_n 2, 1) := by decide +kernel
theorem dX11_crossed_5 : decode cX11_crossed 5 = .ok (.aload_n 0, 1) := by decide +kernel
theorem dX11_crossed_6 : decode cX11_crossed 6 = .ok (.getfield 10, 3) := by decide +kernel
theorem dX11_crossed_9 : decode cX11_crossed 9 = .ok (.getfield 197, 3) := by decide +kernel
theorem dX11_crossed_12 : decode cX11_crossed 12 = .ok (.if_icmp .ge 81, 3) := by decide +kernel
theorem dX11_crossed_15 : decode cX11_crossed 15 = .ok (.iconst 0, 1) := by decide +kernel
theorem dX11_crossed_16 : decode cX11_crossed 16 = .ok (.istore_n 3, 1) := by decide +kernel
theorem dX11_crossed_17 : decode cX11_crossed 17 = .ok (.iload_n 3, 1) := by decide +kernel
theorem dX11_crossed_18 : decode cX11_crossed 18 = .ok (.aload_n 0, 1) := by decide +kernel
theorem dX11_crossed_19 : decode cX11_crossed 19 = .ok (.getfield 10, 3) := by decide +kernel
theorem dX11_crossed_22 : decode cX11_crossed 22 = .ok (.getfield 197, 3) := by decide +kernel
theorem dX11_crossed_25 : decode cX11_crossed 25 = .ok (.if_icmp .ge 62, 3) := by decide +kernel
theorem dX11_crossed_28 : decode cX11_crossed 28 = .ok (.aload_n 0, 1) := by decide +kernel
theorem dX11_crossed_29 : decode cX11_crossed 29 = .ok (.getfield 10, 3) := by decide +kernel
theorem dX11_crossed_32 : decode cX11_crossed 32 = .ok (.getfield 203, 3) := by decide +kernel
theorem dX11_crossed_35 : decode cX11_crossed 35 = .ok (.iload_n 2, 1) := by decide +kernel
theorem dX11_crossed_36 : decode cX11_crossed 36 = .ok (.aaload, 1) := by decide +kernel
theorem dX11_crossed_37 : decode cX11_crossed 37 = .ok (.iconst 2, 1) := by decide +kernel
theorem dX11_crossed_38 : decode cX11_crossed 38 = .ok (.iaload, 1) := by decide +kernel
theorem dX11_crossed_39 : decode cX11_crossed 39 = .ok (.aload_n 0, 1) := by decide +kernel
theorem dX11_crossed_40 : decode cX11_crossed 40 = .ok (.getfield 10, 3) := by decide +kernel
theorem dX11_crossed_43 : decode cX11_crossed 43 = .ok (.getfield 203, 3) := by decide +kernel
theorem dX11_crossed_46 : decode cX11_crossed 46 = .ok (.iload_n 3, 1) := by decide +kernel
theorem dX11_crossed_47 : decode cX11_crossed 47 = .ok (.aaload, 1) := by decide +kernel
theorem dX11_crossed_48 : decode cX11_crossed 48 = .ok (.iconst 2, 1) := by decide +kernel
theorem dX11_crossed_49 : decode cX11_crossed 49 = .ok (.iaload, 1) := by decide +kernel
theorem dX11_crossed_50 : decode cX11_crossed 50 = .ok (.if_icmp .ge 31, 3) := by decide +kernel
theorem dX11_crossed_53 : decode cX11_crossed 53 = .ok (.aload_n 0, 1) := by decide +kernel
theorem dX11_crossed_54 : decode cX11_crossed 54 = .ok (.getfield 10, 3) := by decide +kernel
theorem dX11_crossed_57 : decode cX11_crossed 57 = .ok (.getfield 203, 3) := by decide +kernel
theorem dX11_crossed_60 : decode cX11_crossed 60 = .ok (.iload_n 2, 1) := by decide +kernel
theorem dX11_crossed_61 : decode cX11_crossed 61 = .ok (.aaload, 1) := by decide +kernel
theorem dX11_crossed_62 : decode cX11_crossed 62 = .ok (.iconst 3, 1) := by decide +kernel
theorem dX11_crossed_63 : decode cX11_crossed 63 = .ok (.iaload, 1) := by decide +kernel
theorem dX11_crossed_64 : decode cX11_crossed 64 = .ok (.aload_n 0, 1) := by decide +kernel
theorem dX11_crossed_65 : decode cX11_crossed 65 = .ok (.getfield 10, 3) := by decide +kernel
theorem dX11_crossed_68 : decode cX11_crossed 68 = .ok (.getfield 203, 3) := by decide +kernel
theorem dX11_crossed_71 : decode cX11_crossed 71 = .ok (.iload_n 3, 1) := by decide +kernel
theorem dX11_crossed_72 : decode cX11_crossed 72 = .ok (.aaload, 1) := by decide +kernel
theorem dX11_crossed_73 : decode cX11_crossed 73 = .ok (.iconst 3, 1) := by decide +kernel
theorem dX11_crossed_74 : decode cX11_crossed 74 = .ok (.iaload, 1) := by decide +kernel
theorem dX11_crossed_75 : decode cX11_crossed 75 = .ok (.if_icmp .le 6, 3) := by decide +kernel
theorem dX11_crossed_78 : decode cX11_crossed 78 = .ok (.iinc 1 1, 3) := by decide +kernel
theorem dX11_crossed_81 : decode cX11_crossed 81 = .ok (.iinc 3 1, 3) := by decide +kernel
theorem dX11_crossed_84 : decode cX11_crossed 84 = .ok (.goto (-67), 3) := by decide +kernel
theorem dX11_crossed_87 : decode cX11_crossed 87 = .ok (.iinc 2 1, 3) := by decide +kernel
theorem dX11_crossed_90 : decode cX11_crossed 90 = .ok (.goto (-86), 3) := by decide +kernel
theorem dX11_crossed_93 : decode cX11_crossed 93 = .ok (.iload_n 1, 1) := by decide +kernel
theorem dX11_crossed_94 : decode cX11_crossed 94 = .ok (.ireturn, 1) := by decide +kernel
theorem dX11_atOnce_0 : decode cX11_atOnce 0 = .ok (.iload_n 1, 1) := by decide +kernel
theorem dX11_atOnce_1 : decode cX11_atOnce 1 = .ok (.bipush 6, 2) := by decide +kernel
theorem dX11_atOnce_3 : decode cX11_atOnce 3 = .ok (.invokestatic 98, 3) := by decide +kernel
theorem dX11_atOnce_6 : decode cX11_atOnce 6 = .ok (.ifCond .eq 11, 3) := by decide +kernel
theorem dX11_atOnce_9 : decode cX11_atOnce 9 = .ok (.iload_n 2, 1) := by decide +kernel
theorem dX11_atOnce_10 : decode cX11_atOnce 10 = .ok (.iconst 1, 1) := by decide +kernel
theorem dX11_atOnce_11 : decode cX11_atOnce 11 = .ok (.invokestatic 98, 3) := by decide +kernel
theorem dX11_atOnce_14 : decode cX11_atOnce 14 = .ok (.ifCond .ne 9, 3) := by decide +kernel
theorem dX11_atOnce_17 : decode cX11_atOnce 17 = .ok (.aload_n 0, 1) := by decide +kernel
theorem dX11_atOnce_18 : decode cX11_atOnce 18 = .ok (.iconst 1, 1) := by decide +kernel
theorem dX11_atOnce_19 : decode cX11_atOnce 19 = .ok (.invokevirtual 91, 3) := by decide +kernel
theorem dX11_atOnce_22 : decode cX11_atOnce 22 = .ok (.ireturn, 1) := by decide +kernel
theorem dX11_atOnce_23 : decode cX11_atOnce 23 = .ok (.bipush 63, 2) := by decide +kernel
theorem dX11_atOnce_25 : decode cX11_atOnce 25 = .ok (.istore_n 3, 1) := by decide +kernel
theorem dX11_atOnce_26 : decode cX11_atOnce 26 = .ok (.iconst 0, 1) := by decide +kernel
theorem dX11_atOnce_27 : decode cX11_atOnce 27 = .ok (.istore 4, 2) := by decide +kernel
theorem dX11_atOnce_29 : decode cX11_atOnce 29 = .ok (.iload 4, 2) := by decide +kernel
theorem dX11_atOnce_31 : decode cX11_atOnce 31 = .ok (.bipush 64, 2) := by decide +kernel
theorem dX11_atOnce_33 : decode cX11_atOnce 33 = .ok (.if_icmp .ge 34, 3) := by decide +kernel
theorem dX11_atOnce_36 : decode cX11_atOnce 36 = .ok (.iload 4, 2) := by decide +kernel
theorem dX11_atOnce_38 : decode cX11_atOnce 38 = .ok (.invokestatic 250, 3) := by decide +kernel
theorem dX11_atOnce_41 : decode cX11_atOnce 41 = .ok (.iload_n 3, 1) := by decide +kernel
theorem dX11_atOnce_42 : decode cX11_atOnce 42 = .ok (.invokestatic 250, 3) := by decide +kernel
theorem dX11_atOnce_45 : decode cX11_atOnce 45 = .ok (.if_icmp .ge 16, 3) := by decide +kernel
theorem dX11_atOnce_48 : decode cX11_atOnce 48 = .ok (.aload_n 0, 1) := by decide +kernel
theorem dX11_atOnce_49 : decode cX11_atOnce 49 = .ok (.iload 4, 2) := by decide +kernel
theorem dX11_atOnce_51 : decode cX11_atOnce 51 = .ok (.invokevirtual 255, 3) := by decide +kernel
theorem dX11_atOnce_54 : decode cX11_atOnce 54 = .ok (.iload_n 1, 1) := by decide +kernel
theorem dX11_atOnce_55 : decode cX11_atOnce 55 = .ok (.if_icmp .gt 6, 3) := by decide +kernel
theorem dX11_atOnce_58 : decode cX11_atOnce 58 = .ok (.iload 4, 2) := by decide +kernel
theorem dX11_atOnce_60 : decode cX11_atOnce 60 = .ok (.istore_n 3, 1) := by decide +kernel
theorem dX11_atOnce_61 : decode cX11_atOnce 61 = .ok (.iinc 4 1, 3) := by decide +kernel
theorem dX11_atOnce_64 : decode cX11_atOnce 64 = .ok (.goto (-35), 3) := by decide +kernel
theorem dX11_atOnce_67 : decode cX11_atOnce 67 = .ok (.iload_n 2, 1) := by decide +kernel
theorem dX11_atOnce_68 : decode cX11_atOnce 68 = .ok (.ifCond .ne 10, 3) := by decide +kernel
theorem dX11_atOnce_71 : decode cX11_atOnce 71 = .ok (.iload_n 3, 1) := by decide +kernel
theorem dX11_atOnce_72 : decode cX11_atOnce 72 = .ok (.invokestatic 250, 3) := by decide +kernel
theorem dX11_atOnce_75 : decode cX11_atOnce 75 = .ok (.goto 4, 3) := by decide +kernel
theorem dX11_atOnce_78 : decode cX11_atOnce 78 = .ok (.iload_n 3, 1) := by decide +kernel
theorem dX11_atOnce_79 : decode cX11_atOnce 79 = .ok (.ireturn, 1) := by decide +kernel
theorem dX11_together_0 : decode cX11_together 0 = .ok (.iconst 0, 1) := by decide +kernel
theorem dX11_together_1 : decode cX11_together 1 = .ok (.istore_n 1, 1) := by decide +kernel
theorem dX11_together_2 : decode cX11_together 2 = .ok (.iconst 0, 1) := by decide +kernel
theorem dX11_together_3 : decode cX11_together 3 = .ok (.istore_n 2, 1) := by decide +kernel
theorem dX11_together_4 : decode cX11_together 4 = .ok (.iload_n 2, 1) := by decide +kernel
theorem dX11_together_5 : decode cX11_together 5 = .ok (.bipush 6, 2) := by decide +kernel
theorem dX11_together_7 : decode cX11_together 7 = .ok (.if_icmp .ge 24, 3) := by decide +kernel
theorem dX11_together_10 : decode cX11_together 10 = .ok (.aload_n 0, 1) := by decide +kernel
theorem dX11_together_11 : decode cX11_together 11 = .ok (.iload_n 2, 1) := by decide +kernel
theorem dX11_together_12 : decode cX11_together 12 = .ok (.invokevirtual 258, 3) := by decide +kernel
theorem dX11_together_15 : decode cX11_together 15 = .ok (.iconst 2, 1) := by decide +kernel
theorem dX11_together_16 : decode cX11_together 16 = .ok (.if_icmp .lt 9, 3) := by decide +kernel
theorem dX11_together_19 : decode cX11_together 19 = .ok (.iload_n 1, 1) := by decide +kernel
theorem dX11_together_20 : decode cX11_together 20 = .ok (.iconst 1, 1) := by decide +kernel
theorem dX11_together_21 : decode cX11_together 21 = .ok (.iload_n 2, 1) := by decide +kernel
theorem dX11_together_22 : decode cX11_together 22 = .ok (.ishl, 1) := by decide +kernel
theorem dX11_together_23 : decode cX11_together 23 = .ok (.ior, 1) := by decide +kernel
theorem dX11_together_24 : decode cX11_together 24 = .ok (.istore_n 1, 1) := by decide +kernel
theorem dX11_together_25 : decode cX11_together 25 = .ok (.iinc 2 1, 3) := by decide +kernel
theorem dX11_together_28 : decode cX11_together 28 = .ok (.goto (-24), 3) := by decide +kernel
theorem dX11_together_31 : decode cX11_together 31 = .ok (.iload_n 1, 1) := by decide +kernel
theorem dX11_together_32 : decode cX11_together 32 = .ok (.ireturn, 1) := by decide +kernel
theorem dX11_waitFor_0 : decode cX11_waitFor 0 = .ok (.iconst (-1), 1) := by decide +kernel
theorem dX11_waitFor_1 : decode cX11_waitFor 1 = .ok (.istore_n 1, 1) := by decide +kernel
theorem dX11_waitFor_2 : decode cX11_waitFor 2 = .ok (.iconst 0, 1) := by decide +kernel
theorem dX11_waitFor_3 : decode cX11_waitFor 3 = .ok (.istore_n 2, 1) := by decide +kernel
theorem dX11_waitFor_4 : decode cX11_waitFor 4 = .ok (.iload_n 2, 1) := by decide +kernel
theorem dX11_waitFor_5 : decode cX11_waitFor 5 = .ok (.aload_n 0, 1) := by decide +kernel
theorem dX11_waitFor_6 : decode cX11_waitFor 6 = .ok (.getfield 10, 3) := by decide +kernel
theorem dX11_waitFor_9 : decode cX11_waitFor 9 = .ok (.getfield 197, 3) := by decide +kernel
theorem dX11_waitFor_12 : decode cX11_waitFor 12 = .ok (.if_icmp .ge 56, 3) := by decide +kernel
theorem dX11_waitFor_15 : decode cX11_waitFor 15 = .ok (.aload_n 0, 1) := by decide +kernel
theorem dX11_waitFor_16 : decode cX11_waitFor 16 = .ok (.getfield 10, 3) := by decide +kernel
theorem dX11_waitFor_19 : decode cX11_waitFor 19 = .ok (.getfield 203, 3) := by decide +kernel
theorem dX11_waitFor_22 : decode cX11_waitFor 22 = .ok (.iload_n 2, 1) := by decide +kernel
theorem dX11_waitFor_23 : decode cX11_waitFor 23 = .ok (.aaload, 1) := by decide +kernel
theorem dX11_waitFor_24 : decode cX11_waitFor 24 = .ok (.astore_n 3, 1) := by decide +kernel
theorem dX11_waitFor_25 : decode cX11_waitFor 25 = .ok (.aload_n 3, 1) := by decide +kernel
theorem dX11_waitFor_26 : decode cX11_waitFor 26 = .ok (.iconst 3, 1) := by decide +kernel
theorem dX11_waitFor_27 : decode cX11_waitFor 27 = .ok (.iaload, 1) := by decide +kernel
theorem dX11_waitFor_28 : decode cX11_waitFor 28 = .ok (.aload_n 0, 1) := by decide +kernel
theorem dX11_waitFor_29 : decode cX11_waitFor 29 = .ok (.getfield 10, 3) := by decide +kernel
theorem dX11_waitFor_32 : decode cX11_waitFor 32 = .ok (.getfield 115, 3) := by decide +kernel
theorem dX11_waitFor_35 : decode cX11_waitFor 35 = .ok (.isub, 1) := by decide +kernel
theorem dX11_waitFor_36 : decode cX11_waitFor 36 = .ok (.istore 4, 2) := by decide +kernel
theorem dX11_waitFor_38 : decode cX11_waitFor 38 = .ok (.aload_n 3, 1) := by decide +kernel
theorem dX11_waitFor_39 : decode cX11_waitFor 39 = .ok (.iconst 5, 1) := by decide +kernel
theorem dX11_waitFor_40 : decode cX11_waitFor 40 = .ok (.iaload, 1) := by decide +kernel
theorem dX11_waitFor_41 : decode cX11_waitFor 41 = .ok (.ifCond .ne 21, 3) := by decide +kernel
theorem dX11_waitFor_44 : decode cX11_waitFor 44 = .ok (.iload 4, 2) := by decide +kernel
theorem dX11_waitFor_46 : decode cX11_waitFor 46 = .ok (.ifCond .le 16, 3) := by decide +kernel
theorem dX11_waitFor_49 : decode cX11_waitFor 49 = .ok (.iload_n 1, 1) := by decide +kernel
theorem dX11_waitFor_50 : decode cX11_waitFor 50 = .ok (.ifCond .lt 9, 3) := by decide +kernel
theorem dX11_waitFor_53 : decode cX11_waitFor 53 = .ok (.iload 4, 2) := by decide +kernel
theorem dX11_waitFor_55 : decode cX11_waitFor 55 = .ok (.iload_n 1, 1) := by decide +kernel
theorem dX11_waitFor_56 : decode cX11_waitFor 56 = .ok (.if_icmp .ge 6, 3) := by decide +kernel
theorem dX11_waitFor_59 : decode cX11_waitFor 59 = .ok (.iload 4, 2) := by decide +kernel
theorem dX11_waitFor_61 : decode cX11_waitFor 61 = .ok (.istore_n 1, 1) := by decide +kernel
theorem dX11_waitFor_62 : decode cX11_waitFor 62 = .ok (.iinc 2 1, 3) := by decide +kernel
theorem dX11_waitFor_65 : decode cX11_waitFor 65 = .ok (.goto (-61), 3) := by decide +kernel
theorem dX11_waitFor_68 : decode cX11_waitFor 68 = .ok (.iload_n 1, 1) := by decide +kernel
theorem dX11_waitFor_69 : decode cX11_waitFor 69 = .ok (.ifCond .ge 11, 3) := by decide +kernel
theorem dX11_waitFor_72 : decode cX11_waitFor 72 = .ok (.aload_n 0, 1) := by decide +kernel
theorem dX11_waitFor_73 : decode cX11_waitFor 73 = .ok (.iconst 2, 1) := by decide +kernel
theorem dX11_waitFor_74 : decode cX11_waitFor 74 = .ok (.invokevirtual 91, 3) := by decide +kernel
theorem dX11_waitFor_77 : decode cX11_waitFor 77 = .ok (.goto 4, 3) := by decide +kernel
theorem dX11_waitFor_80 : decode cX11_waitFor 80 = .ok (.iload_n 1, 1) := by decide +kernel
theorem dX11_waitFor_81 : decode cX11_waitFor 81 = .ok (.ireturn, 1) := by decide +kernel
theorem dX11_which_0 : decode cX11_which 0 = .ok (.aload_n 0, 1) := by decide +kernel
theorem dX11_which_1 : decode cX11_which 1 = .ok (.iload_n 1, 1) := by decide +kernel
theorem dX11_which_2 : decode cX11_which 2 = .ok (.invokevirtual 261, 3) := by decide +kernel
theorem dX11_which_5 : decode cX11_which 5 = .ok (.istore_n 2, 1) := by decide +kernel
theorem dX11_which_6 : decode cX11_which 6 = .ok (.iload_n 2, 1) := by decide +kernel
theorem dX11_which_7 : decode cX11_which 7 = .ok (.ifCond .eq 9, 3) := by decide +kernel
theorem dX11_which_10 : decode cX11_which 10 = .ok (.aload_n 0, 1) := by decide +kernel
theorem dX11_which_11 : decode cX11_which 11 = .ok (.iload_n 2, 1) := by decide +kernel
theorem dX11_which_12 : decode cX11_which 12 = .ok (.invokevirtual 91, 3) := by decide +kernel
theorem dX11_which_15 : decode cX11_which 15 = .ok (.ireturn, 1) := by decide +kernel
theorem dX11_which_16 : decode cX11_which 16 = .ok (.iconst 0, 1) := by decide +kernel
theorem dX11_which_17 : decode cX11_which 17 = .ok (.istore_n 3, 1) := by decide +kernel
theorem dX11_which_18 : decode cX11_which 18 = .ok (.iconst 0, 1) := by decide +kernel
theorem dX11_which_19 : decode cX11_which 19 = .ok (.istore 4, 2) := by decide +kernel
theorem dX11_which_21 : decode cX11_which 21 = .ok (.iload 4, 2) := by decide +kernel
theorem dX11_which_23 : decode cX11_which 23 = .ok (.aload_n 0, 1) := by decide +kernel
theorem dX11_which_24 : decode cX11_which 24 = .ok (.getfield 10, 3) := by decide +kernel
theorem dX11_which_27 : decode cX11_which 27 = .ok (.getfield 106, 3) := by decide +kernel
theorem dX11_which_30 : decode cX11_which 30 = .ok (.if_icmp .ge 35, 3) := by decide +kernel
theorem dX11_which_33 : decode cX11_which 33 = .ok (.aload_n 0, 1) := by decide +kernel
theorem dX11_which_34 : decode cX11_which 34 = .ok (.iload 4, 2) := by decide +kernel
theorem dX11_which_36 : decode cX11_which 36 = .ok (.invokevirtual 227, 3) := by decide +kernel
theorem dX11_which_39 : decode cX11_which 39 = .ok (.ifCond .ne 20, 3) := by decide +kernel
theorem dX11_which_42 : decode cX11_which 42 = .ok (.aload_n 0, 1) := by decide +kernel
theorem dX11_which_43 : decode cX11_which 43 = .ok (.iload_n 1, 1) := by decide +kernel
theorem dX11_which_44 : decode cX11_which 44 = .ok (.iload 4, 2) := by decide +kernel
theorem dX11_which_46 : decode cX11_which 46 = .ok (.invokevirtual 264, 3) := by decide +kernel
theorem dX11_which_49 : decode cX11_which 49 = .ok (.ifCond .eq 10, 3) := by decide +kernel
theorem dX11_which_52 : decode cX11_which 52 = .ok (.iload_n 3, 1) := by decide +kernel
theorem dX11_which_53 : decode cX11_which 53 = .ok (.iconst 1, 1) := by decide +kernel
theorem dX11_which_54 : decode cX11_which 54 = .ok (.iload 4, 2) := by decide +kernel
theorem dX11_which_56 : decode cX11_which 56 = .ok (.ishl, 1) := by decide +kernel
theorem dX11_which_57 : decode cX11_which 57 = .ok (.ior, 1) := by decide +kernel
theorem dX11_which_58 : decode cX11_which 58 = .ok (.istore_n 3, 1) := by decide +kernel
theorem dX11_which_59 : decode cX11_which 59 = .ok (.iinc 4 1, 3) := by decide +kernel
theorem dX11_which_62 : decode cX11_which 62 = .ok (.goto (-41), 3) := by decide +kernel
theorem dX11_which_65 : decode cX11_which 65 = .ok (.iload_n 3, 1) := by decide +kernel
theorem dX11_which_66 : decode cX11_which 66 = .ok (.ireturn, 1) := by decide +kernel
theorem dX11_guess_0 : decode cX11_guess 0 = .ok (.iload_n 1, 1) := by decide +kernel
theorem dX11_guess_1 : decode cX11_guess 1 = .ok (.iconst 1, 1) := by decide +kernel
theorem dX11_guess_2 : decode cX11_guess 2 = .ok (.invokestatic 98, 3) := by decide +kernel
theorem dX11_guess_5 : decode cX11_guess 5 = .ok (.ifCond .ne 9, 3) := by decide +kernel
theorem dX11_guess_8 : decode cX11_guess 8 = .ok (.aload_n 0, 1) := by decide +kernel
theorem dX11_guess_9 : decode cX11_guess 9 = .ok (.iconst 1, 1) := by decide +kernel
theorem dX11_guess_10 : decode cX11_guess 10 = .ok (.invokevirtual 91, 3) := by decide +kernel
theorem dX11_guess_13 : decode cX11_guess 13 = .ok (.ireturn, 1) := by decide +kernel
theorem dX11_guess_14 : decode cX11_guess 14 = .ok (.aload_n 0, 1) := by decide +kernel
theorem dX11_guess_15 : decode cX11_guess 15 = .ok (.getfield 10, 3) := by decide +kernel
theorem dX11_guess_18 : decode cX11_guess 18 = .ok (.getfield 95, 3) := by decide +kernel
theorem dX11_guess_21 : decode cX11_guess 21 = .ok (.iconst 2, 1) := by decide +kernel
theorem dX11_guess_22 : decode cX11_guess 22 = .ok (.iaload, 1) := by decide +kernel
theorem dX11_guess_23 : decode cX11_guess 23 = .ok (.aload_n 0, 1) := by decide +kernel
theorem dX11_guess_24 : decode cX11_guess 24 = .ok (.getfield 10, 3) := by decide +kernel
theorem dX11_guess_27 : decode cX11_guess 27 = .ok (.getfield 95, 3) := by decide +kernel
theorem dX11_guess_30 : decode cX11_guess 30 = .ok (.iconst 0, 1) := by decide +kernel
theorem dX11_guess_31 : decode cX11_guess 31 = .ok (.iaload, 1) := by decide +kernel
theorem dX11_guess_32 : decode cX11_guess 32 = .ok (.invokestatic 238, 3) := by decide +kernel
theorem dX11_guess_35 : decode cX11_guess 35 = .ok (.iload_n 1, 1) := by decide +kernel
theorem dX11_guess_36 : decode cX11_guess 36 = .ok (.invokestatic 267, 3) := by decide +kernel
theorem dX11_guess_39 : decode cX11_guess 39 = .ok (.ireturn, 1) := by decide +kernel
theorem dX11_odds_0 : decode cX11_odds 0 = .ok (.iload_n 2, 1) := by decide +kernel
theorem dX11_odds_1 : decode cX11_odds 1 = .ok (.iconst 1, 1) := by decide +kernel
theorem dX11_odds_2 : decode cX11_odds 2 = .ok (.invokestatic 98, 3) := by decide +kernel
theorem dX11_odds_5 : decode cX11_odds 5 = .ok (.ifCond .eq 11, 3) := by decide +kernel
theorem dX11_odds_8 : decode cX11_odds 8 = .ok (.aload_n 0, 1) := by decide +kernel
theorem dX11_odds_9 : decode cX11_odds 9 = .ok (.iload_n 1, 1) := by decide +kernel
theorem dX11_odds_10 : decode cX11_odds 10 = .ok (.invokevirtual 191, 3) := by decide +kernel
theorem dX11_odds_13 : decode cX11_odds 13 = .ok (.goto 4, 3) := by decide +kernel
theorem dX11_odds_16 : decode cX11_odds 16 = .ok (.iconst 1, 1) := by decide +kernel
theorem dX11_odds_17 : decode cX11_odds 17 = .ok (.istore_n 3, 1) := by decide +kernel
theorem dX11_odds_18 : decode cX11_odds 18 = .ok (.iload_n 3, 1) := by decide +kernel
theorem dX11_odds_19 : decode cX11_odds 19 = .ok (.ifCond .eq 9, 3) := by decide +kernel
theorem dX11_odds_22 : decode cX11_odds 22 = .ok (.aload_n 0, 1) := by decide +kernel
theorem dX11_odds_23 : decode cX11_odds 23 = .ok (.iload_n 3, 1) := by decide +kernel
theorem dX11_odds_24 : decode cX11_odds 24 = .ok (.invokevirtual 91, 3) := by decide +kernel
theorem dX11_odds_27 : decode cX11_odds 27 = .ok (.ireturn, 1) := by decide +kernel
theorem dX11_odds_28 : decode cX11_odds 28 = .ok (.aload_n 0, 1) := by decide +kernel
theorem dX11_odds_29 : decode cX11_odds 29 = .ok (.getfield 10, 3) := by decide +kernel
theorem dX11_odds_32 : decode cX11_odds 32 = .ok (.getfield 115, 3) := by decide +kernel
theorem dX11_odds_35 : decode cX11_odds 35 = .ok (.aload_n 0, 1) := by decide +kernel
theorem dX11_odds_36 : decode cX11_odds 36 = .ok (.getfield 10, 3) := by decide +kernel
theorem dX11_odds_39 : decode cX11_odds 39 = .ok (.getfield 115, 3) := by decide +kernel
theorem dX11_odds_42 : decode cX11_odds 42 = .ok (.bipush 60, 2) := by decide +kernel
theorem dX11_odds_44 : decode cX11_odds 44 = .ok (.irem, 1) := by decide +kernel
theorem dX11_odds_45 : decode cX11_odds 45 = .ok (.isub, 1) := by decide +kernel
theorem dX11_odds_46 : decode cX11_odds 46 = .ok (.istore 4, 2) := by decide +kernel
theorem dX11_odds_48 : decode cX11_odds 48 = .ok (.iconst 0, 1) := by decide +kernel
theorem dX11_odds_49 : decode cX11_odds 49 = .ok (.istore 5, 2) := by decide +kernel
theorem dX11_odds_51 : decode cX11_odds 51 = .ok (.iconst 0, 1) := by decide +kernel
theorem dX11_odds_52 : decode cX11_odds 52 = .ok (.istore 6, 2) := by decide +kernel
theorem dX11_odds_54 : decode cX11_odds 54 = .ok (.iload 6, 2) := by decide +kernel
theorem dX11_odds_56 : decode cX11_odds 56 = .ok (.bipush 60, 2) := by decide +kernel
theorem dX11_odds_58 : decode cX11_odds 58 = .ok (.if_icmp .ge 25, 3) := by decide +kernel
theorem dX11_odds_61 : decode cX11_odds 61 = .ok (.aload_n 0, 1) := by decide +kernel
theorem dX11_odds_62 : decode cX11_odds 62 = .ok (.iload_n 1, 1) := by decide +kernel
theorem dX11_odds_63 : decode cX11_odds 63 = .ok (.iload 4, 2) := by decide +kernel
theorem dX11_odds_65 : decode cX11_odds 65 = .ok (.iload 6, 2) := by decide +kernel
theorem dX11_odds_67 : decode cX11_odds 67 = .ok (.iadd, 1) := by decide +kernel
theorem dX11_odds_68 : decode cX11_odds 68 = .ok (.invokevirtual 244, 3) := by decide +kernel
theorem dX11_odds_71 : decode cX11_odds 71 = .ok (.ifCond .eq 6, 3) := by decide +kernel
theorem dX11_odds_74 : decode cX11_odds 74 = .ok (.iinc 5 1, 3) := by decide +kernel
theorem dX11_odds_77 : decode cX11_odds 77 = .ok (.iinc 6 1, 3) := by decide +kernel
theorem dX11_odds_80 : decode cX11_odds 80 = .ok (.goto (-26), 3) := by decide +kernel
theorem dX11_odds_83 : decode cX11_odds 83 = .ok (.iload 5, 2) := by decide +kernel
theorem dX11_odds_85 : decode cX11_odds 85 = .ok (.bipush 60, 2) := by decide +kernel
theorem dX11_odds_87 : decode cX11_odds 87 = .ok (.iload_n 2, 1) := by decide +kernel
theorem dX11_odds_88 : decode cX11_odds 88 = .ok (.invokestatic 267, 3) := by decide +kernel
theorem dX11_odds_91 : decode cX11_odds 91 = .ok (.ireturn, 1) := by decide +kernel
theorem dX11_secondsToEnter_0 : decode cX11_secondsToEnter 0 = .ok (.aload_n 0, 1) := by decide +kernel
theorem dX11_secondsToEnter_1 : decode cX11_secondsToEnter 1 = .ok (.getfield 10, 3) := by decide +kernel
theorem dX11_secondsToEnter_4 : decode cX11_secondsToEnter 4 = .ok (.getfield 109, 3) := by decide +kernel
theorem dX11_secondsToEnter_7 : decode cX11_secondsToEnter 7 = .ok (.iload_n 1, 1) := by decide +kernel
theorem dX11_secondsToEnter_8 : decode cX11_secondsToEnter 8 = .ok (.aaload, 1) := by decide +kernel
theorem dX11_secondsToEnter_9 : decode cX11_secondsToEnter 9 = .ok (.iconst 2, 1) := by decide +kernel
theorem dX11_secondsToEnter_10 : decode cX11_secondsToEnter 10 = .ok (.iaload, 1) := by decide +kernel
theorem dX11_secondsToEnter_11 : decode cX11_secondsToEnter 11 = .ok (.istore_n 3, 1) := by decide +kernel
theorem dX11_secondsToEnter_12 : decode cX11_secondsToEnter 12 = .ok (.iload_n 3, 1) := by decide +kernel
theorem dX11_secondsToEnter_13 : decode cX11_secondsToEnter 13 = .ok (.iload_n 3, 1) := by decide +kernel
theorem dX11_secondsToEnter_14 : decode cX11_secondsToEnter 14 = .ok (.iadd, 1) := by decide +kernel
theorem dX11_secondsToEnter_15 : decode cX11_secondsToEnter 15 = .ok (.aload_n 0, 1) := by decide +kernel
theorem dX11_secondsToEnter_16 : decode cX11_secondsToEnter 16 = .ok (.iload_n 1, 1) := by decide +kernel
theorem dX11_secondsToEnter_17 : decode cX11_secondsToEnter 17 = .ok (.iload_n 2, 1) := by decide +kernel
theorem dX11_secondsToEnter_18 : decode cX11_secondsToEnter 18 = .ok (.invokevirtual 118, 3) := by decide +kernel
theorem dX11_secondsToEnter_21 : decode cX11_secondsToEnter 21 = .ok (.iload_n 3, 1) := by decide +kernel
theorem dX11_secondsToEnter_22 : decode cX11_secondsToEnter 22 = .ok (.iadd, 1) := by decide +kernel
theorem dX11_secondsToEnter_23 : decode cX11_secondsToEnter 23 = .ok (.invokestatic 188, 3) := by decide +kernel
theorem dX11_secondsToEnter_26 : decode cX11_secondsToEnter 26 = .ok (.iconst 2, 1) := by decide +kernel
theorem dX11_secondsToEnter_27 : decode cX11_secondsToEnter 27 = .ok (.iadd, 1) := by decide +kernel
theorem dX11_secondsToEnter_28 : decode cX11_secondsToEnter 28 = .ok (.ireturn, 1) := by decide +kernel
theorem dX11_isEntered_0 : decode cX11_isEntered 0 = .ok (.iload_n 2, 1) := by decide +kernel
theorem dX11_isEntered_1 : decode cX11_isEntered 1 = .ok (.iconst 2, 1) := by decide +kernel
theorem dX11_isEntered_2 : decode cX11_isEntered 2 = .ok (.isub, 1) := by decide +kernel
theorem dX11_isEntered_3 : decode cX11_isEntered 3 = .ok (.aload_n 0, 1) := by decide +kernel
theorem dX11_isEntered_4 : decode cX11_isEntered 4 = .ok (.getfield 10, 3) := by decide +kernel
theorem dX11_isEntered_7 : decode cX11_isEntered 7 = .ok (.getfield 207, 3) := by decide +kernel
theorem dX11_isEntered_10 : decode cX11_isEntered 10 = .ok (.if_icmp .lt 42, 3) := by decide +kernel
theorem dX11_isEntered_13 : decode cX11_isEntered 13 = .ok (.aload_n 0, 1) := by decide +kernel
theorem dX11_isEntered_14 : decode cX11_isEntered 14 = .ok (.iconst 1, 1) := by decide +kernel
theorem dX11_isEntered_15 : decode cX11_isEntered 15 = .ok (.aload_n 0, 1) := by decide +kernel
theorem dX11_isEntered_16 : decode cX11_isEntered 16 = .ok (.getfield 10, 3) := by decide +kernel
theorem dX11_isEntered_19 : decode cX11_isEntered 19 = .ok (.getfield 109, 3) := by decide +kernel
theorem dX11_isEntered_22 : decode cX11_isEntered 22 = .ok (.iload_n 1, 1) := by decide +kernel
theorem dX11_isEntered_23 : decode cX11_isEntered 23 = .ok (.aaload, 1) := by decide +kernel
theorem dX11_isEntered_24 : decode cX11_isEntered 24 = .ok (.iconst 2, 1) := by decide +kernel
theorem dX11_isEntered_25 : decode cX11_isEntered 25 = .ok (.iaload, 1) := by decide +kernel
theorem dX11_isEntered_26 : decode cX11_isEntered 26 = .ok (.aload_n 0, 1) := by decide +kernel
theorem dX11_isEntered_27 : decode cX11_isEntered 27 = .ok (.getfield 10, 3) := by decide +kernel
theorem dX11_isEntered_30 : decode cX11_isEntered 30 = .ok (.getfield 95, 3) := by decide +kernel
theorem dX11_isEntered_33 : decode cX11_isEntered 33 = .ok (.iconst 0, 1) := by decide +kernel
theorem dX11_isEntered_34 : decode cX11_isEntered 34 = .ok (.iaload, 1) := by decide +kernel
theorem dX11_isEntered_35 : decode cX11_isEntered 35 = .ok (.aload_n 0, 1) := by decide +kernel
theorem dX11_isEntered_36 : decode cX11_isEntered 36 = .ok (.getfield 10, 3) := by decide +kernel
theorem dX11_isEntered_39 : decode cX11_isEntered 39 = .ok (.getfield 216, 3) := by decide +kernel
theorem dX11_isEntered_42 : decode cX11_isEntered 42 = .ok (.invokevirtual 134, 3) := by decide +kernel
theorem dX11_isEntered_45 : decode cX11_isEntered 45 = .ok (.ifCond .ne 7, 3) := by decide +kernel
theorem dX11_isEntered_48 : decode cX11_isEntered 48 = .ok (.iconst 1, 1) := by decide +kernel
theorem dX11_isEntered_49 : decode cX11_isEntered 49 = .ok (.goto 4, 3) := by decide +kernel
theorem dX11_isEntered_52 : decode cX11_isEntered 52 = .ok (.iconst 0, 1) := by decide +kernel
theorem dX11_isEntered_53 : decode cX11_isEntered 53 = .ok (.ireturn, 1) := by decide +kernel
theorem dX11_getsIn_0 : decode cX11_getsIn 0 = .ok (.aload_n 0, 1) := by decide +kernel
theorem dX11_getsIn_1 : decode cX11_getsIn 1 = .ok (.iload_n 1, 1) := by decide +kernel
theorem dX11_getsIn_2 : decode cX11_getsIn 2 = .ok (.iload_n 2, 1) := by decide +kernel
theorem dX11_getsIn_3 : decode cX11_getsIn 3 = .ok (.invokevirtual 241, 3) := by decide +kernel
theorem dX11_getsIn_6 : decode cX11_getsIn 6 = .ok (.istore_n 3, 1) := by decide +kernel
theorem dX11_getsIn_7 : decode cX11_getsIn 7 = .ok (.iload_n 3, 1) := by decide +kernel
theorem dX11_getsIn_8 : decode cX11_getsIn 8 = .ok (.aload_n 0, 1) := by decide +kernel
theorem dX11_getsIn_9 : decode cX11_getsIn 9 = .ok (.iload_n 1, 1) := by decide +kernel
theorem dX11_getsIn_10 : decode cX11_getsIn 10 = .ok (.aload_n 0, 1) := by decide +kernel
theorem dX11_getsIn_11 : decode cX11_getsIn 11 = .ok (.getfield 10, 3) := by decide +kernel
theorem dX11_getsIn_14 : decode cX11_getsIn 14 = .ok (.getfield 95, 3) := by decide +kernel
theorem dX11_getsIn_17 : decode cX11_getsIn 17 = .ok (.iconst 1, 1) := by decide +kernel
theorem dX11_getsIn_18 : decode cX11_getsIn 18 = .ok (.iaload, 1) := by decide +kernel
theorem dX11_getsIn_19 : decode cX11_getsIn 19 = .ok (.invokevirtual 122, 3) := by decide +kernel
theorem dX11_getsIn_22 : decode cX11_getsIn 22 = .ok (.if_icmp .gt 18, 3) := by decide +kernel
theorem dX11_getsIn_25 : decode cX11_getsIn 25 = .ok (.aload_n 0, 1) := by decide +kernel
theorem dX11_getsIn_26 : decode cX11_getsIn 26 = .ok (.iload_n 1, 1) := by decide +kernel
theorem dX11_getsIn_27 : decode cX11_getsIn 27 = .ok (.iload_n 2, 1) := by decide +kernel
theorem dX11_getsIn_28 : decode cX11_getsIn 28 = .ok (.iload_n 3, 1) := by decide +kernel
theorem dX11_getsIn_29 : decode cX11_getsIn 29 = .ok (.iadd, 1) := by decide +kernel
theorem dX11_getsIn_30 : decode cX11_getsIn 30 = .ok (.invokevirtual 247, 3) := by decide +kernel
theorem dX11_getsIn_33 : decode cX11_getsIn 33 = .ok (.ifCond .eq 7, 3) := by decide +kernel
theorem dX11_getsIn_36 : decode cX11_getsIn 36 = .ok (.iconst 1, 1) := by decide +kernel
theorem dX11_getsIn_37 : decode cX11_getsIn 37 = .ok (.goto 4, 3) := by decide +kernel
theorem dX11_getsIn_40 : decode cX11_getsIn 40 = .ok (.iconst 0, 1) := by decide +kernel
theorem dX11_getsIn_41 : decode cX11_getsIn 41 = .ok (.ireturn, 1) := by decide +kernel
theorem dX11_leftWithout_0 : decode cX11_leftWithout 0 = .ok (.iconst 0, 1) := by decide +kernel
theorem dX11_leftWithout_1 : decode cX11_leftWithout 1 = .ok (.istore_n 2, 1) := by decide +kernel
theorem dX11_leftWithout_2 : decode cX11_leftWithout 2 = .ok (.iconst 0, 1) := by decide +kernel
theorem dX11_leftWithout_3 : decode cX11_leftWithout 3 = .ok (.istore_n 3, 1) := by decide +kernel
theorem dX11_leftWithout_4 : decode cX11_leftWithout 4 = .ok (.iload_n 3, 1) := by decide +kernel
theorem dX11_leftWithout_5 : decode cX11_leftWithout 5 = .ok (.bipush 6, 2) := by decide +kernel
theorem dX11_leftWithout_7 : decode cX11_leftWithout 7 = .ok (.if_icmp .ge 25, 3) := by decide +kernel
theorem dX11_leftWithout_10 : decode cX11_leftWithout 10 = .ok (.iload_n 1, 1) := by decide +kernel
theorem dX11_leftWithout_11 : decode cX11_leftWithout 11 = .ok (.iload_n 3, 1) := by decide +kernel
theorem dX11_leftWithout_12 : decode cX11_leftWithout 12 = .ok (.ishr, 1) := by decide +kernel
theorem dX11_leftWithout_13 : decode cX11_leftWithout 13 = .ok (.iconst 1, 1) := by decide +kernel
theorem dX11_leftWithout_14 : decode cX11_leftWithout 14 = .ok (.iand, 1) := by decide +kernel
theorem dX11_leftWithout_15 : decode cX11_leftWithout 15 = .ok (.ifCond .ne 11, 3) := by decide +kernel
theorem dX11_leftWithout_18 : decode cX11_leftWithout 18 = .ok (.iload_n 2, 1) := by decide +kernel
theorem dX11_leftWithout_19 : decode cX11_leftWithout 19 = .ok (.aload_n 0, 1) := by decide +kernel
theorem dX11_leftWithout_20 : decode cX11_leftWithout 20 = .ok (.iload_n 3, 1) := by decide +kernel
theorem dX11_leftWithout_21 : decode cX11_leftWithout 21 = .ok (.invokevirtual 258, 3) := by decide +kernel
theorem dX11_leftWithout_24 : decode cX11_leftWithout 24 = .ok (.iadd, 1) := by decide +kernel
theorem dX11_leftWithout_25 : decode cX11_leftWithout 25 = .ok (.istore_n 2, 1) := by decide +kernel
theorem dX11_leftWithout_26 : decode cX11_leftWithout 26 = .ok (.iinc 3 1, 3) := by decide +kernel
theorem dX11_leftWithout_29 : decode cX11_leftWithout 29 = .ok (.goto (-25), 3) := by decide +kernel
theorem dX11_leftWithout_32 : decode cX11_leftWithout 32 = .ok (.iload_n 2, 1) := by decide +kernel
theorem dX11_leftWithout_33 : decode cX11_leftWithout 33 = .ok (.ireturn, 1) := by decide +kernel
theorem dX11_waysAt_0 : decode cX11_waysAt 0 = .ok (.iconst 0, 1) := by decide +kernel
theorem dX11_waysAt_1 : decode cX11_waysAt 1 = .ok (.istore_n 2, 1) := by decide +kernel
theorem dX11_waysAt_2 : decode cX11_waysAt 2 = .ok (.iconst 0, 1) := by decide +kernel
theorem dX11_waysAt_3 : decode cX11_waysAt 3 = .ok (.istore_n 3, 1) := by decide +kernel
theorem dX11_waysAt_4 : decode cX11_waysAt 4 = .ok (.iload_n 3, 1) := by decide +kernel
theorem dX11_waysAt_5 : decode cX11_waysAt 5 = .ok (.aload_n 0, 1) := by decide +kernel
theorem dX11_waysAt_6 : decode cX11_waysAt 6 = .ok (.getfield 10, 3) := by decide +kernel
theorem dX11_waysAt_9 : decode cX11_waysAt 9 = .ok (.getfield 106, 3) := by decide +kernel
theorem dX11_waysAt_12 : decode cX11_waysAt 12 = .ok (.if_icmp .ge 35, 3) := by decide +kernel
theorem dX11_waysAt_15 : decode cX11_waysAt 15 = .ok (.aload_n 0, 1) := by decide +kernel
theorem dX11_waysAt_16 : decode cX11_waysAt 16 = .ok (.iload_n 3, 1) := by decide +kernel
theorem dX11_waysAt_17 : decode cX11_waysAt 17 = .ok (.invokevirtual 227, 3) := by decide +kernel
theorem dX11_waysAt_20 : decode cX11_waysAt 20 = .ok (.ifCond .ne 21, 3) := by decide +kernel
theorem dX11_waysAt_23 : decode cX11_waysAt 23 = .ok (.aload_n 0, 1) := by decide +kernel
theorem dX11_waysAt_24 : decode cX11_waysAt 24 = .ok (.getfield 10, 3) := by decide +kernel
theorem dX11_waysAt_27 : decode cX11_waysAt 27 = .ok (.getfield 109, 3) := by decide +kernel
theorem dX11_waysAt_30 : decode cX11_waysAt 30 = .ok (.iload_n 3, 1) := by decide +kernel
theorem dX11_waysAt_31 : decode cX11_waysAt 31 = .ok (.aaload, 1) := by decide +kernel
theorem dX11_waysAt_32 : decode cX11_waysAt 32 = .ok (.iconst 3, 1) := by decide +kernel
theorem dX11_waysAt_33 : decode cX11_waysAt 33 = .ok (.iaload, 1) := by decide +kernel
theorem dX11_waysAt_34 : decode cX11_waysAt 34 = .ok (.iload_n 1, 1) := by decide +kernel
theorem dX11_waysAt_35 : decode cX11_waysAt 35 = .ok (.if_icmp .ne 6, 3) := by decide +kernel
theorem dX11_waysAt_38 : decode cX11_waysAt 38 = .ok (.iinc 2 1, 3) := by decide +kernel
theorem dX11_waysAt_41 : decode cX11_waysAt 41 = .ok (.iinc 3 1, 3) := by decide +kernel
theorem dX11_waysAt_44 : decode cX11_waysAt 44 = .ok (.goto (-40), 3) := by decide +kernel
theorem dX11_waysAt_47 : decode cX11_waysAt 47 = .ok (.iload_n 2, 1) := by decide +kernel
theorem dX11_waysAt_48 : decode cX11_waysAt 48 = .ok (.ireturn, 1) := by decide +kernel
theorem dX11_tellsLateOf_0 : decode cX11_tellsLateOf 0 = .ok (.iconst 0, 1) := by decide +kernel
theorem dX11_tellsLateOf_1 : decode cX11_tellsLateOf 1 = .ok (.istore_n 3, 1) := by decide +kernel
theorem dX11_tellsLateOf_2 : decode cX11_tellsLateOf 2 = .ok (.iload_n 3, 1) := by decide +kernel
theorem dX11_tellsLateOf_3 : decode cX11_tellsLateOf 3 = .ok (.aload_n 0, 1) := by decide +kernel
theorem dX11_tellsLateOf_4 : decode cX11_tellsLateOf 4 = .ok (.getfield 82, 3) := by decide +kernel
theorem dX11_tellsLateOf_7 : decode cX11_tellsLateOf 7 = .ok (.iload_n 1, 1) := by decide +kernel
theorem dX11_tellsLateOf_8 : decode cX11_tellsLateOf 8 = .ok (.iaload, 1) := by decide +kernel
theorem dX11_tellsLateOf_9 : decode cX11_tellsLateOf 9 = .ok (.if_icmp .ge 36, 3) := by decide +kernel
theorem dX11_tellsLateOf_12 : decode cX11_tellsLateOf 12 = .ok (.aload_n 0, 1) := by decide +kernel
theorem dX11_tellsLateOf_13 : decode cX11_tellsLateOf 13 = .ok (.getfield 76, 3) := by decide +kernel
theorem dX11_tellsLateOf_16 : decode cX11_tellsLateOf 16 = .ok (.iload_n 1, 1) := by decide +kernel
theorem dX11_tellsLateOf_17 : decode cX11_tellsLateOf 17 = .ok (.aaload, 1) := by decide +kernel
theorem dX11_tellsLateOf_18 : decode cX11_tellsLateOf 18 = .ok (.iload_n 3, 1) := by decide +kernel
theorem dX11_tellsLateOf_19 : decode cX11_tellsLateOf 19 = .ok (.iaload, 1) := by decide +kernel
theorem dX11_tellsLateOf_20 : decode cX11_tellsLateOf 20 = .ok (.aload_n 0, 1) := by decide +kernel
theorem dX11_tellsLateOf_21 : decode cX11_tellsLateOf 21 = .ok (.iload_n 2, 1) := by decide +kernel
theorem dX11_tellsLateOf_22 : decode cX11_tellsLateOf 22 = .ok (.aload_n 0, 1) := by decide +kernel
theorem dX11_tellsLateOf_23 : decode cX11_tellsLateOf 23 = .ok (.getfield 10, 3) := by decide +kernel
theorem dX11_tellsLateOf_26 : decode cX11_tellsLateOf 26 = .ok (.getfield 115, 3) := by decide +kernel
theorem dX11_tellsLateOf_29 : decode cX11_tellsLateOf 29 = .ok (.iload_n 3, 1) := by decide +kernel
theorem dX11_tellsLateOf_30 : decode cX11_tellsLateOf 30 = .ok (.iadd, 1) := by decide +kernel
theorem dX11_tellsLateOf_31 : decode cX11_tellsLateOf 31 = .ok (.invokevirtual 118, 3) := by decide +kernel
theorem dX11_tellsLateOf_34 : decode cX11_tellsLateOf 34 = .ok (.if_icmp .eq 5, 3) := by decide +kernel
theorem dX11_tellsLateOf_37 : decode cX11_tellsLateOf 37 = .ok (.iconst 0, 1) := by decide +kernel
theorem dX11_tellsLateOf_38 : decode cX11_tellsLateOf 38 = .ok (.ireturn, 1) := by decide +kernel
theorem dX11_tellsLateOf_39 : decode cX11_tellsLateOf 39 = .ok (.iinc 3 1, 3) := by decide +kernel
theorem dX11_tellsLateOf_42 : decode cX11_tellsLateOf 42 = .ok (.goto (-40), 3) := by decide +kernel
theorem dX11_tellsLateOf_45 : decode cX11_tellsLateOf 45 = .ok (.iconst 1, 1) := by decide +kernel
theorem dX11_tellsLateOf_46 : decode cX11_tellsLateOf 46 = .ok (.ireturn, 1) := by decide +kernel
theorem dX11_partOfFraction_0 : decode cX11_partOfFraction 0 = .ok (.iload_n 1, 1) := by decide +kernel
theorem dX11_partOfFraction_1 : decode cX11_partOfFraction 1 = .ok (.istore_n 3, 1) := by decide +kernel
theorem dX11_partOfFraction_2 : decode cX11_partOfFraction 2 = .ok (.iload_n 0, 1) := by decide +kernel
theorem dX11_partOfFraction_3 : decode cX11_partOfFraction 3 = .ok (.istore 4, 2) := by decide +kernel
theorem dX11_partOfFraction_5 : decode cX11_partOfFraction 5 = .ok (.iconst 0, 1) := by decide +kernel
theorem dX11_partOfFraction_6 : decode cX11_partOfFraction 6 = .ok (.istore 5, 2) := by decide +kernel
theorem dX11_partOfFraction_8 : decode cX11_partOfFraction 8 = .ok (.iload 5, 2) := by decide +kernel
theorem dX11_partOfFraction_10 : decode cX11_partOfFraction 10 = .ok (.bipush 64, 2) := by decide +kernel
theorem dX11_partOfFraction_12 : decode cX11_partOfFraction 12 = .ok (.if_icmp .ge 27, 3) := by decide +kernel
theorem dX11_partOfFraction_15 : decode cX11_partOfFraction 15 = .ok (.iload 4, 2) := by decide +kernel
theorem dX11_partOfFraction_17 : decode cX11_partOfFraction 17 = .ok (.ifCond .eq 22, 3) := by decide +kernel
theorem dX11_partOfFraction_20 : decode cX11_partOfFraction 20 = .ok (.iload_n 3, 1) := by decide +kernel
theorem dX11_partOfFraction_21 : decode cX11_partOfFraction 21 = .ok (.iload 4, 2) := by decide +kernel
theorem dX11_partOfFraction_23 : decode cX11_partOfFraction 23 = .ok (.irem, 1) := by decide +kernel
theorem dX11_partOfFraction_24 : decode cX11_partOfFraction 24 = .ok (.istore 6, 2) := by decide +kernel
theorem dX11_partOfFraction_26 : decode cX11_partOfFraction 26 = .ok (.iload 4, 2) := by decide +kernel
theorem dX11_partOfFraction_28 : decode cX11_partOfFraction 28 = .ok (.istore_n 3, 1) := by decide +kernel
theorem dX11_partOfFraction_29 : decode cX11_partOfFraction 29 = .ok (.iload 6, 2) := by decide +kernel
theorem dX11_partOfFraction_31 : decode cX11_partOfFraction 31 = .ok (.istore 4, 2) := by decide +kernel
theorem dX11_partOfFraction_33 : decode cX11_partOfFraction 33 = .ok (.iinc 5 1, 3) := by decide +kernel
theorem dX11_partOfFraction_36 : decode cX11_partOfFraction 36 = .ok (.goto (-28), 3) := by decide +kernel
theorem dX11_partOfFraction_39 : decode cX11_partOfFraction 39 = .ok (.iload_n 2, 1) := by decide +kernel
theorem dX11_partOfFraction_40 : decode cX11_partOfFraction 40 = .ok (.ifCond .ne 7, 3) := by decide +kernel
theorem dX11_partOfFraction_43 : decode cX11_partOfFraction 43 = .ok (.iload_n 0, 1) := by decide +kernel
theorem dX11_partOfFraction_44 : decode cX11_partOfFraction 44 = .ok (.goto 4, 3) := by decide +kernel
theorem dX11_partOfFraction_47 : decode cX11_partOfFraction 47 = .ok (.iload_n 1, 1) := by decide +kernel
theorem dX11_partOfFraction_48 : decode cX11_partOfFraction 48 = .ok (.istore 5, 2) := by decide +kernel
theorem dX11_partOfFraction_50 : decode cX11_partOfFraction 50 = .ok (.iload_n 3, 1) := by decide +kernel
theorem dX11_partOfFraction_51 : decode cX11_partOfFraction 51 = .ok (.ifCond .ne 8, 3) := by decide +kernel
theorem dX11_partOfFraction_54 : decode cX11_partOfFraction 54 = .ok (.iload 5, 2) := by decide +kernel
theorem dX11_partOfFraction_56 : decode cX11_partOfFraction 56 = .ok (.goto 7, 3) := by decide +kernel
theorem dX11_partOfFraction_59 : decode cX11_partOfFraction 59 = .ok (.iload 5, 2) := by decide +kernel
theorem dX11_partOfFraction_61 : decode cX11_partOfFraction 61 = .ok (.iload_n 3, 1) := by decide +kernel
theorem dX11_partOfFraction_62 : decode cX11_partOfFraction 62 = .ok (.idiv, 1) := by decide +kernel
theorem dX11_partOfFraction_63 : decode cX11_partOfFraction 63 = .ok (.ireturn, 1) := by decide +kernel
theorem dX11_seed_0 : decode cX11_seed 0 = .ok (.aload_n 0, 1) := by decide +kernel
theorem dX11_seed_1 : decode cX11_seed 1 = .ok (.getfield 10, 3) := by decide +kernel
theorem dX11_seed_4 : decode cX11_seed 4 = .ok (.getfield 230, 3) := by decide +kernel
theorem dX11_seed_7 : decode cX11_seed 7 = .ok (.istore_n 2, 1) := by decide +kernel
theorem dX11_seed_8 : decode cX11_seed 8 = .ok (.aload_n 0, 1) := by decide +kernel
theorem dX11_seed_9 : decode cX11_seed 9 = .ok (.getfield 10, 3) := by decide +kernel
theorem dX11_seed_12 : decode cX11_seed 12 = .ok (.iload_n 1, 1) := by decide +kernel
theorem dX11_seed_13 : decode cX11_seed 13 = .ok (.putfield 230, 3) := by decide +kernel
theorem dX11_seed_16 : decode cX11_seed 16 = .ok (.iload_n 2, 1) := by decide +kernel
theorem dX11_seed_17 : decode cX11_seed 17 = .ok (.ireturn, 1) := by decide +kernel
theorem dX11_voice_0 : decode cX11_voice 0 = .ok (.aload_n 0, 1) := by decide +kernel
theorem dX11_voice_1 : decode cX11_voice 1 = .ok (.iload_n 1, 1) := by decide +kernel
theorem dX11_voice_2 : decode cX11_voice 2 = .ok (.invokevirtual 112, 3) := by decide +kernel
theorem dX11_voice_5 : decode cX11_voice 5 = .ok (.ifCond .eq 11, 3) := by decide +kernel
theorem dX11_voice_8 : decode cX11_voice 8 = .ok (.iload_n 2, 1) := by decide +kernel
theorem dX11_voice_9 : decode cX11_voice 9 = .ok (.iconst 3, 1) := by decide +kernel
theorem dX11_voice_10 : decode cX11_voice 10 = .ok (.invokestatic 98, 3) := by decide +kernel
theorem dX11_voice_13 : decode cX11_voice 13 = .ok (.ifCond .ne 9, 3) := by decide +kernel
theorem dX11_voice_16 : decode cX11_voice 16 = .ok (.aload_n 0, 1) := by decide +kernel
theorem dX11_voice_17 : decode cX11_voice 17 = .ok (.iconst 1, 1) := by decide +kernel
theorem dX11_voice_18 : decode cX11_voice 18 = .ok (.invokevirtual 91, 3) := by decide +kernel
theorem dX11_voice_21 : decode cX11_voice 21 = .ok (.ireturn, 1) := by decide +kernel
theorem dX11_voice_22 : decode cX11_voice 22 = .ok (.aload_n 0, 1) := by decide +kernel
theorem dX11_voice_23 : decode cX11_voice 23 = .ok (.getfield 70, 3) := by decide +kernel
theorem dX11_voice_26 : decode cX11_voice 26 = .ok (.iload_n 1, 1) := by decide +kernel
theorem dX11_voice_27 : decode cX11_voice 27 = .ok (.aload_n 0, 1) := by decide +kernel
theorem dX11_voice_28 : decode cX11_voice 28 = .ok (.getfield 10, 3) := by decide +kernel
theorem dX11_voice_31 : decode cX11_voice 31 = .ok (.getfield 109, 3) := by decide +kernel
theorem dX11_voice_34 : decode cX11_voice 34 = .ok (.iload_n 1, 1) := by decide +kernel
theorem dX11_voice_35 : decode cX11_voice 35 = .ok (.aaload, 1) := by decide +kernel
theorem dX11_voice_36 : decode cX11_voice 36 = .ok (.iconst 1, 1) := by decide +kernel
theorem dX11_voice_37 : decode cX11_voice 37 = .ok (.iaload, 1) := by decide +kernel
theorem dX11_voice_38 : decode cX11_voice 38 = .ok (.invokevirtual 271, 3) := by decide +kernel
theorem dX11_voice_41 : decode cX11_voice 41 = .ok (.aload_n 0, 1) := by decide +kernel
theorem dX11_voice_42 : decode cX11_voice 42 = .ok (.getfield 48, 3) := by decide +kernel
theorem dX11_voice_45 : decode cX11_voice 45 = .ok (.aload_n 0, 1) := by decide +kernel
theorem dX11_voice_46 : decode cX11_voice 46 = .ok (.getfield 10, 3) := by decide +kernel
theorem dX11_voice_49 : decode cX11_voice 49 = .ok (.getfield 109, 3) := by decide +kernel
theorem dX11_voice_52 : decode cX11_voice 52 = .ok (.iload_n 1, 1) := by decide +kernel
theorem dX11_voice_53 : decode cX11_voice 53 = .ok (.aaload, 1) := by decide +kernel
theorem dX11_voice_54 : decode cX11_voice 54 = .ok (.iconst 0, 1) := by decide +kernel
theorem dX11_voice_55 : decode cX11_voice 55 = .ok (.iaload, 1) := by decide +kernel
theorem dX11_voice_56 : decode cX11_voice 56 = .ok (.aaload, 1) := by decide +kernel
theorem dX11_voice_57 : decode cX11_voice 57 = .ok (.astore 4, 2) := by decide +kernel
theorem dX11_voice_59 : decode cX11_voice 59 = .ok (.iload_n 2, 1) := by decide +kernel
theorem dX11_voice_60 : decode cX11_voice 60 = .ok (.tableswitch 61 0 2 #[28, 39, 50], 28) := by decide +kernel
theorem dX11_voice_88 : decode cX11_voice 88 = .ok (.aload 4, 2) := by decide +kernel
theorem dX11_voice_90 : decode cX11_voice 90 = .ok (.aload_n 0, 1) := by decide +kernel
theorem dX11_voice_91 : decode cX11_voice 91 = .ok (.getfield 70, 3) := by decide +kernel
theorem dX11_voice_94 : decode cX11_voice 94 = .ok (.iload_n 3, 1) := by decide +kernel
theorem dX11_voice_95 : decode cX11_voice 95 = .ok (.invokevirtual 275, 3) := by decide +kernel
theorem dX11_voice_98 : decode cX11_voice 98 = .ok (.ireturn, 1) := by decide +kernel
theorem dX11_voice_99 : decode cX11_voice 99 = .ok (.aload 4, 2) := by decide +kernel
theorem dX11_voice_101 : decode cX11_voice 101 = .ok (.aload_n 0, 1) := by decide +kernel
theorem dX11_voice_102 : decode cX11_voice 102 = .ok (.getfield 70, 3) := by decide +kernel
theorem dX11_voice_105 : decode cX11_voice 105 = .ok (.iload_n 3, 1) := by decide +kernel
theorem dX11_voice_106 : decode cX11_voice 106 = .ok (.invokevirtual 279, 3) := by decide +kernel
theorem dX11_voice_109 : decode cX11_voice 109 = .ok (.ireturn, 1) := by decide +kernel
theorem dX11_voice_110 : decode cX11_voice 110 = .ok (.aload 4, 2) := by decide +kernel
theorem dX11_voice_112 : decode cX11_voice 112 = .ok (.aload_n 0, 1) := by decide +kernel
theorem dX11_voice_113 : decode cX11_voice 113 = .ok (.getfield 70, 3) := by decide +kernel
theorem dX11_voice_116 : decode cX11_voice 116 = .ok (.iload_n 3, 1) := by decide +kernel
theorem dX11_voice_117 : decode cX11_voice 117 = .ok (.invokevirtual 282, 3) := by decide +kernel
theorem dX11_voice_120 : decode cX11_voice 120 = .ok (.ireturn, 1) := by decide +kernel
theorem dX11_voice_121 : decode cX11_voice 121 = .ok (.aload 4, 2) := by decide +kernel
theorem dX11_voice_123 : decode cX11_voice 123 = .ok (.aload_n 0, 1) := by decide +kernel
theorem dX11_voice_124 : decode cX11_voice 124 = .ok (.getfield 70, 3) := by decide +kernel
theorem dX11_voice_127 : decode cX11_voice 127 = .ok (.iload_n 3, 1) := by decide +kernel
theorem dX11_voice_128 : decode cX11_voice 128 = .ok (.invokevirtual 285, 3) := by decide +kernel
theorem dX11_voice_131 : decode cX11_voice 131 = .ok (.ireturn, 1) := by decide +kernel
theorem dX11_trace_0 : decode cX11_trace 0 = .ok (.iload_n 1, 1) := by decide +kernel
theorem dX11_trace_1 : decode cX11_trace 1 = .ok (.ifCond .lt 26, 3) := by decide +kernel
theorem dX11_trace_4 : decode cX11_trace 4 = .ok (.iload_n 1, 1) := by decide +kernel
theorem dX11_trace_5 : decode cX11_trace 5 = .ok (.aload_n 0, 1) := by decide +kernel
theorem dX11_trace_6 : decode cX11_trace 6 = .ok (.getfield 70, 3) := by decide +kernel
theorem dX11_trace_9 : decode cX11_trace 9 = .ok (.getfield 288, 3) := by decide +kernel
theorem dX11_trace_12 : decode cX11_trace 12 = .ok (.if_icmp .ge 15, 3) := by decide +kernel
theorem dX11_trace_15 : decode cX11_trace 15 = .ok (.aload_n 0, 1) := by decide +kernel
theorem dX11_trace_16 : decode cX11_trace 16 = .ok (.getfield 70, 3) := by decide +kernel
theorem dX11_trace_19 : decode cX11_trace 19 = .ok (.getfield 289, 3) := by decide +kernel
theorem dX11_trace_22 : decode cX11_trace 22 = .ok (.iload_n 1, 1) := by decide +kernel
theorem dX11_trace_23 : decode cX11_trace 23 = .ok (.iaload, 1) := by decide +kernel
theorem dX11_trace_24 : decode cX11_trace 24 = .ok (.goto 8, 3) := by decide +kernel
theorem dX11_trace_27 : decode cX11_trace 27 = .ok (.aload_n 0, 1) := by decide +kernel
theorem dX11_trace_28 : decode cX11_trace 28 = .ok (.iconst 2, 1) := by decide +kernel
theorem dX11_trace_29 : decode cX11_trace 29 = .ok (.invokevirtual 91, 3) := by decide +kernel
theorem dX11_trace_32 : decode cX11_trace 32 = .ok (.ireturn, 1) := by decide +kernel
theorem dX11_sheet_0 : decode cX11_sheet 0 = .ok (.iload_n 1, 1) := by decide +kernel
theorem dX11_sheet_1 : decode cX11_sheet 1 = .ok (.invokestatic 292, 3) := by decide +kernel
theorem dX11_sheet_4 : decode cX11_sheet 4 = .ok (.ifCond .eq 25, 3) := by decide +kernel
theorem dX11_sheet_7 : decode cX11_sheet 7 = .ok (.iload_n 2, 1) := by decide +kernel
theorem dX11_sheet_8 : decode cX11_sheet 8 = .ok (.ifCond .eq 27, 3) := by decide +kernel
theorem dX11_sheet_11 : decode cX11_sheet 11 = .ok (.iload_n 2, 1) := by decide +kernel
theorem dX11_sheet_12 : decode cX11_sheet 12 = .ok (.bipush 8, 2) := by decide +kernel
theorem dX11_sheet_14 : decode cX11_sheet 14 = .ok (.if_icmp .eq 21, 3) := by decide +kernel
theorem dX11_sheet_17 : decode cX11_sheet 17 = .ok (.iload_n 2, 1) := by decide +kernel
theorem dX11_sheet_18 : decode cX11_sheet 18 = .ok (.bipush 16, 2) := by decide +kernel
theorem dX11_sheet_20 : decode cX11_sheet 20 = .ok (.if_icmp .eq 15, 3) := by decide +kernel
theorem dX11_sheet_23 : decode cX11_sheet 23 = .ok (.iload_n 2, 1) := by decide +kernel
theorem dX11_sheet_24 : decode cX11_sheet 24 = .ok (.bipush 32, 2) := by decide +kernel
theorem dX11_sheet_26 : decode cX11_sheet 26 = .ok (.if_icmp .eq 9, 3) := by decide +kernel
theorem dX11_sheet_29 : decode cX11_sheet 29 = .ok (.aload_n 0, 1) := by decide +kernel
theorem dX11_sheet_30 : decode cX11_sheet 30 = .ok (.iconst 1, 1) := by decide +kernel
theorem dX11_sheet_31 : decode cX11_sheet 31 = .ok (.invokevirtual 91, 3) := by decide +kernel
theorem dX11_sheet_34 : decode cX11_sheet 34 = .ok (.ireturn, 1) := by decide +kernel
theorem dX11_sheet_35 : decode cX11_sheet 35 = .ok (.iload_n 2, 1) := by decide +kernel
theorem dX11_sheet_36 : decode cX11_sheet 36 = .ok (.ifCond .eq 13, 3) := by decide +kernel
theorem dX11_sheet_39 : decode cX11_sheet 39 = .ok (.iload_n 3, 1) := by decide +kernel
theorem dX11_sheet_40 : decode cX11_sheet 40 = .ok (.ifCond .ge 9, 3) := by decide +kernel
theorem dX11_sheet_43 : decode cX11_sheet 43 = .ok (.aload_n 0, 1) := by decide +kernel
theorem dX11_sheet_44 : decode cX11_sheet 44 = .ok (.iconst 3, 1) := by decide +kernel
theorem dX11_sheet_45 : decode cX11_sheet 45 = .ok (.invokevirtual 91, 3) := by decide +kernel
theorem dX11_sheet_48 : decode cX11_sheet 48 = .ok (.ireturn, 1) := by decide +kernel
theorem dX11_sheet_49 : decode cX11_sheet 49 = .ok (.iload_n 2, 1) := by decide +kernel
theorem dX11_sheet_50 : decode cX11_sheet 50 = .ok (.ifCond .eq 15, 3) := by decide +kernel
theorem dX11_sheet_53 : decode cX11_sheet 53 = .ok (.iload_n 3, 1) := by decide +kernel
theorem dX11_sheet_54 : decode cX11_sheet 54 = .ok (.bipush 40, 2) := by decide +kernel
theorem dX11_sheet_56 : decode cX11_sheet 56 = .ok (.if_icmp .le 9, 3) := by decide +kernel
theorem dX11_sheet_59 : decode cX11_sheet 59 = .ok (.aload_n 0, 1) := by decide +kernel
theorem dX11_sheet_60 : decode cX11_sheet 60 = .ok (.iconst 1, 1) := by decide +kernel
theorem dX11_sheet_61 : decode cX11_sheet 61 = .ok (.invokevirtual 91, 3) := by decide +kernel
theorem dX11_sheet_64 : decode cX11_sheet 64 = .ok (.ireturn, 1) := by decide +kernel
theorem dX11_sheet_65 : decode cX11_sheet 65 = .ok (.aload_n 0, 1) := by decide +kernel
theorem dX11_sheet_66 : decode cX11_sheet 66 = .ok (.getfield 79, 3) := by decide +kernel
theorem dX11_sheet_69 : decode cX11_sheet 69 = .ok (.iload_n 1, 1) := by decide +kernel
theorem dX11_sheet_70 : decode cX11_sheet 70 = .ok (.iload_n 2, 1) := by decide +kernel
theorem dX11_sheet_71 : decode cX11_sheet 71 = .ok (.iastore, 1) := by decide +kernel
theorem dX11_sheet_72 : decode cX11_sheet 72 = .ok (.aload_n 0, 1) := by decide +kernel
theorem dX11_sheet_73 : decode cX11_sheet 73 = .ok (.getfield 82, 3) := by decide +kernel
theorem dX11_sheet_76 : decode cX11_sheet 76 = .ok (.iload_n 1, 1) := by decide +kernel
theorem dX11_sheet_77 : decode cX11_sheet 77 = .ok (.iload_n 2, 1) := by decide +kernel
theorem dX11_sheet_78 : decode cX11_sheet 78 = .ok (.ifCond .ne 7, 3) := by decide +kernel
theorem dX11_sheet_81 : decode cX11_sheet 81 = .ok (.iconst 0, 1) := by decide +kernel
theorem dX11_sheet_82 : decode cX11_sheet 82 = .ok (.goto 4, 3) := by decide +kernel
theorem dX11_sheet_85 : decode cX11_sheet 85 = .ok (.iload_n 3, 1) := by decide +kernel
theorem dX11_sheet_86 : decode cX11_sheet 86 = .ok (.iastore, 1) := by decide +kernel
theorem dX11_sheet_87 : decode cX11_sheet 87 = .ok (.iconst 0, 1) := by decide +kernel
theorem dX11_sheet_88 : decode cX11_sheet 88 = .ok (.istore 4, 2) := by decide +kernel
theorem dX11_sheet_90 : decode cX11_sheet 90 = .ok (.iload 4, 2) := by decide +kernel
theorem dX11_sheet_92 : decode cX11_sheet 92 = .ok (.bipush 40, 2) := by decide +kernel
theorem dX11_sheet_94 : decode cX11_sheet 94 = .ok (.if_icmp .ge 19, 3) := by decide +kernel
theorem dX11_sheet_97 : decode cX11_sheet 97 = .ok (.aload_n 0, 1) := by decide +kernel
theorem dX11_sheet_98 : decode cX11_sheet 98 = .ok (.getfield 76, 3) := by decide +kernel
theorem dX11_sheet_101 : decode cX11_sheet 101 = .ok (.iload_n 1, 1) := by decide +kernel
theorem dX11_sheet_102 : decode cX11_sheet 102 = .ok (.aaload, 1) := by decide +kernel
theorem dX11_sheet_103 : decode cX11_sheet 103 = .ok (.iload 4, 2) := by decide +kernel
theorem dX11_sheet_105 : decode cX11_sheet 105 = .ok (.iconst 0, 1) := by decide +kernel
theorem dX11_sheet_106 : decode cX11_sheet 106 = .ok (.iastore, 1) := by decide +kernel
theorem dX11_sheet_107 : decode cX11_sheet 107 = .ok (.iinc 4 1, 3) := by decide +kernel
theorem dX11_sheet_110 : decode cX11_sheet 110 = .ok (.goto (-20), 3) := by decide +kernel
theorem dX11_sheet_113 : decode cX11_sheet 113 = .ok (.iconst 1, 1) := by decide +kernel
theorem dX11_sheet_114 : decode cX11_sheet 114 = .ok (.ireturn, 1) := by decide +kernel
theorem dX11_put_0 : decode cX11_put 0 = .ok (.aload_n 0, 1) := by decide +kernel
theorem dX11_put_1 : decode cX11_put 1 = .ok (.iload_n 1, 1) := by decide +kernel
theorem dX11_put_2 : decode cX11_put 2 = .ok (.invokevirtual 261, 3) := by decide +kernel
theorem dX11_put_5 : decode cX11_put 5 = .ok (.istore 4, 2) := by decide +kernel
theorem dX11_put_7 : decode cX11_put 7 = .ok (.iload 4, 2) := by decide +kernel
theorem dX11_put_9 : decode cX11_put 9 = .ok (.ifCond .eq 10, 3) := by decide +kernel
theorem dX11_put_12 : decode cX11_put 12 = .ok (.aload_n 0, 1) := by decide +kernel
theorem dX11_put_13 : decode cX11_put 13 = .ok (.iload 4, 2) := by decide +kernel
theorem dX11_put_15 : decode cX11_put 15 = .ok (.invokevirtual 91, 3) := by decide +kernel
theorem dX11_put_18 : decode cX11_put 18 = .ok (.ireturn, 1) := by decide +kernel
theorem dX11_put_19 : decode cX11_put 19 = .ok (.iload_n 2, 1) := by decide +kernel
theorem dX11_put_20 : decode cX11_put 20 = .ok (.ifCond .lt 13, 3) := by decide +kernel
theorem dX11_put_23 : decode cX11_put 23 = .ok (.iload_n 2, 1) := by decide +kernel
theorem dX11_put_24 : decode cX11_put 24 = .ok (.aload_n 0, 1) := by decide +kernel
theorem dX11_put_25 : decode cX11_put 25 = .ok (.getfield 82, 3) := by decide +kernel
theorem dX11_put_28 : decode cX11_put 28 = .ok (.iload_n 1, 1) := by decide +kernel
theorem dX11_put_29 : decode cX11_put 29 = .ok (.iaload, 1) := by decide +kernel
theorem dX11_put_30 : decode cX11_put 30 = .ok (.if_icmp .lt 9, 3) := by decide +kernel
theorem dX11_put_33 : decode cX11_put 33 = .ok (.aload_n 0, 1) := by decide +kernel
theorem dX11_put_34 : decode cX11_put 34 = .ok (.iconst 1, 1) := by decide +kernel
theorem dX11_put_35 : decode cX11_put 35 = .ok (.invokevirtual 91, 3) := by decide +kernel
theorem dX11_put_38 : decode cX11_put 38 = .ok (.ireturn, 1) := by decide +kernel
theorem dX11_put_39 : decode cX11_put 39 = .ok (.aload_n 0, 1) := by decide +kernel
theorem dX11_put_40 : decode cX11_put 40 = .ok (.getfield 76, 3) := by decide +kernel
theorem dX11_put_43 : decode cX11_put 43 = .ok (.iload_n 1, 1) := by decide +kernel
theorem dX11_put_44 : decode cX11_put 44 = .ok (.aaload, 1) := by decide +kernel
theorem dX11_put_45 : decode cX11_put 45 = .ok (.iload_n 2, 1) := by decide +kernel
theorem dX11_put_46 : decode cX11_put 46 = .ok (.iload_n 3, 1) := by decide +kernel
theorem dX11_put_47 : decode cX11_put 47 = .ok (.aload_n 0, 1) := by decide +kernel
theorem dX11_put_48 : decode cX11_put 48 = .ok (.getfield 79, 3) := by decide +kernel
theorem dX11_put_51 : decode cX11_put 51 = .ok (.iload_n 1, 1) := by decide +kernel
theorem dX11_put_52 : decode cX11_put 52 = .ok (.iaload, 1) := by decide +kernel
theorem dX11_put_53 : decode cX11_put 53 = .ok (.invokestatic 295, 3) := by decide +kernel
theorem dX11_put_56 : decode cX11_put 56 = .ok (.iastore, 1) := by decide +kernel
theorem dX11_put_57 : decode cX11_put 57 = .ok (.iconst 1, 1) := by decide +kernel
theorem dX11_put_58 : decode cX11_put 58 = .ok (.ireturn, 1) := by decide +kernel
theorem dX11_move_0 : decode cX11_move 0 = .ok (.iload_n 1, 1) := by decide +kernel
theorem dX11_move_1 : decode cX11_move 1 = .ok (.invokestatic 292, 3) := by decide +kernel
theorem dX11_move_4 : decode cX11_move 4 = .ok (.ifCond .eq 10, 3) := by decide +kernel
theorem dX11_move_7 : decode cX11_move 7 = .ok (.iload_n 3, 1) := by decide +kernel
theorem dX11_move_8 : decode cX11_move 8 = .ok (.invokestatic 292, 3) := by decide +kernel
theorem dX11_move_11 : decode cX11_move 11 = .ok (.ifCond .ne 9, 3) := by decide +kernel
theorem dX11_move_14 : decode cX11_move 14 = .ok (.aload_n 0, 1) := by decide +kernel
theorem dX11_move_15 : decode cX11_move 15 = .ok (.iconst 1, 1) := by decide +kernel
theorem dX11_move_16 : decode cX11_move 16 = .ok (.invokevirtual 91, 3) := by decide +kernel
theorem dX11_move_19 : decode cX11_move 19 = .ok (.ireturn, 1) := by decide +kernel
theorem dX11_move_20 : decode cX11_move 20 = .ok (.aload_n 0, 1) := by decide +kernel
theorem dX11_move_21 : decode cX11_move 21 = .ok (.iload_n 1, 1) := by decide +kernel
theorem dX11_move_22 : decode cX11_move 22 = .ok (.invokevirtual 298, 3) := by decide +kernel
theorem dX11_move_25 : decode cX11_move 25 = .ok (.ifCond .ne 11, 3) := by decide +kernel
theorem dX11_move_28 : decode cX11_move 28 = .ok (.aload_n 0, 1) := by decide +kernel
theorem dX11_move_29 : decode cX11_move 29 = .ok (.iload_n 3, 1) := by decide +kernel
theorem dX11_move_30 : decode cX11_move 30 = .ok (.invokevirtual 298, 3) := by decide +kernel
theorem dX11_move_33 : decode cX11_move 33 = .ok (.ifCond .eq 9, 3) := by decide +kernel
theorem dX11_move_36 : decode cX11_move 36 = .ok (.aload_n 0, 1) := by decide +kernel
theorem dX11_move_37 : decode cX11_move 37 = .ok (.iconst 2, 1) := by decide +kernel
theorem dX11_move_38 : decode cX11_move 38 = .ok (.invokevirtual 91, 3) := by decide +kernel
theorem dX11_move_41 : decode cX11_move 41 = .ok (.ireturn, 1) := by decide +kernel
theorem dX11_move_42 : decode cX11_move 42 = .ok (.aload_n 0, 1) := by decide +kernel
theorem dX11_move_43 : decode cX11_move 43 = .ok (.getfield 79, 3) := by decide +kernel
theorem dX11_move_46 : decode cX11_move 46 = .ok (.iload_n 1, 1) := by decide +kernel
theorem dX11_move_47 : decode cX11_move 47 = .ok (.iaload, 1) := by decide +kernel
theorem dX11_move_48 : decode cX11_move 48 = .ok (.aload_n 0, 1) := by decide +kernel
theorem dX11_move_49 : decode cX11_move 49 = .ok (.getfield 79, 3) := by decide +kernel
theorem dX11_move_52 : decode cX11_move 52 = .ok (.iload_n 3, 1) := by decide +kernel
theorem dX11_move_53 : decode cX11_move 53 = .ok (.iaload, 1) := by decide +kernel
theorem dX11_move_54 : decode cX11_move 54 = .ok (.if_icmp .eq 9, 3) := by decide +kernel
theorem dX11_move_57 : decode cX11_move 57 = .ok (.aload_n 0, 1) := by decide +kernel
theorem dX11_move_58 : decode cX11_move 58 = .ok (.iconst 5, 1) := by decide +kernel
theorem dX11_move_59 : decode cX11_move 59 = .ok (.invokevirtual 91, 3) := by decide +kernel
theorem dX11_move_62 : decode cX11_move 62 = .ok (.ireturn, 1) := by decide +kernel
theorem dX11_move_63 : decode cX11_move 63 = .ok (.aload_n 0, 1) := by decide +kernel
theorem dX11_move_64 : decode cX11_move 64 = .ok (.iload_n 1, 1) := by decide +kernel
theorem dX11_move_65 : decode cX11_move 65 = .ok (.iload_n 2, 1) := by decide +kernel
theorem dX11_move_66 : decode cX11_move 66 = .ok (.iload 5, 2) := by decide +kernel
theorem dX11_move_68 : decode cX11_move 68 = .ok (.invokevirtual 301, 3) := by decide +kernel
theorem dX11_move_71 : decode cX11_move 71 = .ok (.ifCond .eq 15, 3) := by decide +kernel
theorem dX11_move_74 : decode cX11_move 74 = .ok (.aload_n 0, 1) := by decide +kernel
theorem dX11_move_75 : decode cX11_move 75 = .ok (.iload_n 3, 1) := by decide +kernel
theorem dX11_move_76 : decode cX11_move 76 = .ok (.iload 4, 2) := by decide +kernel
theorem dX11_move_78 : decode cX11_move 78 = .ok (.iload 5, 2) := by decide +kernel
theorem dX11_move_80 : decode cX11_move 80 = .ok (.invokevirtual 301, 3) := by decide +kernel
theorem dX11_move_83 : decode cX11_move 83 = .ok (.ifCond .ne 9, 3) := by decide +kernel
theorem dX11_move_86 : decode cX11_move 86 = .ok (.aload_n 0, 1) := by decide +kernel
theorem dX11_move_87 : decode cX11_move 87 = .ok (.iconst 1, 1) := by decide +kernel
theorem dX11_move_88 : decode cX11_move 88 = .ok (.invokevirtual 91, 3) := by decide +kernel
theorem dX11_move_91 : decode cX11_move 91 = .ok (.ireturn, 1) := by decide +kernel
theorem dX11_move_92 : decode cX11_move 92 = .ok (.aload_n 0, 1) := by decide +kernel
theorem dX11_move_93 : decode cX11_move 93 = .ok (.getfield 76, 3) := by decide +kernel
theorem dX11_move_96 : decode cX11_move 96 = .ok (.iload_n 1, 1) := by decide +kernel
theorem dX11_move_97 : decode cX11_move 97 = .ok (.aaload, 1) := by decide +kernel
theorem dX11_move_98 : decode cX11_move 98 = .ok (.iload_n 2, 1) := by decide +kernel
theorem dX11_move_99 : decode cX11_move 99 = .ok (.aload_n 0, 1) := by decide +kernel
theorem dX11_move_100 : decode cX11_move 100 = .ok (.getfield 76, 3) := by decide +kernel
theorem dX11_move_103 : decode cX11_move 103 = .ok (.iload_n 3, 1) := by decide +kernel
theorem dX11_move_104 : decode cX11_move 104 = .ok (.aaload, 1) := by decide +kernel
theorem dX11_move_105 : decode cX11_move 105 = .ok (.iload 4, 2) := by decide +kernel
theorem dX11_move_107 : decode cX11_move 107 = .ok (.iload 5, 2) := by decide +kernel
theorem dX11_move_109 : decode cX11_move 109 = .ok (.invokestatic 305, 3) := by decide +kernel
theorem dX11_move_112 : decode cX11_move 112 = .ok (.iload 5, 2) := by decide +kernel
theorem dX11_move_114 : decode cX11_move 114 = .ok (.ireturn, 1) := by decide +kernel
theorem dX11_fars_0 : decode cX11_fars 0 = .ok (.aload_n 0, 1) := by decide +kernel
theorem dX11_fars_1 : decode cX11_fars 1 = .ok (.iload_n 1, 1) := by decide +kernel
theorem dX11_fars_2 : decode cX11_fars 2 = .ok (.invokevirtual 261, 3) := by decide +kernel
theorem dX11_fars_5 : decode cX11_fars 5 = .ok (.istore_n 2, 1) := by decide +kernel
theorem dX11_fars_6 : decode cX11_fars 6 = .ok (.iload_n 2, 1) := by decide +kernel
theorem dX11_fars_7 : decode cX11_fars 7 = .ok (.ifCond .eq 9, 3) := by decide +kernel
theorem dX11_fars_10 : decode cX11_fars 10 = .ok (.aload_n 0, 1) := by decide +kernel
theorem dX11_fars_11 : decode cX11_fars 11 = .ok (.iload_n 2, 1) := by decide +kernel
theorem dX11_fars_12 : decode cX11_fars 12 = .ok (.invokevirtual 91, 3) := by decide +kernel
theorem dX11_fars_15 : decode cX11_fars 15 = .ok (.ireturn, 1) := by decide +kernel
theorem dX11_fars_16 : decode cX11_fars 16 = .ok (.aload_n 0, 1) := by decide +kernel
theorem dX11_fars_17 : decode cX11_fars 17 = .ok (.getfield 82, 3) := by decide +kernel
theorem dX11_fars_20 : decode cX11_fars 20 = .ok (.iload_n 1, 1) := by decide +kernel
theorem dX11_fars_21 : decode cX11_fars 21 = .ok (.iaload, 1) := by decide +kernel
theorem dX11_fars_22 : decode cX11_fars 22 = .ok (.aload_n 0, 1) := by decide +kernel
theorem dX11_fars_23 : decode cX11_fars 23 = .ok (.getfield 10, 3) := by decide +kernel
theorem dX11_fars_26 : decode cX11_fars 26 = .ok (.getfield 106, 3) := by decide +kernel
theorem dX11_fars_29 : decode cX11_fars 29 = .ok (.invokestatic 183, 3) := by decide +kernel
theorem dX11_fars_32 : decode cX11_fars 32 = .ok (.istore_n 3, 1) := by decide +kernel
theorem dX11_fars_33 : decode cX11_fars 33 = .ok (.iconst 0, 1) := by decide +kernel
theorem dX11_fars_34 : decode cX11_fars 34 = .ok (.istore 4, 2) := by decide +kernel
theorem dX11_fars_36 : decode cX11_fars 36 = .ok (.iload 4, 2) := by decide +kernel
theorem dX11_fars_38 : decode cX11_fars 38 = .ok (.iload_n 3, 1) := by decide +kernel
theorem dX11_fars_39 : decode cX11_fars 39 = .ok (.if_icmp .ge 50, 3) := by decide +kernel
theorem dX11_fars_42 : decode cX11_fars 42 = .ok (.aload_n 0, 1) := by decide +kernel
theorem dX11_fars_43 : decode cX11_fars 43 = .ok (.getfield 76, 3) := by decide +kernel
theorem dX11_fars_46 : decode cX11_fars 46 = .ok (.iload_n 1, 1) := by decide +kernel
theorem dX11_fars_47 : decode cX11_fars 47 = .ok (.aaload, 1) := by decide +kernel
theorem dX11_fars_48 : decode cX11_fars 48 = .ok (.iload 4, 2) := by decide +kernel
theorem dX11_fars_50 : decode cX11_fars 50 = .ok (.iaload, 1) := by decide +kernel
theorem dX11_fars_51 : decode cX11_fars 51 = .ok (.bipush 99, 2) := by decide +kernel
theorem dX11_fars_53 : decode cX11_fars 53 = .ok (.invokestatic 98, 3) := by decide +kernel
theorem dX11_fars_56 : decode cX11_fars 56 = .ok (.ifCond .ne 6, 3) := by decide +kernel
theorem dX11_fars_59 : decode cX11_fars 59 = .ok (.iload 4, 2) := by decide +kernel
theorem dX11_fars_61 : decode cX11_fars 61 = .ok (.ireturn, 1) := by decide +kernel
theorem dX11_fars_62 : decode cX11_fars 62 = .ok (.aload_n 0, 1) := by decide +kernel
theorem dX11_fars_63 : decode cX11_fars 63 = .ok (.getfield 10, 3) := by decide +kernel
theorem dX11_fars_66 : decode cX11_fars 66 = .ok (.getfield 109, 3) := by decide +kernel
theorem dX11_fars_69 : decode cX11_fars 69 = .ok (.iload 4, 2) := by decide +kernel
theorem dX11_fars_71 : decode cX11_fars 71 = .ok (.aaload, 1) := by decide +kernel
theorem dX11_fars_72 : decode cX11_fars 72 = .ok (.iconst 2, 1) := by decide +kernel
theorem dX11_fars_73 : decode cX11_fars 73 = .ok (.aload_n 0, 1) := by decide +kernel
theorem dX11_fars_74 : decode cX11_fars 74 = .ok (.getfield 76, 3) := by decide +kernel
theorem dX11_fars_77 : decode cX11_fars 77 = .ok (.iload_n 1, 1) := by decide +kernel
theorem dX11_fars_78 : decode cX11_fars 78 = .ok (.aaload, 1) := by decide +kernel
theorem dX11_fars_79 : decode cX11_fars 79 = .ok (.iload 4, 2) := by decide +kernel
theorem dX11_fars_81 : decode cX11_fars 81 = .ok (.iaload, 1) := by decide +kernel
theorem dX11_fars_82 : decode cX11_fars 82 = .ok (.iastore, 1) := by decide +kernel
theorem dX11_fars_83 : decode cX11_fars 83 = .ok (.iinc 4 1, 3) := by decide +kernel
theorem dX11_fars_86 : decode cX11_fars 86 = .ok (.goto (-50), 3) := by decide +kernel
theorem dX11_fars_89 : decode cX11_fars 89 = .ok (.iload_n 3, 1) := by decide +kernel
theorem dX11_fars_90 : decode cX11_fars 90 = .ok (.ireturn, 1) := by decide +kernel
theorem dX11_judge_0 : decode cX11_judge 0 = .ok (.aload_n 0, 1) := by decide +kernel
theorem dX11_judge_1 : decode cX11_judge 1 = .ok (.iload_n 1, 1) := by decide +kernel
theorem dX11_judge_2 : decode cX11_judge 2 = .ok (.invokevirtual 261, 3) := by decide +kernel
theorem dX11_judge_5 : decode cX11_judge 5 = .ok (.istore_n 2, 1) := by decide +kernel
theorem dX11_judge_6 : decode cX11_judge 6 = .ok (.iload_n 2, 1) := by decide +kernel
theorem dX11_judge_7 : decode cX11_judge 7 = .ok (.ifCond .eq 9, 3) := by decide +kernel
theorem dX11_judge_10 : decode cX11_judge 10 = .ok (.aload_n 0, 1) := by decide +kernel
theorem dX11_judge_11 : decode cX11_judge 11 = .ok (.iload_n 2, 1) := by decide +kernel
theorem dX11_judge_12 : decode cX11_judge 12 = .ok (.invokevirtual 91, 3) := by decide +kernel
theorem dX11_judge_15 : decode cX11_judge 15 = .ok (.ireturn, 1) := by decide +kernel
theorem dX11_judge_16 : decode cX11_judge 16 = .ok (.aload_n 0, 1) := by decide +kernel
theorem dX11_judge_17 : decode cX11_judge 17 = .ok (.getfield 82, 3) := by decide +kernel
theorem dX11_judge_20 : decode cX11_judge 20 = .ok (.iload_n 1, 1) := by decide +kernel
theorem dX11_judge_21 : decode cX11_judge 21 = .ok (.iaload, 1) := by decide +kernel
theorem dX11_judge_22 : decode cX11_judge 22 = .ok (.aload_n 0, 1) := by decide +kernel
theorem dX11_judge_23 : decode cX11_judge 23 = .ok (.getfield 10, 3) := by decide +kernel
theorem dX11_judge_26 : decode cX11_judge 26 = .ok (.getfield 106, 3) := by decide +kernel
theorem dX11_judge_29 : decode cX11_judge 29 = .ok (.invokestatic 183, 3) := by decide +kernel
theorem dX11_judge_32 : decode cX11_judge 32 = .ok (.istore_n 3, 1) := by decide +kernel
theorem dX11_judge_33 : decode cX11_judge 33 = .ok (.iconst 0, 1) := by decide +kernel
theorem dX11_judge_34 : decode cX11_judge 34 = .ok (.istore 4, 2) := by decide +kernel
theorem dX11_judge_36 : decode cX11_judge 36 = .ok (.iload 4, 2) := by decide +kernel
theorem dX11_judge_38 : decode cX11_judge 38 = .ok (.iload_n 3, 1) := by decide +kernel
theorem dX11_judge_39 : decode cX11_judge 39 = .ok (.if_icmp .ge 36, 3) := by decide +kernel
theorem dX11_judge_42 : decode cX11_judge 42 = .ok (.aload_n 0, 1) := by decide +kernel
theorem dX11_judge_43 : decode cX11_judge 43 = .ok (.getfield 76, 3) := by decide +kernel
theorem dX11_judge_46 : decode cX11_judge 46 = .ok (.iload_n 1, 1) := by decide +kernel
theorem dX11_judge_47 : decode cX11_judge 47 = .ok (.aaload, 1) := by decide +kernel
theorem dX11_judge_48 : decode cX11_judge 48 = .ok (.iload 4, 2) := by decide +kernel
theorem dX11_judge_50 : decode cX11_judge 50 = .ok (.iaload, 1) := by decide +kernel
theorem dX11_judge_51 : decode cX11_judge 51 = .ok (.aload_n 0, 1) := by decide +kernel
theorem dX11_judge_52 : decode cX11_judge 52 = .ok (.getfield 10, 3) := by decide +kernel
theorem dX11_judge_55 : decode cX11_judge 55 = .ok (.getfield 109, 3) := by decide +kernel
theorem dX11_judge_58 : decode cX11_judge 58 = .ok (.iload 4, 2) := by decide +kernel
theorem dX11_judge_60 : decode cX11_judge 60 = .ok (.aaload, 1) := by decide +kernel
theorem dX11_judge_61 : decode cX11_judge 61 = .ok (.iconst 3, 1) := by decide +kernel
theorem dX11_judge_62 : decode cX11_judge 62 = .ok (.iaload, 1) := by decide +kernel
theorem dX11_judge_63 : decode cX11_judge 63 = .ok (.if_icmp .eq 6, 3) := by decide +kernel
theorem dX11_judge_66 : decode cX11_judge 66 = .ok (.iload 4, 2) := by decide +kernel
theorem dX11_judge_68 : decode cX11_judge 68 = .ok (.ireturn, 1) := by decide +kernel
theorem dX11_judge_69 : decode cX11_judge 69 = .ok (.iinc 4 1, 3) := by decide +kernel
theorem dX11_judge_72 : decode cX11_judge 72 = .ok (.goto (-36), 3) := by decide +kernel
theorem dX11_judge_75 : decode cX11_judge 75 = .ok (.aload_n 0, 1) := by decide +kernel
theorem dX11_judge_76 : decode cX11_judge 76 = .ok (.getfield 82, 3) := by decide +kernel
theorem dX11_judge_79 : decode cX11_judge 79 = .ok (.iload_n 1, 1) := by decide +kernel
theorem dX11_judge_80 : decode cX11_judge 80 = .ok (.iaload, 1) := by decide +kernel
theorem dX11_judge_81 : decode cX11_judge 81 = .ok (.aload_n 0, 1) := by decide +kernel
theorem dX11_judge_82 : decode cX11_judge 82 = .ok (.getfield 10, 3) := by decide +kernel
theorem dX11_judge_85 : decode cX11_judge 85 = .ok (.getfield 106, 3) := by decide +kernel
theorem dX11_judge_88 : decode cX11_judge 88 = .ok (.if_icmp .ne 7, 3) := by decide +kernel
theorem dX11_judge_91 : decode cX11_judge 91 = .ok (.iconst (-1), 1) := by decide +kernel
theorem dX11_judge_92 : decode cX11_judge 92 = .ok (.goto 4, 3) := by decide +kernel
theorem dX11_judge_95 : decode cX11_judge 95 = .ok (.iload_n 3, 1) := by decide +kernel
theorem dX11_judge_96 : decode cX11_judge 96 = .ok (.ireturn, 1) := by decide +kernel
theorem dX11_image_0 : decode cX11_image 0 = .ok (.aload_n 0, 1) := by decide +kernel
theorem dX11_image_1 : decode cX11_image 1 = .ok (.getfield 16, 3) := by decide +kernel
theorem dX11_image_4 : decode cX11_image 4 = .ok (.ifnonnull 14, 3) := by decide +kernel
theorem dX11_image_7 : decode cX11_image 7 = .ok (.aload_n 0, 1) := by decide +kernel
theorem dX11_image_8 : decode cX11_image 8 = .ok (.new 7, 3) := by decide +kernel
theorem dX11_image_11 : decode cX11_image 11 = .ok (.dup, 1) := by decide +kernel
theorem dX11_image_12 : decode cX11_image 12 = .ok (.invokespecial 9, 3) := by decide +kernel
theorem dX11_image_15 : decode cX11_image 15 = .ok (.putfield 16, 3) := by decide +kernel
theorem dX11_image_18 : decode cX11_image 18 = .ok (.aload_n 0, 1) := by decide +kernel
theorem dX11_image_19 : decode cX11_image 19 = .ok (.getfield 16, 3) := by decide +kernel
theorem dX11_image_22 : decode cX11_image 22 = .ok (.aload_n 0, 1) := by decide +kernel
theorem dX11_image_23 : decode cX11_image 23 = .ok (.getfield 10, 3) := by decide +kernel
theorem dX11_image_26 : decode cX11_image 26 = .ok (.invokevirtual 311, 3) := by decide +kernel
theorem dX11_image_29 : decode cX11_image 29 = .ok (.aload_n 0, 1) := by decide +kernel
theorem dX11_image_30 : decode cX11_image 30 = .ok (.dup, 1) := by decide +kernel
theorem dX11_image_31 : decode cX11_image 31 = .ok (.getfield 19, 3) := by decide +kernel
theorem dX11_image_34 : decode cX11_image 34 = .ok (.iconst 1, 1) := by decide +kernel
theorem dX11_image_35 : decode cX11_image 35 = .ok (.iadd, 1) := by decide +kernel
theorem dX11_image_36 : decode cX11_image 36 = .ok (.putfield 19, 3) := by decide +kernel
theorem dX11_image_39 : decode cX11_image 39 = .ok (.aload_n 0, 1) := by decide +kernel
theorem dX11_image_40 : decode cX11_image 40 = .ok (.getfield 19, 3) := by decide +kernel
theorem dX11_image_43 : decode cX11_image 43 = .ok (.ireturn, 1) := by decide +kernel
theorem dX11_restore_0 : decode cX11_restore 0 = .ok (.aload_n 0, 1) := by decide +kernel
theorem dX11_restore_1 : decode cX11_restore 1 = .ok (.getfield 16, 3) := by decide +kernel
theorem dX11_restore_4 : decode cX11_restore 4 = .ok (.ifnonnull 9, 3) := by decide +kernel
theorem dX11_restore_7 : decode cX11_restore 7 = .ok (.aload_n 0, 1) := by decide +kernel
theorem dX11_restore_8 : decode cX11_restore 8 = .ok (.iconst 2, 1) := by decide +kernel
theorem dX11_restore_9 : decode cX11_restore 9 = .ok (.invokevirtual 91, 3) := by decide +kernel
theorem dX11_restore_12 : decode cX11_restore 12 = .ok (.ireturn, 1) := by decide +kernel
theorem dX11_restore_13 : decode cX11_restore 13 = .ok (.aload_n 0, 1) := by decide +kernel
theorem dX11_restore_14 : decode cX11_restore 14 = .ok (.getfield 10, 3) := by decide +kernel
theorem dX11_restore_17 : decode cX11_restore 17 = .ok (.aload_n 0, 1) := by decide +kernel
theorem dX11_restore_18 : decode cX11_restore 18 = .ok (.getfield 16, 3) := by decide +kernel
theorem dX11_restore_21 : decode cX11_restore 21 = .ok (.invokevirtual 311, 3) := by decide +kernel
theorem dX11_restore_24 : decode cX11_restore 24 = .ok (.aload_n 0, 1) := by decide +kernel
theorem dX11_restore_25 : decode cX11_restore 25 = .ok (.getfield 10, 3) := by decide +kernel
theorem dX11_restore_28 : decode cX11_restore 28 = .ok (.getfield 115, 3) := by decide +kernel
theorem dX11_restore_31 : decode cX11_restore 31 = .ok (.ireturn, 1) := by decide +kernel
theorem dX11_tell_0 : decode cX11_tell 0 = .ok (.aload_n 0, 1) := by decide +kernel
theorem dX11_tell_1 : decode cX11_tell 1 = .ok (.getfield 10, 3) := by decide +kernel
theorem dX11_tell_4 : decode cX11_tell 4 = .ok (.getfield 314, 3) := by decide +kernel
theorem dX11_tell_7 : decode cX11_tell 7 = .ok (.bipush 20, 2) := by decide +kernel
theorem dX11_tell_9 : decode cX11_tell 9 = .ok (.if_icmp .lt 9, 3) := by decide +kernel
theorem dX11_tell_12 : decode cX11_tell 12 = .ok (.aload_n 0, 1) := by decide +kernel
theorem dX11_tell_13 : decode cX11_tell 13 = .ok (.iconst 4, 1) := by decide +kernel
theorem dX11_tell_14 : decode cX11_tell 14 = .ok (.invokevirtual 91, 3) := by decide +kernel
theorem dX11_tell_17 : decode cX11_tell 17 = .ok (.ireturn, 1) := by decide +kernel
theorem dX11_tell_18 : decode cX11_tell 18 = .ok (.aload_n 0, 1) := by decide +kernel
theorem dX11_tell_19 : decode cX11_tell 19 = .ok (.getfield 10, 3) := by decide +kernel
theorem dX11_tell_22 : decode cX11_tell 22 = .ok (.getfield 317, 3) := by decide +kernel
theorem dX11_tell_25 : decode cX11_tell 25 = .ok (.aload_n 0, 1) := by decide +kernel
theorem dX11_tell_26 : decode cX11_tell 26 = .ok (.getfield 10, 3) := by decide +kernel
theorem dX11_tell_29 : decode cX11_tell 29 = .ok (.getfield 314, 3) := by decide +kernel
theorem dX11_tell_32 : decode cX11_tell 32 = .ok (.iload_n 1, 1) := by decide +kernel
theorem dX11_tell_33 : decode cX11_tell 33 = .ok (.iastore, 1) := by decide +kernel
theorem dX11_tell_34 : decode cX11_tell 34 = .ok (.aload_n 0, 1) := by decide +kernel
theorem dX11_tell_35 : decode cX11_tell 35 = .ok (.getfield 10, 3) := by decide +kernel
theorem dX11_tell_38 : decode cX11_tell 38 = .ok (.dup, 1) := by decide +kernel
theorem dX11_tell_39 : decode cX11_tell 39 = .ok (.getfield 314, 3) := by decide +kernel
theorem dX11_tell_42 : decode cX11_tell 42 = .ok (.iconst 1, 1) := by decide +kernel
theorem dX11_tell_43 : decode cX11_tell 43 = .ok (.iadd, 1) := by decide +kernel
theorem dX11_tell_44 : decode cX11_tell 44 = .ok (.putfield 314, 3) := by decide +kernel
theorem dX11_tell_47 : decode cX11_tell 47 = .ok (.aload_n 0, 1) := by decide +kernel
theorem dX11_tell_48 : decode cX11_tell 48 = .ok (.getfield 10, 3) := by decide +kernel
theorem dX11_tell_51 : decode cX11_tell 51 = .ok (.getfield 314, 3) := by decide +kernel
theorem dX11_tell_54 : decode cX11_tell 54 = .ok (.ireturn, 1) := by decide +kernel
theorem dX11_check_0 : decode cX11_check 0 = .ok (.aload_n 0, 1) := by decide +kernel
theorem dX11_check_1 : decode cX11_check 1 = .ok (.getfield 10, 3) := by decide +kernel
theorem dX11_check_4 : decode cX11_check 4 = .ok (.getfield 314, 3) := by decide +kernel
theorem dX11_check_7 : decode cX11_check 7 = .ok (.istore_n 1, 1) := by decide +kernel
theorem dX11_check_8 : decode cX11_check 8 = .ok (.aload_n 0, 1) := by decide +kernel
theorem dX11_check_9 : decode cX11_check 9 = .ok (.getfield 10, 3) := by decide +kernel
theorem dX11_check_12 : decode cX11_check 12 = .ok (.iconst 0, 1) := by decide +kernel
theorem dX11_check_13 : decode cX11_check 13 = .ok (.putfield 314, 3) := by decide +kernel
theorem dX11_check_16 : decode cX11_check 16 = .ok (.iconst 0, 1) := by decide +kernel
theorem dX11_check_17 : decode cX11_check 17 = .ok (.istore_n 2, 1) := by decide +kernel
theorem dX11_check_18 : decode cX11_check 18 = .ok (.iload_n 2, 1) := by decide +kernel
theorem dX11_check_19 : decode cX11_check 19 = .ok (.iload_n 1, 1) := by decide +kernel
theorem dX11_check_20 : decode cX11_check 20 = .ok (.if_icmp .ge 51, 3) := by decide +kernel
theorem dX11_check_23 : decode cX11_check 23 = .ok (.aload_n 0, 1) := by decide +kernel
theorem dX11_check_24 : decode cX11_check 24 = .ok (.getfield 10, 3) := by decide +kernel
theorem dX11_check_27 : decode cX11_check 27 = .ok (.getfield 106, 3) := by decide +kernel
theorem dX11_check_30 : decode cX11_check 30 = .ok (.ifCond .eq 31, 3) := by decide +kernel
theorem dX11_check_33 : decode cX11_check 33 = .ok (.aload_n 0, 1) := by decide +kernel
theorem dX11_check_34 : decode cX11_check 34 = .ok (.getfield 10, 3) := by decide +kernel
theorem dX11_check_37 : decode cX11_check 37 = .ok (.getfield 317, 3) := by decide +kernel
theorem dX11_check_40 : decode cX11_check 40 = .ok (.iload_n 2, 1) := by decide +kernel
theorem dX11_check_41 : decode cX11_check 41 = .ok (.iaload, 1) := by decide +kernel
theorem dX11_check_42 : decode cX11_check 42 = .ok (.aload_n 0, 1) := by decide +kernel
theorem dX11_check_43 : decode cX11_check 43 = .ok (.iconst 0, 1) := by decide +kernel
theorem dX11_check_44 : decode cX11_check 44 = .ok (.aload_n 0, 1) := by decide +kernel
theorem dX11_check_45 : decode cX11_check 45 = .ok (.getfield 10, 3) := by decide +kernel
theorem dX11_check_48 : decode cX11_check 48 = .ok (.getfield 115, 3) := by decide +kernel
theorem dX11_check_51 : decode cX11_check 51 = .ok (.iconst 1, 1) := by decide +kernel
theorem dX11_check_52 : decode cX11_check 52 = .ok (.iadd, 1) := by decide +kernel
theorem dX11_check_53 : decode cX11_check 53 = .ok (.iload_n 2, 1) := by decide +kernel
theorem dX11_check_54 : decode cX11_check 54 = .ok (.iadd, 1) := by decide +kernel
theorem dX11_check_55 : decode cX11_check 55 = .ok (.invokevirtual 118, 3) := by decide +kernel
theorem dX11_check_58 : decode cX11_check 58 = .ok (.if_icmp .eq 7, 3) := by decide +kernel
theorem dX11_check_61 : decode cX11_check 61 = .ok (.iconst 1, 1) := by decide +kernel
theorem dX11_check_62 : decode cX11_check 62 = .ok (.iload_n 2, 1) := by decide +kernel
theorem dX11_check_63 : decode cX11_check 63 = .ok (.iadd, 1) := by decide +kernel
theorem dX11_check_64 : decode cX11_check 64 = .ok (.ireturn, 1) := by decide +kernel
theorem dX11_check_65 : decode cX11_check 65 = .ok (.iinc 2 1, 3) := by decide +kernel
theorem dX11_check_68 : decode cX11_check 68 = .ok (.goto (-50), 3) := by decide +kernel
theorem dX11_check_71 : decode cX11_check 71 = .ok (.iconst 0, 1) := by decide +kernel
theorem dX11_check_72 : decode cX11_check 72 = .ok (.ireturn, 1) := by decide +kernel
theorem dX11_count_0 : decode cX11_count 0 = .ok (.iload_n 1, 1) := by decide +kernel
theorem dX11_count_1 : decode cX11_count 1 = .ok (.tableswitch 168 0 14 #[75, 83, 91, 99, 107, 115, 123, 123, 123, 123, 123, 136, 144, 152, 160], 75) := by decide +kernel
theorem dX11_count_76 : decode cX11_count 76 = .ok (.aload_n 0, 1) := by decide +kernel
theorem dX11_count_77 : decode cX11_count 77 = .ok (.getfield 10, 3) := by decide +kernel
theorem dX11_count_80 : decode cX11_count 80 = .ok (.getfield 106, 3) := by decide +kernel
theorem dX11_count_83 : decode cX11_count 83 = .ok (.ireturn, 1) := by decide +kernel
theorem dX11_count_84 : decode cX11_count 84 = .ok (.aload_n 0, 1) := by decide +kernel
theorem dX11_count_85 : decode cX11_count 85 = .ok (.getfield 10, 3) := by decide +kernel
theorem dX11_count_88 : decode cX11_count 88 = .ok (.getfield 197, 3) := by decide +kernel
theorem dX11_count_91 : decode cX11_count 91 = .ok (.ireturn, 1) := by decide +kernel
theorem dX11_count_92 : decode cX11_count 92 = .ok (.aload_n 0, 1) := by decide +kernel
theorem dX11_count_93 : decode cX11_count 93 = .ok (.getfield 10, 3) := by decide +kernel
theorem dX11_count_96 : decode cX11_count 96 = .ok (.getfield 115, 3) := by decide +kernel
theorem dX11_count_99 : decode cX11_count 99 = .ok (.ireturn, 1) := by decide +kernel
theorem dX11_count_100 : decode cX11_count 100 = .ok (.aload_n 0, 1) := by decide +kernel
theorem dX11_count_101 : decode cX11_count 101 = .ok (.getfield 10, 3) := by decide +kernel
theorem dX11_count_104 : decode cX11_count 104 = .ok (.getfield 216, 3) := by decide +kernel
theorem dX11_count_107 : decode cX11_count 107 = .ok (.ireturn, 1) := by decide +kernel
theorem dX11_count_108 : decode cX11_count 108 = .ok (.aload_n 0, 1) := by decide +kernel
theorem dX11_count_109 : decode cX11_count 109 = .ok (.getfield 10, 3) := by decide +kernel
theorem dX11_count_112 : decode cX11_count 112 = .ok (.getfield 207, 3) := by decide +kernel
theorem dX11_count_115 : decode cX11_count 115 = .ok (.ireturn, 1) := by decide +kernel
theorem dX11_count_116 : decode cX11_count 116 = .ok (.aload_n 0, 1) := by decide +kernel
theorem dX11_count_117 : decode cX11_count 117 = .ok (.getfield 10, 3) := by decide +kernel
theorem dX11_count_120 : decode cX11_count 120 = .ok (.getfield 213, 3) := by decide +kernel
theorem dX11_count_123 : decode cX11_count 123 = .ok (.ireturn, 1) := by decide +kernel
theorem dX11_count_124 : decode cX11_count 124 = .ok (.aload_n 0, 1) := by decide +kernel
theorem dX11_count_125 : decode cX11_count 125 = .ok (.getfield 10, 3) := by decide +kernel
theorem dX11_count_128 : decode cX11_count 128 = .ok (.getfield 95, 3) := by decide +kernel
theorem dX11_count_131 : decode cX11_count 131 = .ok (.iload_n 1, 1) := by decide +kernel
theorem dX11_count_132 : decode cX11_count 132 = .ok (.bipush 6, 2) := by decide +kernel
theorem dX11_count_134 : decode cX11_count 134 = .ok (.isub, 1) := by decide +kernel
theorem dX11_count_135 : decode cX11_count 135 = .ok (.iaload, 1) := by decide +kernel
theorem dX11_count_136 : decode cX11_count 136 = .ok (.ireturn, 1) := by decide +kernel
theorem dX11_count_137 : decode cX11_count 137 = .ok (.aload_n 0, 1) := by decide +kernel
theorem dX11_count_138 : decode cX11_count 138 = .ok (.getfield 10, 3) := by decide +kernel
theorem dX11_count_141 : decode cX11_count 141 = .ok (.getfield 145, 3) := by decide +kernel
theorem dX11_count_144 : decode cX11_count 144 = .ok (.ireturn, 1) := by decide +kernel
theorem dX11_count_145 : decode cX11_count 145 = .ok (.aload_n 0, 1) := by decide +kernel
theorem dX11_count_146 : decode cX11_count 146 = .ok (.getfield 10, 3) := by decide +kernel
theorem dX11_count_149 : decode cX11_count 149 = .ok (.getfield 314, 3) := by decide +kernel
theorem dX11_count_152 : decode cX11_count 152 = .ok (.ireturn, 1) := by decide +kernel
theorem dX11_count_153 : decode cX11_count 153 = .ok (.aload_n 0, 1) := by decide +kernel
theorem dX11_count_154 : decode cX11_count 154 = .ok (.getfield 70, 3) := by decide +kernel
theorem dX11_count_157 : decode cX11_count 157 = .ok (.getfield 288, 3) := by decide +kernel
theorem dX11_count_160 : decode cX11_count 160 = .ok (.ireturn, 1) := by decide +kernel
theorem dX11_count_161 : decode cX11_count 161 = .ok (.aload_n 0, 1) := by decide +kernel
theorem dX11_count_162 : decode cX11_count 162 = .ok (.getfield 10, 3) := by decide +kernel
theorem dX11_count_165 : decode cX11_count 165 = .ok (.getfield 230, 3) := by decide +kernel
theorem dX11_count_168 : decode cX11_count 168 = .ok (.ireturn, 1) := by decide +kernel
theorem dX11_count_169 : decode cX11_count 169 = .ok (.aload_n 0, 1) := by decide +kernel
theorem dX11_count_170 : decode cX11_count 170 = .ok (.iconst 1, 1) := by decide +kernel
theorem dX11_count_171 : decode cX11_count 171 = .ok (.invokevirtual 91, 3) := by decide +kernel
theorem dX11_count_174 : decode cX11_count 174 = .ok (.ireturn, 1) := by decide +kernel
theorem dX11_told_0 : decode cX11_told 0 = .ok (.iload_n 1, 1) := by decide +kernel
theorem dX11_told_1 : decode cX11_told 1 = .ok (.iconst 1, 1) := by decide +kernel
theorem dX11_told_2 : decode cX11_told 2 = .ok (.if_icmp .lt 17, 3) := by decide +kernel
theorem dX11_told_5 : decode cX11_told 5 = .ok (.iload_n 1, 1) := by decide +kernel
theorem dX11_told_6 : decode cX11_told 6 = .ok (.iconst 5, 1) := by decide +kernel
theorem dX11_told_7 : decode cX11_told 7 = .ok (.if_icmp .gt 12, 3) := by decide +kernel
theorem dX11_told_10 : decode cX11_told 10 = .ok (.aload_n 0, 1) := by decide +kernel
theorem dX11_told_11 : decode cX11_told 11 = .ok (.getfield 23, 3) := by decide +kernel
theorem dX11_told_14 : decode cX11_told 14 = .ok (.iload_n 1, 1) := by decide +kernel
theorem dX11_told_15 : decode cX11_told 15 = .ok (.iaload, 1) := by decide +kernel
theorem dX11_told_16 : decode cX11_told 16 = .ok (.goto 8, 3) := by decide +kernel
theorem dX11_told_19 : decode cX11_told 19 = .ok (.aload_n 0, 1) := by decide +kernel
theorem dX11_told_20 : decode cX11_told 20 = .ok (.iconst 1, 1) := by decide +kernel
theorem dX11_told_21 : decode cX11_told 21 = .ok (.invokevirtual 91, 3) := by decide +kernel
theorem dX11_told_24 : decode cX11_told 24 = .ok (.ireturn, 1) := by decide +kernel
theorem dX11_isSheet_0 : decode cX11_isSheet 0 = .ok (.iload_n 0, 1) := by decide +kernel
theorem dX11_isSheet_1 : decode cX11_isSheet 1 = .ok (.iconst 3, 1) := by decide +kernel
theorem dX11_isSheet_2 : decode cX11_isSheet 2 = .ok (.invokestatic 98, 3) := by decide +kernel
theorem dX11_isSheet_5 : decode cX11_isSheet 5 = .ok (.ireturn, 1) := by decide +kernel
theorem dX11_isMissing_0 : decode cX11_isMissing 0 = .ok (.aload_n 0, 1) := by decide +kernel
theorem dX11_isMissing_1 : decode cX11_isMissing 1 = .ok (.getfield 79, 3) := by decide +kernel
theorem dX11_isMissing_4 : decode cX11_isMissing 4 = .ok (.iload_n 1, 1) := by decide +kernel
theorem dX11_isMissing_5 : decode cX11_isMissing 5 = .ok (.iaload, 1) := by decide +kernel
theorem dX11_isMissing_6 : decode cX11_isMissing 6 = .ok (.ifCond .ne 7, 3) := by decide +kernel
theorem dX11_isMissing_9 : decode cX11_isMissing 9 = .ok (.iconst 1, 1) := by decide +kernel
theorem dX11_isMissing_10 : decode cX11_isMissing 10 = .ok (.goto 4, 3) := by decide +kernel
theorem dX11_isMissing_13 : decode cX11_isMissing 13 = .ok (.iconst 0, 1) := by decide +kernel
theorem dX11_isMissing_14 : decode cX11_isMissing 14 = .ok (.ireturn, 1) := by decide +kernel
theorem dX11_refusalOfSheet_0 : decode cX11_refusalOfSheet 0 = .ok (.iload_n 1, 1) := by decide +kernel
theorem dX11_refusalOfSheet_1 : decode cX11_refusalOfSheet 1 = .ok (.invokestatic 292, 3) := by decide +kernel
theorem dX11_refusalOfSheet_4 : decode cX11_refusalOfSheet 4 = .ok (.ifCond .ne 5, 3) := by decide +kernel
theorem dX11_refusalOfSheet_7 : decode cX11_refusalOfSheet 7 = .ok (.iconst 1, 1) := by decide +kernel
theorem dX11_refusalOfSheet_8 : decode cX11_refusalOfSheet 8 = .ok (.ireturn, 1) := by decide +kernel
theorem dX11_refusalOfSheet_9 : decode cX11_refusalOfSheet 9 = .ok (.aload_n 0, 1) := by decide +kernel
theorem dX11_refusalOfSheet_10 : decode cX11_refusalOfSheet 10 = .ok (.iload_n 1, 1) := by decide +kernel
theorem dX11_refusalOfSheet_11 : decode cX11_refusalOfSheet 11 = .ok (.invokevirtual 298, 3) := by decide +kernel
theorem dX11_refusalOfSheet_14 : decode cX11_refusalOfSheet 14 = .ok (.ifCond .eq 7, 3) := by decide +kernel
theorem dX11_refusalOfSheet_17 : decode cX11_refusalOfSheet 17 = .ok (.iconst 2, 1) := by decide +kernel
theorem dX11_refusalOfSheet_18 : decode cX11_refusalOfSheet 18 = .ok (.goto 4, 3) := by decide +kernel
theorem dX11_refusalOfSheet_21 : decode cX11_refusalOfSheet 21 = .ok (.iconst 0, 1) := by decide +kernel
theorem dX11_refusalOfSheet_22 : decode cX11_refusalOfSheet 22 = .ok (.ireturn, 1) := by decide +kernel
theorem dX11_lowestBits_0 : decode cX11_lowestBits 0 = .ok (.iload_n 1, 1) := by decide +kernel
theorem dX11_lowestBits_1 : decode cX11_lowestBits 1 = .ok (.bipush 8, 2) := by decide +kernel
theorem dX11_lowestBits_3 : decode cX11_lowestBits 3 = .ok (.if_icmp .ne 6, 3) := by decide +kernel
theorem dX11_lowestBits_6 : decode cX11_lowestBits 6 = .ok (.iload_n 0, 1) := by decide +kernel
theorem dX11_lowestBits_7 : decode cX11_lowestBits 7 = .ok (.i2b, 1) := by decide +kernel
theorem dX11_lowestBits_8 : decode cX11_lowestBits 8 = .ok (.ireturn, 1) := by decide +kernel
theorem dX11_lowestBits_9 : decode cX11_lowestBits 9 = .ok (.iload_n 1, 1) := by decide +kernel
theorem dX11_lowestBits_10 : decode cX11_lowestBits 10 = .ok (.bipush 16, 2) := by decide +kernel
theorem dX11_lowestBits_12 : decode cX11_lowestBits 12 = .ok (.if_icmp .ne 8, 3) := by decide +kernel
theorem dX11_lowestBits_15 : decode cX11_lowestBits 15 = .ok (.iload_n 0, 1) := by decide +kernel
theorem dX11_lowestBits_16 : decode cX11_lowestBits 16 = .ok (.i2s, 1) := by decide +kernel
theorem dX11_lowestBits_17 : decode cX11_lowestBits 17 = .ok (.goto 4, 3) := by decide +kernel
theorem dX11_lowestBits_20 : decode cX11_lowestBits 20 = .ok (.iload_n 0, 1) := by decide +kernel
theorem dX11_lowestBits_21 : decode cX11_lowestBits 21 = .ok (.ireturn, 1) := by decide +kernel
theorem dX11_standThere_0 : decode cX11_standThere 0 = .ok (.iload_n 3, 1) := by decide +kernel
theorem dX11_standThere_1 : decode cX11_standThere 1 = .ok (.ifCond .lt 33, 3) := by decide +kernel
theorem dX11_standThere_4 : decode cX11_standThere 4 = .ok (.iload_n 2, 1) := by decide +kernel
theorem dX11_standThere_5 : decode cX11_standThere 5 = .ok (.ifCond .lt 29, 3) := by decide +kernel
theorem dX11_standThere_8 : decode cX11_standThere 8 = .ok (.iload_n 3, 1) := by decide +kernel
theorem dX11_standThere_9 : decode cX11_standThere 9 = .ok (.aload_n 0, 1) := by decide +kernel
theorem dX11_standThere_10 : decode cX11_standThere 10 = .ok (.getfield 82, 3) := by decide +kernel
theorem dX11_standThere_13 : decode cX11_standThere 13 = .ok (.iload_n 1, 1) := by decide +kernel
theorem dX11_standThere_14 : decode cX11_standThere 14 = .ok (.iaload, 1) := by decide +kernel
theorem dX11_standThere_15 : decode cX11_standThere 15 = .ok (.if_icmp .gt 19, 3) := by decide +kernel
theorem dX11_standThere_18 : decode cX11_standThere 18 = .ok (.iload_n 2, 1) := by decide +kernel
theorem dX11_standThere_19 : decode cX11_standThere 19 = .ok (.aload_n 0, 1) := by decide +kernel
theorem dX11_standThere_20 : decode cX11_standThere 20 = .ok (.getfield 82, 3) := by decide +kernel
theorem dX11_standThere_23 : decode cX11_standThere 23 = .ok (.iload_n 1, 1) := by decide +kernel
theorem dX11_standThere_24 : decode cX11_standThere 24 = .ok (.iaload, 1) := by decide +kernel
theorem dX11_standThere_25 : decode cX11_standThere 25 = .ok (.iload_n 3, 1) := by decide +kernel
theorem dX11_standThere_26 : decode cX11_standThere 26 = .ok (.isub, 1) := by decide +kernel
theorem dX11_standThere_27 : decode cX11_standThere 27 = .ok (.if_icmp .gt 7, 3) := by decide +kernel
theorem dX11_standThere_30 : decode cX11_standThere 30 = .ok (.iconst 1, 1) := by decide +kernel
theorem dX11_standThere_31 : decode cX11_standThere 31 = .ok (.goto 4, 3) := by decide +kernel
theorem dX11_standThere_34 : decode cX11_standThere 34 = .ok (.iconst 0, 1) := by decide +kernel
theorem dX11_standThere_35 : decode cX11_standThere 35 = .ok (.ireturn, 1) := by decide +kernel
end
section
theorem dX12_init_0 : decode cX12_init 0 = .ok (.aload_n 0, 1) := by decide +kernel
theorem dX12_init_1 : decode cX12_init 1 = .ok (.invokespecial 1, 3) := by decide +kernel
theorem dX12_init_4 : decode cX12_init 4 = .ok (.aload_n 0, 1) := by decide +kernel
theorem dX12_init_5 : decode cX12_init 5 = .ok (.sipush 276, 3) := by decide +kernel
theorem dX12_init_8 : decode cX12_init 8 = .ok (.newarray .int, 2) := by decide +kernel
theorem dX12_init_10 : decode cX12_init 10 = .ok (.putfield 7, 3) := by decide +kernel
theorem dX12_init_13 : decode cX12_init 13 = .ok (.aload_n 0, 1) := by decide +kernel
theorem dX12_init_14 : decode cX12_init 14 = .ok (.sipush 276, 3) := by decide +kernel
theorem dX12_init_17 : decode cX12_init 17 = .ok (.newarray .int, 2) := by decide +kernel
theorem dX12_init_19 : decode cX12_init 19 = .ok (.putfield 13, 3) := by decide +kernel
theorem dX12_init_22 : decode cX12_init 22 = .ok (.aload_n 0, 1) := by decide +kernel
theorem dX12_init_23 : decode cX12_init 23 = .ok (.sipush 276, 3) := by decide +kernel
theorem dX12_init_26 : decode cX12_init 26 = .ok (.newarray .int, 2) := by decide +kernel
theorem dX12_init_28 : decode cX12_init 28 = .ok (.putfield 16, 3) := by decide +kernel
theorem dX12_init_31 : decode cX12_init 31 = .ok (.aload_n 0, 1) := by decide +kernel
theorem dX12_init_32 : decode cX12_init 32 = .ok (.bipush 6, 2) := by decide +kernel
theorem dX12_init_34 : decode cX12_init 34 = .ok (.newarray .int, 2) := by decide +kernel
theorem dX12_init_36 : decode cX12_init 36 = .ok (.putfield 19, 3) := by decide +kernel
theorem dX12_init_39 : decode cX12_init 39 = .ok (.aload_n 0, 1) := by decide +kernel
theorem dX12_init_40 : decode cX12_init 40 = .ok (.iconst 4, 1) := by decide +kernel
theorem dX12_init_41 : decode cX12_init 41 = .ok (.newarray .int, 2) := by decide +kernel
theorem dX12_init_43 : decode cX12_init 43 = .ok (.putfield 22, 3) := by decide +kernel
theorem dX12_init_46 : decode cX12_init 46 = .ok (.aload_n 0, 1) := by decide +kernel
theorem dX12_init_47 : decode cX12_init 47 = .ok (.iconst 4, 1) := by decide +kernel
theorem dX12_init_48 : decode cX12_init 48 = .ok (.newarray .int, 2) := by decide +kernel
theorem dX12_init_50 : decode cX12_init 50 = .ok (.putfield 25, 3) := by decide +kernel
theorem dX12_init_53 : decode cX12_init 53 = .ok (.aload_n 0, 1) := by decide +kernel
theorem dX12_init_54 : decode cX12_init 54 = .ok (.sipush 160, 3) := by decide +kernel
theorem dX12_init_57 : decode cX12_init 57 = .ok (.newarray .int, 2) := by decide +kernel
theorem dX12_init_59 : decode cX12_init 59 = .ok (.putfield 28, 3) := by decide +kernel
theorem dX12_init_62 : decode cX12_init 62 = .ok (.aload_n 0, 1) := by decide +kernel
theorem dX12_init_63 : decode cX12_init 63 = .ok (.bipush 40, 2) := by decide +kernel
theorem dX12_init_65 : decode cX12_init 65 = .ok (.newarray .int, 2) := by decide +kernel
theorem dX12_init_67 : decode cX12_init 67 = .ok (.putfield 31, 3) := by decide +kernel
theorem dX12_init_70 : decode cX12_init 70 = .ok (.aload_n 0, 1) := by decide +kernel
theorem dX12_init_71 : decode cX12_init 71 = .ok (.bipush 40, 2) := by decide +kernel
theorem dX12_init_73 : decode cX12_init 73 = .ok (.newarray .int, 2) := by decide +kernel
theorem dX12_init_75 : decode cX12_init 75 = .ok (.putfield 34, 3) := by decide +kernel
theorem dX12_init_78 : decode cX12_init 78 = .ok (.aload_n 0, 1) := by decide +kernel
theorem dX12_init_79 : decode cX12_init 79 = .ok (.getfield 7, 3) := by decide +kernel
theorem dX12_init_82 : decode cX12_init 82 = .ok (.iconst 1, 1) := by decide +kernel
theorem dX12_init_83 : decode cX12_init 83 = .ok (.iconst 1, 1) := by decide +kernel
theorem dX12_init_84 : decode cX12_init 84 = .ok (.iastore, 1) := by decide +kernel
theorem dX12_init_85 : decode cX12_init 85 = .ok (.aload_n 0, 1) := by decide +kernel
theorem dX12_init_86 : decode cX12_init 86 = .ok (.getfield 7, 3) := by decide +kernel
theorem dX12_init_89 : decode cX12_init 89 = .ok (.iconst 5, 1) := by decide +kernel
theorem dX12_init_90 : decode cX12_init 90 = .ok (.iconst (-1), 1) := by decide +kernel
theorem dX12_init_91 : decode cX12_init 91 = .ok (.iastore, 1) := by decide +kernel
theorem dX12_init_92 : decode cX12_init 92 = .ok (.aload_n 0, 1) := by decide +kernel
theorem dX12_init_93 : decode cX12_init 93 = .ok (.getfield 7, 3) := by decide +kernel
theorem dX12_init_96 : decode cX12_init 96 = .ok (.bipush 6, 2) := by decide +kernel
theorem dX12_init_98 : decode cX12_init 98 = .ok (.iconst (-1), 1) := by decide +kernel
theorem dX12_init_99 : decode cX12_init 99 = .ok (.iastore, 1) := by decide +kernel
theorem dX12_init_100 : decode cX12_init 100 = .ok (.aload_n 0, 1) := by decide +kernel
theorem dX12_init_101 : decode cX12_init 101 = .ok (.getfield 7, 3) := by decide +kernel
theorem dX12_init_104 : decode cX12_init 104 = .ok (.bipush 8, 2) := by decide +kernel
theorem dX12_init_106 : decode cX12_init 106 = .ok (.bipush 6, 2) := by decide +kernel
theorem dX12_init_108 : decode cX12_init 108 = .ok (.iastore, 1) := by decide +kernel
theorem dX12_init_109 : decode cX12_init 109 = .ok (.aload_n 0, 1) := by decide +kernel
theorem dX12_init_110 : decode cX12_init 110 = .ok (.getfield 7, 3) := by decide +kernel
theorem dX12_init_113 : decode cX12_init 113 = .ok (.bipush 9, 2) := by decide +kernel
theorem dX12_init_115 : decode cX12_init 115 = .ok (.bipush 30, 2) := by decide +kernel
theorem dX12_init_117 : decode cX12_init 117 = .ok (.iastore, 1) := by decide +kernel
theorem dX12_init_118 : decode cX12_init 118 = .ok (.aload_n 0, 1) := by decide +kernel
theorem dX12_init_119 : decode cX12_init 119 = .ok (.getfield 7, 3) := by decide +kernel
theorem dX12_init_122 : decode cX12_init 122 = .ok (.bipush 10, 2) := by decide +kernel
theorem dX12_init_124 : decode cX12_init 124 = .ok (.iconst 3, 1) := by decide +kernel
theorem dX12_init_125 : decode cX12_init 125 = .ok (.iastore, 1) := by decide +kernel
theorem dX12_init_126 : decode cX12_init 126 = .ok (.aload_n 0, 1) := by decide +kernel
theorem dX12_init_127 : decode cX12_init 127 = .ok (.getfield 7, 3) := by decide +kernel
theorem dX12_init_130 : decode cX12_init 130 = .ok (.bipush 11, 2) := by decide +kernel
theorem dX12_init_132 : decode cX12_init 132 = .ok (.sipush 3600, 3) := by decide +kernel
theorem dX12_init_135 : decode cX12_init 135 = .ok (.iastore, 1) := by decide +kernel
theorem dX12_init_136 : decode cX12_init 136 = .ok (.return_, 1) := by decide +kernel
theorem dX12_in_0 : decode cX12_in 0 = .ok (.iload_n 0, 1) := by decide +kernel
theorem dX12_in_1 : decode cX12_in 1 = .ok (.iload_n 1, 1) := by decide +kernel
theorem dX12_in_2 : decode cX12_in 2 = .ok (.if_icmp .lt 12, 3) := by decide +kernel
theorem dX12_in_5 : decode cX12_in 5 = .ok (.iload_n 0, 1) := by decide +kernel
theorem dX12_in_6 : decode cX12_in 6 = .ok (.iload_n 2, 1) := by decide +kernel
theorem dX12_in_7 : decode cX12_in 7 = .ok (.if_icmp .gt 7, 3) := by decide +kernel
theorem dX12_in_10 : decode cX12_in 10 = .ok (.iconst 1, 1) := by decide +kernel
theorem dX12_in_11 : decode cX12_in 11 = .ok (.goto 4, 3) := by decide +kernel
theorem dX12_in_14 : decode cX12_in 14 = .ok (.iconst 0, 1) := by decide +kernel
theorem dX12_in_15 : decode cX12_in 15 = .ok (.ireturn, 1) := by decide +kernel
theorem dX12_errs_0 : decode cX12_errs 0 = .ok (.aload_n 0, 1) := by decide +kernel
theorem dX12_errs_1 : decode cX12_errs 1 = .ok (.getfield 19, 3) := by decide +kernel
theorem dX12_errs_4 : decode cX12_errs 4 = .ok (.ldc 37, 2) := by decide +kernel
theorem dX12_errs_6 : decode cX12_errs 6 = .ok (.iload_n 1, 1) := by decide +kernel
theorem dX12_errs_7 : decode cX12_errs 7 = .ok (.isub, 1) := by decide +kernel
theorem dX12_errs_8 : decode cX12_errs 8 = .ok (.dup2, 1) := by decide +kernel
theorem dX12_errs_9 : decode cX12_errs 9 = .ok (.iaload, 1) := by decide +kernel
theorem dX12_errs_10 : decode cX12_errs 10 = .ok (.iconst 1, 1) := by decide +kernel
theorem dX12_errs_11 : decode cX12_errs 11 = .ok (.iadd, 1) := by decide +kernel
theorem dX12_errs_12 : decode cX12_errs 12 = .ok (.iastore, 1) := by decide +kernel
theorem dX12_errs_13 : decode cX12_errs 13 = .ok (.iload_n 1, 1) := by decide +kernel
theorem dX12_errs_14 : decode cX12_errs 14 = .ok (.ireturn, 1) := by decide +kernel
theorem dX12_held_0 : decode cX12_held 0 = .ok (.iload_n 0, 1) := by decide +kernel
theorem dX12_held_1 : decode cX12_held 1 = .ok (.iload_n 1, 1) := by decide +kernel
theorem dX12_held_2 : decode cX12_held 2 = .ok (.if_icmp .ge 7, 3) := by decide +kernel
theorem dX12_held_5 : decode cX12_held 5 = .ok (.iload_n 1, 1) := by decide +kernel
theorem dX12_held_6 : decode cX12_held 6 = .ok (.goto 13, 3) := by decide +kernel
theorem dX12_held_9 : decode cX12_held 9 = .ok (.iload_n 0, 1) := by decide +kernel
theorem dX12_held_10 : decode cX12_held 10 = .ok (.iload_n 2, 1) := by decide +kernel
theorem dX12_held_11 : decode cX12_held 11 = .ok (.if_icmp .le 7, 3) := by decide +kernel
theorem dX12_held_14 : decode cX12_held 14 = .ok (.iload_n 2, 1) := by decide +kernel
theorem dX12_held_15 : decode cX12_held 15 = .ok (.goto 4, 3) := by decide +kernel
theorem dX12_held_18 : decode cX12_held 18 = .ok (.iload_n 0, 1) := by decide +kernel
theorem dX12_held_19 : decode cX12_held 19 = .ok (.ireturn, 1) := by decide +kernel
theorem dX12_moveAll_0 : decode cX12_moveAll 0 = .ok (.iconst 0, 1) := by decide +kernel
theorem dX12_moveAll_1 : decode cX12_moveAll 1 = .ok (.istore_n 3, 1) := by decide +kernel
theorem dX12_moveAll_2 : decode cX12_moveAll 2 = .ok (.iload_n 3, 1) := by decide +kernel
theorem dX12_moveAll_3 : decode cX12_moveAll 3 = .ok (.sipush 276, 3) := by decide +kernel
theorem dX12_moveAll_6 : decode cX12_moveAll 6 = .ok (.if_icmp .ge 15, 3) := by decide +kernel
theorem dX12_moveAll_9 : decode cX12_moveAll 9 = .ok (.aload_n 2, 1) := by decide +kernel
theorem dX12_moveAll_10 : decode cX12_moveAll 10 = .ok (.iload_n 3, 1) := by decide +kernel
theorem dX12_moveAll_11 : decode cX12_moveAll 11 = .ok (.aload_n 1, 1) := by decide +kernel
theorem dX12_moveAll_12 : decode cX12_moveAll 12 = .ok (.iload_n 3, 1) := by decide +kernel
theorem dX12_moveAll_13 : decode cX12_moveAll 13 = .ok (.iaload, 1) := by decide +kernel
theorem dX12_moveAll_14 : decode cX12_moveAll 14 = .ok (.iastore, 1) := by decide +kernel
theorem dX12_moveAll_15 : decode cX12_moveAll 15 = .ok (.iinc 3 1, 3) := by decide +kernel
theorem dX12_moveAll_18 : decode cX12_moveAll 18 = .ok (.goto (-16), 3) := by decide +kernel
theorem dX12_moveAll_21 : decode cX12_moveAll 21 = .ok (.return_, 1) := by decide +kernel
theorem dX12_bits_0 : decode cX12_bits 0 = .ok (.iconst 0, 1) := by decide +kernel
theorem dX12_bits_1 : decode cX12_bits 1 = .ok (.istore_n 1, 1) := by decide +kernel
theorem dX12_bits_2 : decode cX12_bits 2 = .ok (.iload_n 0, 1) := by decide +kernel
theorem dX12_bits_3 : decode cX12_bits 3 = .ok (.istore_n 2, 1) := by decide +kernel
theorem dX12_bits_4 : decode cX12_bits 4 = .ok (.iload_n 2, 1) := by decide +kernel
theorem dX12_bits_5 : decode cX12_bits 5 = .ok (.ifCond .eq 15, 3) := by decide +kernel
theorem dX12_bits_8 : decode cX12_bits 8 = .ok (.iinc 1 1, 3) := by decide +kernel
theorem dX12_bits_11 : decode cX12_bits 11 = .ok (.iload_n 2, 1) := by decide +kernel
theorem dX12_bits_12 : decode cX12_bits 12 = .ok (.iload_n 2, 1) := by decide +kernel
theorem dX12_bits_13 : decode cX12_bits 13 = .ok (.iconst 1, 1) := by decide +kernel
theorem dX12_bits_14 : decode cX12_bits 14 = .ok (.isub, 1) := by decide +kernel
theorem dX12_bits_15 : decode cX12_bits 15 = .ok (.iand, 1) := by decide +kernel
theorem dX12_bits_16 : decode cX12_bits 16 = .ok (.istore_n 2, 1) := by decide +kernel
theorem dX12_bits_17 : decode cX12_bits 17 = .ok (.goto (-13), 3) := by decide +kernel
theorem dX12_bits_20 : decode cX12_bits 20 = .ok (.iload_n 1, 1) := by decide +kernel
theorem dX12_bits_21 : decode cX12_bits 21 = .ok (.ireturn, 1) := by decide +kernel
theorem dX12_its_0 : decode cX12_its 0 = .ok (.aload_n 0, 1) := by decide +kernel
theorem dX12_its_1 : decode cX12_its 1 = .ok (.getfield 7, 3) := by decide +kernel
theorem dX12_its_4 : decode cX12_its 4 = .ok (.bipush 16, 2) := by decide +kernel
theorem dX12_its_6 : decode cX12_its 6 = .ok (.iconst 5, 1) := by decide +kernel
theorem dX12_its_7 : decode cX12_its 7 = .ok (.iload_n 1, 1) := by decide +kernel
theorem dX12_its_8 : decode cX12_its 8 = .ok (.imul, 1) := by decide +kernel
theorem dX12_its_9 : decode cX12_its 9 = .ok (.iadd, 1) := by decide +kernel
theorem dX12_its_10 : decode cX12_its 10 = .ok (.iload_n 2, 1) := by decide +kernel
theorem dX12_its_11 : decode cX12_its 11 = .ok (.iadd, 1) := by decide +kernel
theorem dX12_its_12 : decode cX12_its 12 = .ok (.iaload, 1) := by decide +kernel
theorem dX12_its_13 : decode cX12_its 13 = .ok (.ireturn, 1) := by decide +kernel
theorem dX12_gets_0 : decode cX12_gets 0 = .ok (.aload_n 0, 1) := by decide +kernel
theorem dX12_gets_1 : decode cX12_gets 1 = .ok (.getfield 7, 3) := by decide +kernel
theorem dX12_gets_4 : decode cX12_gets 4 = .ok (.bipush 16, 2) := by decide +kernel
theorem dX12_gets_6 : decode cX12_gets 6 = .ok (.iconst 5, 1) := by decide +kernel
theorem dX12_gets_7 : decode cX12_gets 7 = .ok (.iload_n 1, 1) := by decide +kernel
theorem dX12_gets_8 : decode cX12_gets 8 = .ok (.imul, 1) := by decide +kernel
theorem dX12_gets_9 : decode cX12_gets 9 = .ok (.iadd, 1) := by decide +kernel
theorem dX12_gets_10 : decode cX12_gets 10 = .ok (.iload_n 2, 1) := by decide +kernel
theorem dX12_gets_11 : decode cX12_gets 11 = .ok (.iadd, 1) := by decide +kernel
theorem dX12_gets_12 : decode cX12_gets 12 = .ok (.iload_n 3, 1) := by decide +kernel
theorem dX12_gets_13 : decode cX12_gets 13 = .ok (.iastore, 1) := by decide +kernel
theorem dX12_gets_14 : decode cX12_gets 14 = .ok (.return_, 1) := by decide +kernel
theorem dX12_of_0 : decode cX12_of 0 = .ok (.aload_n 0, 1) := by decide +kernel
theorem dX12_of_1 : decode cX12_of 1 = .ok (.getfield 7, 3) := by decide +kernel
theorem dX12_of_4 : decode cX12_of 4 = .ok (.bipush 46, 2) := by decide +kernel
theorem dX12_of_6 : decode cX12_of 6 = .ok (.bipush 6, 2) := by decide +kernel
theorem dX12_of_8 : decode cX12_of 8 = .ok (.iload_n 1, 1) := by decide +kernel
theorem dX12_of_9 : decode cX12_of 9 = .ok (.imul, 1) := by decide +kernel
theorem dX12_of_10 : decode cX12_of 10 = .ok (.iadd, 1) := by decide +kernel
theorem dX12_of_11 : decode cX12_of 11 = .ok (.iload_n 2, 1) := by decide +kernel
theorem dX12_of_12 : decode cX12_of 12 = .ok (.iadd, 1) := by decide +kernel
theorem dX12_of_13 : decode cX12_of 13 = .ok (.iaload, 1) := by decide +kernel
theorem dX12_of_14 : decode cX12_of 14 = .ok (.ireturn, 1) := by decide +kernel
theorem dX12_isWay_0 : decode cX12_isWay 0 = .ok (.iload_n 1, 1) := by decide +kernel
theorem dX12_isWay_1 : decode cX12_isWay 1 = .ok (.iconst 0, 1) := by decide +kernel
theorem dX12_isWay_2 : decode cX12_isWay 2 = .ok (.aload_n 0, 1) := by decide +kernel
theorem dX12_isWay_3 : decode cX12_isWay 3 = .ok (.getfield 7, 3) := by decide +kernel
theorem dX12_isWay_6 : decode cX12_isWay 6 = .ok (.iconst 2, 1) := by decide +kernel
theorem dX12_isWay_7 : decode cX12_isWay 7 = .ok (.iaload, 1) := by decide +kernel
theorem dX12_isWay_8 : decode cX12_isWay 8 = .ok (.iconst 1, 1) := by decide +kernel
theorem dX12_isWay_9 : decode cX12_isWay 9 = .ok (.isub, 1) := by decide +kernel
theorem dX12_isWay_10 : decode cX12_isWay 10 = .ok (.invokestatic 38, 3) := by decide +kernel
theorem dX12_isWay_13 : decode cX12_isWay 13 = .ok (.ireturn, 1) := by decide +kernel
theorem dX12_isCode_0 : decode cX12_isCode 0 = .ok (.iload_n 1, 1) := by decide +kernel
theorem dX12_isCode_1 : decode cX12_isCode 1 = .ok (.iconst 0, 1) := by decide +kernel
theorem dX12_isCode_2 : decode cX12_isCode 2 = .ok (.aload_n 0, 1) := by decide +kernel
theorem dX12_isCode_3 : decode cX12_isCode 3 = .ok (.getfield 7, 3) := by decide +kernel
theorem dX12_isCode_6 : decode cX12_isCode 6 = .ok (.bipush 7, 2) := by decide +kernel
theorem dX12_isCode_8 : decode cX12_isCode 8 = .ok (.iaload, 1) := by decide +kernel
theorem dX12_isCode_9 : decode cX12_isCode 9 = .ok (.iconst 1, 1) := by decide +kernel
theorem dX12_isCode_10 : decode cX12_isCode 10 = .ok (.isub, 1) := by decide +kernel
theorem dX12_isCode_11 : decode cX12_isCode 11 = .ok (.invokestatic 38, 3) := by decide +kernel
theorem dX12_isCode_14 : decode cX12_isCode 14 = .ok (.ireturn, 1) := by decide +kernel
theorem dX12_becomes_0 : decode cX12_becomes 0 = .ok (.aload_n 0, 1) := by decide +kernel
theorem dX12_becomes_1 : decode cX12_becomes 1 = .ok (.getfield 7, 3) := by decide +kernel
theorem dX12_becomes_4 : decode cX12_becomes 4 = .ok (.iload_n 1, 1) := by decide +kernel
theorem dX12_becomes_5 : decode cX12_becomes 5 = .ok (.iaload, 1) := by decide +kernel
theorem dX12_becomes_6 : decode cX12_becomes 6 = .ok (.istore_n 3, 1) := by decide +kernel
theorem dX12_becomes_7 : decode cX12_becomes 7 = .ok (.aload_n 0, 1) := by decide +kernel
theorem dX12_becomes_8 : decode cX12_becomes 8 = .ok (.getfield 7, 3) := by decide +kernel
theorem dX12_becomes_11 : decode cX12_becomes 11 = .ok (.iload_n 1, 1) := by decide +kernel
theorem dX12_becomes_12 : decode cX12_becomes 12 = .ok (.iload_n 2, 1) := by decide +kernel
theorem dX12_becomes_13 : decode cX12_becomes 13 = .ok (.iastore, 1) := by decide +kernel
theorem dX12_becomes_14 : decode cX12_becomes 14 = .ok (.iload_n 3, 1) := by decide +kernel
theorem dX12_becomes_15 : decode cX12_becomes 15 = .ok (.ireturn, 1) := by decide +kernel
theorem dX12_isRule_0 : decode cX12_isRule 0 = .ok (.iload_n 0, 1) := by decide +kernel
theorem dX12_isRule_1 : decode cX12_isRule 1 = .ok (.tableswitch 65 0 3 #[31, 39, 48, 56], 31) := by decide +kernel
theorem dX12_isRule_32 : decode cX12_isRule 32 = .ok (.iload_n 1, 1) := by decide +kernel
theorem dX12_isRule_33 : decode cX12_isRule 33 = .ok (.iconst 1, 1) := by decide +kernel
theorem dX12_isRule_34 : decode cX12_isRule 34 = .ok (.bipush 6, 2) := by decide +kernel
theorem dX12_isRule_36 : decode cX12_isRule 36 = .ok (.invokestatic 38, 3) := by decide +kernel
theorem dX12_isRule_39 : decode cX12_isRule 39 = .ok (.ireturn, 1) := by decide +kernel
theorem dX12_isRule_40 : decode cX12_isRule 40 = .ok (.iload_n 1, 1) := by decide +kernel
theorem dX12_isRule_41 : decode cX12_isRule 41 = .ok (.iconst 1, 1) := by decide +kernel
theorem dX12_isRule_42 : decode cX12_isRule 42 = .ok (.sipush 300, 3) := by decide +kernel
theorem dX12_isRule_45 : decode cX12_isRule 45 = .ok (.invokestatic 38, 3) := by decide +kernel
theorem dX12_isRule_48 : decode cX12_isRule 48 = .ok (.ireturn, 1) := by decide +kernel
theorem dX12_isRule_49 : decode cX12_isRule 49 = .ok (.iload_n 1, 1) := by decide +kernel
theorem dX12_isRule_50 : decode cX12_isRule 50 = .ok (.iconst 1, 1) := by decide +kernel
theorem dX12_isRule_51 : decode cX12_isRule 51 = .ok (.bipush 9, 2) := by decide +kernel
theorem dX12_isRule_53 : decode cX12_isRule 53 = .ok (.invokestatic 38, 3) := by decide +kernel
theorem dX12_isRule_56 : decode cX12_isRule 56 = .ok (.ireturn, 1) := by decide +kernel
theorem dX12_isRule_57 : decode cX12_isRule 57 = .ok (.iload_n 1, 1) := by decide +kernel
theorem dX12_isRule_58 : decode cX12_isRule 58 = .ok (.iconst 1, 1) := by decide +kernel
theorem dX12_isRule_59 : decode cX12_isRule 59 = .ok (.sipush 9999, 3) := by decide +kernel
theorem dX12_isRule_62 : decode cX12_isRule 62 = .ok (.invokestatic 38, 3) := by decide +kernel
theorem dX12_isRule_65 : decode cX12_isRule 65 = .ok (.ireturn, 1) := by decide +kernel
theorem dX12_isRule_66 : decode cX12_isRule 66 = .ok (.iload_n 0, 1) := by decide +kernel
theorem dX12_isRule_67 : decode cX12_isRule 67 = .ok (.iconst 4, 1) := by decide +kernel
theorem dX12_isRule_68 : decode cX12_isRule 68 = .ok (.if_icmp .ne 16, 3) := by decide +kernel
theorem dX12_isRule_71 : decode cX12_isRule 71 = .ok (.iload_n 1, 1) := by decide +kernel
theorem dX12_isRule_72 : decode cX12_isRule 72 = .ok (.iconst 0, 1) := by decide +kernel
theorem dX12_isRule_73 : decode cX12_isRule 73 = .ok (.iconst 1, 1) := by decide +kernel
theorem dX12_isRule_74 : decode cX12_isRule 74 = .ok (.invokestatic 38, 3) := by decide +kernel
theorem dX12_isRule_77 : decode cX12_isRule 77 = .ok (.ifCond .eq 7, 3) := by decide +kernel
theorem dX12_isRule_80 : decode cX12_isRule 80 = .ok (.iconst 1, 1) := by decide +kernel
theorem dX12_isRule_81 : decode cX12_isRule 81 = .ok (.goto 4, 3) := by decide +kernel
theorem dX12_isRule_84 : decode cX12_isRule 84 = .ok (.iconst 0, 1) := by decide +kernel
theorem dX12_isRule_85 : decode cX12_isRule 85 = .ok (.ireturn, 1) := by decide +kernel
theorem dX12_rule_0 : decode cX12_rule 0 = .ok (.iload_n 1, 1) := by decide +kernel
theorem dX12_rule_1 : decode cX12_rule 1 = .ok (.iload_n 2, 1) := by decide +kernel
theorem dX12_rule_2 : decode cX12_rule 2 = .ok (.invokestatic 42, 3) := by decide +kernel
theorem dX12_rule_5 : decode cX12_rule 5 = .ok (.ifCond .eq 15, 3) := by decide +kernel
theorem dX12_rule_8 : decode cX12_rule 8 = .ok (.aload_n 0, 1) := by decide +kernel
theorem dX12_rule_9 : decode cX12_rule 9 = .ok (.bipush 8, 2) := by decide +kernel
theorem dX12_rule_11 : decode cX12_rule 11 = .ok (.iload_n 1, 1) := by decide +kernel
theorem dX12_rule_12 : decode cX12_rule 12 = .ok (.iadd, 1) := by decide +kernel
theorem dX12_rule_13 : decode cX12_rule 13 = .ok (.iload_n 2, 1) := by decide +kernel
theorem dX12_rule_14 : decode cX12_rule 14 = .ok (.invokevirtual 46, 3) := by decide +kernel
theorem dX12_rule_17 : decode cX12_rule 17 = .ok (.goto 9, 3) := by decide +kernel
theorem dX12_rule_20 : decode cX12_rule 20 = .ok (.aload_n 0, 1) := by decide +kernel
theorem dX12_rule_21 : decode cX12_rule 21 = .ok (.ldc 50, 2) := by decide +kernel
theorem dX12_rule_23 : decode cX12_rule 23 = .ok (.invokevirtual 51, 3) := by decide +kernel
theorem dX12_rule_26 : decode cX12_rule 26 = .ok (.ireturn, 1) := by decide +kernel
theorem dX12_way_0 : decode cX12_way 0 = .ok (.iload_n 1, 1) := by decide +kernel
theorem dX12_way_1 : decode cX12_way 1 = .ok (.iconst 0, 1) := by decide +kernel
theorem dX12_way_2 : decode cX12_way 2 = .ok (.bipush 69, 2) := by decide +kernel
theorem dX12_way_4 : decode cX12_way 4 = .ok (.invokestatic 38, 3) := by decide +kernel
theorem dX12_way_7 : decode cX12_way 7 = .ok (.ifCond .eq 22, 3) := by decide +kernel
theorem dX12_way_10 : decode cX12_way 10 = .ok (.iload_n 2, 1) := by decide +kernel
theorem dX12_way_11 : decode cX12_way 11 = .ok (.iconst 0, 1) := by decide +kernel
theorem dX12_way_12 : decode cX12_way 12 = .ok (.bipush 99, 2) := by decide +kernel
theorem dX12_way_14 : decode cX12_way 14 = .ok (.invokestatic 38, 3) := by decide +kernel
theorem dX12_way_17 : decode cX12_way 17 = .ok (.ifCond .eq 12, 3) := by decide +kernel
theorem dX12_way_20 : decode cX12_way 20 = .ok (.iload_n 3, 1) := by decide +kernel
theorem dX12_way_21 : decode cX12_way 21 = .ok (.iconst 0, 1) := by decide +kernel
theorem dX12_way_22 : decode cX12_way 22 = .ok (.iconst 5, 1) := by decide +kernel
theorem dX12_way_23 : decode cX12_way 23 = .ok (.invokestatic 38, 3) := by decide +kernel
theorem dX12_way_26 : decode cX12_way 26 = .ok (.ifCond .ne 10, 3) := by decide +kernel
theorem dX12_way_29 : decode cX12_way 29 = .ok (.aload_n 0, 1) := by decide +kernel
theorem dX12_way_30 : decode cX12_way 30 = .ok (.ldc 50, 2) := by decide +kernel
theorem dX12_way_32 : decode cX12_way 32 = .ok (.invokevirtual 51, 3) := by decide +kernel
theorem dX12_way_35 : decode cX12_way 35 = .ok (.ireturn, 1) := by decide +kernel
theorem dX12_way_36 : decode cX12_way 36 = .ok (.aload_n 0, 1) := by decide +kernel
theorem dX12_way_37 : decode cX12_way 37 = .ok (.getfield 7, 3) := by decide +kernel
theorem dX12_way_40 : decode cX12_way 40 = .ok (.iconst 2, 1) := by decide +kernel
theorem dX12_way_41 : decode cX12_way 41 = .ok (.iaload, 1) := by decide +kernel
theorem dX12_way_42 : decode cX12_way 42 = .ok (.bipush 6, 2) := by decide +kernel
theorem dX12_way_44 : decode cX12_way 44 = .ok (.if_icmp .ne 10, 3) := by decide +kernel
theorem dX12_way_47 : decode cX12_way 47 = .ok (.aload_n 0, 1) := by decide +kernel
theorem dX12_way_48 : decode cX12_way 48 = .ok (.ldc 55, 2) := by decide +kernel
theorem dX12_way_50 : decode cX12_way 50 = .ok (.invokevirtual 51, 3) := by decide +kernel
theorem dX12_way_53 : decode cX12_way 53 = .ok (.ireturn, 1) := by decide +kernel
theorem dX12_way_54 : decode cX12_way 54 = .ok (.aload_n 0, 1) := by decide +kernel
theorem dX12_way_55 : decode cX12_way 55 = .ok (.getfield 7, 3) := by decide +kernel
theorem dX12_way_58 : decode cX12_way 58 = .ok (.iconst 2, 1) := by decide +kernel
theorem dX12_way_59 : decode cX12_way 59 = .ok (.iaload, 1) := by decide +kernel
theorem dX12_way_60 : decode cX12_way 60 = .ok (.istore 4, 2) := by decide +kernel
theorem dX12_way_62 : decode cX12_way 62 = .ok (.aload_n 0, 1) := by decide +kernel
theorem dX12_way_63 : decode cX12_way 63 = .ok (.iload 4, 2) := by decide +kernel
theorem dX12_way_65 : decode cX12_way 65 = .ok (.iconst 0, 1) := by decide +kernel
theorem dX12_way_66 : decode cX12_way 66 = .ok (.iload_n 1, 1) := by decide +kernel
theorem dX12_way_67 : decode cX12_way 67 = .ok (.bipush 10, 2) := by decide +kernel
theorem dX12_way_69 : decode cX12_way 69 = .ok (.idiv, 1) := by decide +kernel
theorem dX12_way_70 : decode cX12_way 70 = .ok (.invokevirtual 56, 3) := by decide +kernel
theorem dX12_way_73 : decode cX12_way 73 = .ok (.aload_n 0, 1) := by decide +kernel
theorem dX12_way_74 : decode cX12_way 74 = .ok (.iload 4, 2) := by decide +kernel
theorem dX12_way_76 : decode cX12_way 76 = .ok (.iconst 1, 1) := by decide +kernel
theorem dX12_way_77 : decode cX12_way 77 = .ok (.iload_n 1, 1) := by decide +kernel
theorem dX12_way_78 : decode cX12_way 78 = .ok (.bipush 10, 2) := by decide +kernel
theorem dX12_way_80 : decode cX12_way 80 = .ok (.irem, 1) := by decide +kernel
theorem dX12_way_81 : decode cX12_way 81 = .ok (.invokevirtual 56, 3) := by decide +kernel
theorem dX12_way_84 : decode cX12_way 84 = .ok (.aload_n 0, 1) := by decide +kernel
theorem dX12_way_85 : decode cX12_way 85 = .ok (.iload 4, 2) := by decide +kernel
theorem dX12_way_87 : decode cX12_way 87 = .ok (.iconst 2, 1) := by decide +kernel
theorem dX12_way_88 : decode cX12_way 88 = .ok (.iload_n 2, 1) := by decide +kernel
theorem dX12_way_89 : decode cX12_way 89 = .ok (.invokevirtual 56, 3) := by decide +kernel
theorem dX12_way_92 : decode cX12_way 92 = .ok (.aload_n 0, 1) := by decide +kernel
theorem dX12_way_93 : decode cX12_way 93 = .ok (.iload 4, 2) := by decide +kernel
theorem dX12_way_95 : decode cX12_way 95 = .ok (.iconst 3, 1) := by decide +kernel
theorem dX12_way_96 : decode cX12_way 96 = .ok (.iload_n 3, 1) := by decide +kernel
theorem dX12_way_97 : decode cX12_way 97 = .ok (.invokevirtual 56, 3) := by decide +kernel
theorem dX12_way_100 : decode cX12_way 100 = .ok (.aload_n 0, 1) := by decide +kernel
theorem dX12_way_101 : decode cX12_way 101 = .ok (.iload 4, 2) := by decide +kernel
theorem dX12_way_103 : decode cX12_way 103 = .ok (.iconst 4, 1) := by decide +kernel
theorem dX12_way_104 : decode cX12_way 104 = .ok (.iconst 0, 1) := by decide +kernel
theorem dX12_way_105 : decode cX12_way 105 = .ok (.invokevirtual 56, 3) := by decide +kernel
theorem dX12_way_108 : decode cX12_way 108 = .ok (.aload_n 0, 1) := by decide +kernel
theorem dX12_way_109 : decode cX12_way 109 = .ok (.getfield 7, 3) := by decide +kernel
theorem dX12_way_112 : decode cX12_way 112 = .ok (.iconst 2, 1) := by decide +kernel
theorem dX12_way_113 : decode cX12_way 113 = .ok (.dup2, 1) := by decide +kernel
theorem dX12_way_114 : decode cX12_way 114 = .ok (.iaload, 1) := by decide +kernel
theorem dX12_way_115 : decode cX12_way 115 = .ok (.iconst 1, 1) := by decide +kernel
theorem dX12_way_116 : decode cX12_way 116 = .ok (.iadd, 1) := by decide +kernel
theorem dX12_way_117 : decode cX12_way 117 = .ok (.iastore, 1) := by decide +kernel
theorem dX12_way_118 : decode cX12_way 118 = .ok (.iload 4, 2) := by decide +kernel
theorem dX12_way_120 : decode cX12_way 120 = .ok (.ireturn, 1) := by decide +kernel
theorem dX12_ofWay_0 : decode cX12_ofWay 0 = .ok (.aload_n 0, 1) := by decide +kernel
theorem dX12_ofWay_1 : decode cX12_ofWay 1 = .ok (.iload_n 1, 1) := by decide +kernel
theorem dX12_ofWay_2 : decode cX12_ofWay 2 = .ok (.invokevirtual 60, 3) := by decide +kernel
theorem dX12_ofWay_5 : decode cX12_ofWay 5 = .ok (.ifCond .eq 13, 3) := by decide +kernel
theorem dX12_ofWay_8 : decode cX12_ofWay 8 = .ok (.iload_n 2, 1) := by decide +kernel
theorem dX12_ofWay_9 : decode cX12_ofWay 9 = .ok (.iconst 0, 1) := by decide +kernel
theorem dX12_ofWay_10 : decode cX12_ofWay 10 = .ok (.bipush 6, 2) := by decide +kernel
theorem dX12_ofWay_12 : decode cX12_ofWay 12 = .ok (.invokestatic 38, 3) := by decide +kernel
theorem dX12_ofWay_15 : decode cX12_ofWay 15 = .ok (.ifCond .ne 10, 3) := by decide +kernel
theorem dX12_ofWay_18 : decode cX12_ofWay 18 = .ok (.aload_n 0, 1) := by decide +kernel
theorem dX12_ofWay_19 : decode cX12_ofWay 19 = .ok (.ldc 50, 2) := by decide +kernel
theorem dX12_ofWay_21 : decode cX12_ofWay 21 = .ok (.invokevirtual 51, 3) := by decide +kernel
theorem dX12_ofWay_24 : decode cX12_ofWay 24 = .ok (.ireturn, 1) := by decide +kernel
theorem dX12_ofWay_25 : decode cX12_ofWay 25 = .ok (.iload_n 2, 1) := by decide +kernel
theorem dX12_ofWay_26 : decode cX12_ofWay 26 = .ok (.iconst 5, 1) := by decide +kernel
theorem dX12_ofWay_27 : decode cX12_ofWay 27 = .ok (.if_icmp .ge 12, 3) := by decide +kernel
theorem dX12_ofWay_30 : decode cX12_ofWay 30 = .ok (.aload_n 0, 1) := by decide +kernel
theorem dX12_ofWay_31 : decode cX12_ofWay 31 = .ok (.iload_n 1, 1) := by decide +kernel
theorem dX12_ofWay_32 : decode cX12_ofWay 32 = .ok (.iload_n 2, 1) := by decide +kernel
theorem dX12_ofWay_33 : decode cX12_ofWay 33 = .ok (.invokevirtual 64, 3) := by decide +kernel
theorem dX12_ofWay_36 : decode cX12_ofWay 36 = .ok (.goto 27, 3) := by decide +kernel
theorem dX12_ofWay_39 : decode cX12_ofWay 39 = .ok (.iload_n 2, 1) := by decide +kernel
theorem dX12_ofWay_40 : decode cX12_ofWay 40 = .ok (.iconst 5, 1) := by decide +kernel
theorem dX12_ofWay_41 : decode cX12_ofWay 41 = .ok (.if_icmp .ne 17, 3) := by decide +kernel
theorem dX12_ofWay_44 : decode cX12_ofWay 44 = .ok (.aload_n 0, 1) := by decide +kernel
theorem dX12_ofWay_45 : decode cX12_ofWay 45 = .ok (.iload_n 1, 1) := by decide +kernel
theorem dX12_ofWay_46 : decode cX12_ofWay 46 = .ok (.aload_n 0, 1) := by decide +kernel
theorem dX12_ofWay_47 : decode cX12_ofWay 47 = .ok (.getfield 7, 3) := by decide +kernel
theorem dX12_ofWay_50 : decode cX12_ofWay 50 = .ok (.iconst 0, 1) := by decide +kernel
theorem dX12_ofWay_51 : decode cX12_ofWay 51 = .ok (.iaload, 1) := by decide +kernel
theorem dX12_ofWay_52 : decode cX12_ofWay 52 = .ok (.invokevirtual 67, 3) := by decide +kernel
theorem dX12_ofWay_55 : decode cX12_ofWay 55 = .ok (.goto 8, 3) := by decide +kernel
theorem dX12_ofWay_58 : decode cX12_ofWay 58 = .ok (.aload_n 0, 1) := by decide +kernel
theorem dX12_ofWay_59 : decode cX12_ofWay 59 = .ok (.iload_n 1, 1) := by decide +kernel
theorem dX12_ofWay_60 : decode cX12_ofWay 60 = .ok (.invokevirtual 70, 3) := by decide +kernel
theorem dX12_ofWay_63 : decode cX12_ofWay 63 = .ok (.ireturn, 1) := by decide +kernel
theorem dX12_change_0 : decode cX12_change 0 = .ok (.iload_n 2, 1) := by decide +kernel
theorem dX12_change_1 : decode cX12_change 1 = .ok (.ifCond .ne 13, 3) := by decide +kernel
theorem dX12_change_4 : decode cX12_change 4 = .ok (.iload_n 3, 1) := by decide +kernel
theorem dX12_change_5 : decode cX12_change 5 = .ok (.iconst 0, 1) := by decide +kernel
theorem dX12_change_6 : decode cX12_change 6 = .ok (.bipush 99, 2) := by decide +kernel
theorem dX12_change_8 : decode cX12_change 8 = .ok (.invokestatic 38, 3) := by decide +kernel
theorem dX12_change_11 : decode cX12_change 11 = .ok (.goto 36, 3) := by decide +kernel
theorem dX12_change_14 : decode cX12_change 14 = .ok (.iload_n 2, 1) := by decide +kernel
theorem dX12_change_15 : decode cX12_change 15 = .ok (.iconst 1, 1) := by decide +kernel
theorem dX12_change_16 : decode cX12_change 16 = .ok (.if_icmp .ne 12, 3) := by decide +kernel
theorem dX12_change_19 : decode cX12_change 19 = .ok (.iload_n 3, 1) := by decide +kernel
theorem dX12_change_20 : decode cX12_change 20 = .ok (.iconst 0, 1) := by decide +kernel
theorem dX12_change_21 : decode cX12_change 21 = .ok (.iconst 5, 1) := by decide +kernel
theorem dX12_change_22 : decode cX12_change 22 = .ok (.invokestatic 38, 3) := by decide +kernel
theorem dX12_change_25 : decode cX12_change 25 = .ok (.goto 22, 3) := by decide +kernel
theorem dX12_change_28 : decode cX12_change 28 = .ok (.iload_n 2, 1) := by decide +kernel
theorem dX12_change_29 : decode cX12_change 29 = .ok (.iconst 2, 1) := by decide +kernel
theorem dX12_change_30 : decode cX12_change 30 = .ok (.if_icmp .ne 16, 3) := by decide +kernel
theorem dX12_change_33 : decode cX12_change 33 = .ok (.iload_n 3, 1) := by decide +kernel
theorem dX12_change_34 : decode cX12_change 34 = .ok (.iconst 0, 1) := by decide +kernel
theorem dX12_change_35 : decode cX12_change 35 = .ok (.iconst 1, 1) := by decide +kernel
theorem dX12_change_36 : decode cX12_change 36 = .ok (.invokestatic 38, 3) := by decide +kernel
theorem dX12_change_39 : decode cX12_change 39 = .ok (.ifCond .eq 7, 3) := by decide +kernel
theorem dX12_change_42 : decode cX12_change 42 = .ok (.iconst 1, 1) := by decide +kernel
theorem dX12_change_43 : decode cX12_change 43 = .ok (.goto 4, 3) := by decide +kernel
theorem dX12_change_46 : decode cX12_change 46 = .ok (.iconst 0, 1) := by decide +kernel
theorem dX12_change_47 : decode cX12_change 47 = .ok (.istore 4, 2) := by decide +kernel
theorem dX12_change_49 : decode cX12_change 49 = .ok (.aload_n 0, 1) := by decide +kernel
theorem dX12_change_50 : decode cX12_change 50 = .ok (.iload_n 1, 1) := by decide +kernel
theorem dX12_change_51 : decode cX12_change 51 = .ok (.invokevirtual 60, 3) := by decide +kernel
theorem dX12_change_54 : decode cX12_change 54 = .ok (.ifCond .eq 26, 3) := by decide +kernel
theorem dX12_change_57 : decode cX12_change 57 = .ok (.iload 4, 2) := by decide +kernel
theorem dX12_change_59 : decode cX12_change 59 = .ok (.ifCond .eq 21, 3) := by decide +kernel
theorem dX12_change_62 : decode cX12_change 62 = .ok (.aload_n 0, 1) := by decide +kernel
theorem dX12_change_63 : decode cX12_change 63 = .ok (.bipush 16, 2) := by decide +kernel
theorem dX12_change_65 : decode cX12_change 65 = .ok (.iconst 5, 1) := by decide +kernel
theorem dX12_change_66 : decode cX12_change 66 = .ok (.iload_n 1, 1) := by decide +kernel
theorem dX12_change_67 : decode cX12_change 67 = .ok (.imul, 1) := by decide +kernel
theorem dX12_change_68 : decode cX12_change 68 = .ok (.iadd, 1) := by decide +kernel
theorem dX12_change_69 : decode cX12_change 69 = .ok (.iconst 2, 1) := by decide +kernel
theorem dX12_change_70 : decode cX12_change 70 = .ok (.iadd, 1) := by decide +kernel
theorem dX12_change_71 : decode cX12_change 71 = .ok (.iload_n 2, 1) := by decide +kernel
theorem dX12_change_72 : decode cX12_change 72 = .ok (.iadd, 1) := by decide +kernel
theorem dX12_change_73 : decode cX12_change 73 = .ok (.iload_n 3, 1) := by decide +kernel
theorem dX12_change_74 : decode cX12_change 74 = .ok (.invokevirtual 46, 3) := by decide +kernel
theorem dX12_change_77 : decode cX12_change 77 = .ok (.goto 9, 3) := by decide +kernel
theorem dX12_change_80 : decode cX12_change 80 = .ok (.aload_n 0, 1) := by decide +kernel
theorem dX12_change_81 : decode cX12_change 81 = .ok (.ldc 50, 2) := by decide +kernel
theorem dX12_change_83 : decode cX12_change 83 = .ok (.invokevirtual 51, 3) := by decide +kernel
theorem dX12_change_86 : decode cX12_change 86 = .ok (.ireturn, 1) := by decide +kernel
theorem dX12_become_0 : decode cX12_become 0 = .ok (.aload_n 0, 1) := by decide +kernel
theorem dX12_become_1 : decode cX12_become 1 = .ok (.iload_n 1, 1) := by decide +kernel
theorem dX12_become_2 : decode cX12_become 2 = .ok (.invokevirtual 60, 3) := by decide +kernel
theorem dX12_become_5 : decode cX12_become 5 = .ok (.ifCond .eq 13, 3) := by decide +kernel
theorem dX12_become_8 : decode cX12_become 8 = .ok (.iload_n 2, 1) := by decide +kernel
theorem dX12_become_9 : decode cX12_become 9 = .ok (.iconst 0, 1) := by decide +kernel
theorem dX12_become_10 : decode cX12_become 10 = .ok (.bipush 69, 2) := by decide +kernel
theorem dX12_become_12 : decode cX12_become 12 = .ok (.invokestatic 38, 3) := by decide +kernel
theorem dX12_become_15 : decode cX12_become 15 = .ok (.ifCond .ne 10, 3) := by decide +kernel
theorem dX12_become_18 : decode cX12_become 18 = .ok (.aload_n 0, 1) := by decide +kernel
theorem dX12_become_19 : decode cX12_become 19 = .ok (.ldc 50, 2) := by decide +kernel
theorem dX12_become_21 : decode cX12_become 21 = .ok (.invokevirtual 51, 3) := by decide +kernel
theorem dX12_become_24 : decode cX12_become 24 = .ok (.ireturn, 1) := by decide +kernel
theorem dX12_become_25 : decode cX12_become 25 = .ok (.aload_n 0, 1) := by decide +kernel
theorem dX12_become_26 : decode cX12_become 26 = .ok (.iload_n 1, 1) := by decide +kernel
theorem dX12_become_27 : decode cX12_become 27 = .ok (.iconst 1, 1) := by decide +kernel
theorem dX12_become_28 : decode cX12_become 28 = .ok (.iload_n 2, 1) := by decide +kernel
theorem dX12_become_29 : decode cX12_become 29 = .ok (.bipush 10, 2) := by decide +kernel
theorem dX12_become_31 : decode cX12_become 31 = .ok (.irem, 1) := by decide +kernel
theorem dX12_become_32 : decode cX12_become 32 = .ok (.invokevirtual 56, 3) := by decide +kernel
theorem dX12_become_35 : decode cX12_become 35 = .ok (.aload_n 0, 1) := by decide +kernel
theorem dX12_become_36 : decode cX12_become 36 = .ok (.bipush 16, 2) := by decide +kernel
theorem dX12_become_38 : decode cX12_become 38 = .ok (.iconst 5, 1) := by decide +kernel
theorem dX12_become_39 : decode cX12_become 39 = .ok (.iload_n 1, 1) := by decide +kernel
theorem dX12_become_40 : decode cX12_become 40 = .ok (.imul, 1) := by decide +kernel
theorem dX12_become_41 : decode cX12_become 41 = .ok (.iadd, 1) := by decide +kernel
theorem dX12_become_42 : decode cX12_become 42 = .ok (.iload_n 2, 1) := by decide +kernel
theorem dX12_become_43 : decode cX12_become 43 = .ok (.bipush 10, 2) := by decide +kernel
theorem dX12_become_45 : decode cX12_become 45 = .ok (.idiv, 1) := by decide +kernel
theorem dX12_become_46 : decode cX12_become 46 = .ok (.invokevirtual 46, 3) := by decide +kernel
theorem dX12_become_49 : decode cX12_become 49 = .ok (.ireturn, 1) := by decide +kernel
theorem dX12_above_0 : decode cX12_above 0 = .ok (.iload_n 0, 1) := by decide +kernel
theorem dX12_above_1 : decode cX12_above 1 = .ok (.ifCond .ne 7, 3) := by decide +kernel
theorem dX12_above_4 : decode cX12_above 4 = .ok (.iconst (-1), 1) := by decide +kernel
theorem dX12_above_5 : decode cX12_above 5 = .ok (.goto 15, 3) := by decide +kernel
theorem dX12_above_8 : decode cX12_above 8 = .ok (.iload_n 0, 1) := by decide +kernel
theorem dX12_above_9 : decode cX12_above 9 = .ok (.iconst 3, 1) := by decide +kernel
theorem dX12_above_10 : decode cX12_above 10 = .ok (.if_icmp .le 9, 3) := by decide +kernel
theorem dX12_above_13 : decode cX12_above 13 = .ok (.iload_n 0, 1) := by decide +kernel
theorem dX12_above_14 : decode cX12_above 14 = .ok (.iconst 3, 1) := by decide +kernel
theorem dX12_above_15 : decode cX12_above 15 = .ok (.isub, 1) := by decide +kernel
theorem dX12_above_16 : decode cX12_above 16 = .ok (.goto 4, 3) := by decide +kernel
theorem dX12_above_19 : decode cX12_above 19 = .ok (.iconst 0, 1) := by decide +kernel
theorem dX12_above_20 : decode cX12_above 20 = .ok (.ireturn, 1) := by decide +kernel
theorem dX12_as_0 : decode cX12_as 0 = .ok (.aload_n 0, 1) := by decide +kernel
theorem dX12_as_1 : decode cX12_as 1 = .ok (.iload_n 1, 1) := by decide +kernel
theorem dX12_as_2 : decode cX12_as 2 = .ok (.invokevirtual 60, 3) := by decide +kernel
theorem dX12_as_5 : decode cX12_as 5 = .ok (.ifCond .eq 13, 3) := by decide +kernel
theorem dX12_as_8 : decode cX12_as 8 = .ok (.iload_n 2, 1) := by decide +kernel
theorem dX12_as_9 : decode cX12_as 9 = .ok (.iconst 0, 1) := by decide +kernel
theorem dX12_as_10 : decode cX12_as 10 = .ok (.bipush 6, 2) := by decide +kernel
theorem dX12_as_12 : decode cX12_as 12 = .ok (.invokestatic 38, 3) := by decide +kernel
theorem dX12_as_15 : decode cX12_as 15 = .ok (.ifCond .ne 10, 3) := by decide +kernel
theorem dX12_as_18 : decode cX12_as 18 = .ok (.aload_n 0, 1) := by decide +kernel
theorem dX12_as_19 : decode cX12_as 19 = .ok (.ldc 50, 2) := by decide +kernel
theorem dX12_as_21 : decode cX12_as 21 = .ok (.invokevirtual 51, 3) := by decide +kernel
theorem dX12_as_24 : decode cX12_as 24 = .ok (.ireturn, 1) := by decide +kernel
theorem dX12_as_25 : decode cX12_as 25 = .ok (.aload_n 0, 1) := by decide +kernel
theorem dX12_as_26 : decode cX12_as 26 = .ok (.iload_n 1, 1) := by decide +kernel
theorem dX12_as_27 : decode cX12_as 27 = .ok (.iconst 0, 1) := by decide +kernel
theorem dX12_as_28 : decode cX12_as 28 = .ok (.invokevirtual 64, 3) := by decide +kernel
theorem dX12_as_31 : decode cX12_as 31 = .ok (.istore_n 3, 1) := by decide +kernel
theorem dX12_as_32 : decode cX12_as 32 = .ok (.iload_n 3, 1) := by decide +kernel
theorem dX12_as_33 : decode cX12_as 33 = .ok (.ifCond .lt 16, 3) := by decide +kernel
theorem dX12_as_36 : decode cX12_as 36 = .ok (.iload_n 3, 1) := by decide +kernel
theorem dX12_as_37 : decode cX12_as 37 = .ok (.iload_n 2, 1) := by decide +kernel
theorem dX12_as_38 : decode cX12_as 38 = .ok (.if_icmp .eq 11, 3) := by decide +kernel
theorem dX12_as_41 : decode cX12_as 41 = .ok (.iload_n 3, 1) := by decide +kernel
theorem dX12_as_42 : decode cX12_as 42 = .ok (.invokestatic 73, 3) := by decide +kernel
theorem dX12_as_45 : decode cX12_as 45 = .ok (.istore_n 3, 1) := by decide +kernel
theorem dX12_as_46 : decode cX12_as 46 = .ok (.goto (-14), 3) := by decide +kernel
theorem dX12_as_49 : decode cX12_as 49 = .ok (.iload_n 3, 1) := by decide +kernel
theorem dX12_as_50 : decode cX12_as 50 = .ok (.ifCond .ge 12, 3) := by decide +kernel
theorem dX12_as_53 : decode cX12_as 53 = .ok (.aload_n 0, 1) := by decide +kernel
theorem dX12_as_54 : decode cX12_as 54 = .ok (.ldc 76, 2) := by decide +kernel
theorem dX12_as_56 : decode cX12_as 56 = .ok (.invokevirtual 51, 3) := by decide +kernel
theorem dX12_as_59 : decode cX12_as 59 = .ok (.goto 9, 3) := by decide +kernel
theorem dX12_as_62 : decode cX12_as 62 = .ok (.aload_n 0, 1) := by decide +kernel
theorem dX12_as_63 : decode cX12_as 63 = .ok (.iload_n 1, 1) := by decide +kernel
theorem dX12_as_64 : decode cX12_as 64 = .ok (.iconst 1, 1) := by decide +kernel
theorem dX12_as_65 : decode cX12_as 65 = .ok (.invokevirtual 64, 3) := by decide +kernel
theorem dX12_as_68 : decode cX12_as 68 = .ok (.ireturn, 1) := by decide +kernel
theorem dX12_byteAt_0 : decode cX12_byteAt 0 = .ok (.iload_n 1, 1) := by decide +kernel
theorem dX12_byteAt_1 : decode cX12_byteAt 1 = .ok (.aload_n 0, 1) := by decide +kernel
theorem dX12_byteAt_2 : decode cX12_byteAt 2 = .ok (.getfield 77, 3) := by decide +kernel
theorem dX12_byteAt_5 : decode cX12_byteAt 5 = .ok (.if_icmp .ge 24, 3) := by decide +kernel
theorem dX12_byteAt_8 : decode cX12_byteAt 8 = .ok (.aload_n 0, 1) := by decide +kernel
theorem dX12_byteAt_9 : decode cX12_byteAt 9 = .ok (.getfield 7, 3) := by decide +kernel
theorem dX12_byteAt_12 : decode cX12_byteAt 12 = .ok (.sipush 176, 3) := by decide +kernel
theorem dX12_byteAt_15 : decode cX12_byteAt 15 = .ok (.bipush 50, 2) := by decide +kernel
theorem dX12_byteAt_17 : decode cX12_byteAt 17 = .ok (.aload_n 0, 1) := by decide +kernel
theorem dX12_byteAt_18 : decode cX12_byteAt 18 = .ok (.getfield 81, 3) := by decide +kernel
theorem dX12_byteAt_21 : decode cX12_byteAt 21 = .ok (.imul, 1) := by decide +kernel
theorem dX12_byteAt_22 : decode cX12_byteAt 22 = .ok (.iadd, 1) := by decide +kernel
theorem dX12_byteAt_23 : decode cX12_byteAt 23 = .ok (.iload_n 1, 1) := by decide +kernel
theorem dX12_byteAt_24 : decode cX12_byteAt 24 = .ok (.iadd, 1) := by decide +kernel
theorem dX12_byteAt_25 : decode cX12_byteAt 25 = .ok (.iaload, 1) := by decide +kernel
theorem dX12_byteAt_26 : decode cX12_byteAt 26 = .ok (.goto 4, 3) := by decide +kernel
theorem dX12_byteAt_29 : decode cX12_byteAt 29 = .ok (.iconst (-1), 1) := by decide +kernel
theorem dX12_byteAt_30 : decode cX12_byteAt 30 = .ok (.ireturn, 1) := by decide +kernel
theorem dX12_isDigit_0 : decode cX12_isDigit 0 = .ok (.iload_n 0, 1) := by decide +kernel
theorem dX12_isDigit_1 : decode cX12_isDigit 1 = .ok (.bipush 48, 2) := by decide +kernel
theorem dX12_isDigit_3 : decode cX12_isDigit 3 = .ok (.bipush 57, 2) := by decide +kernel
theorem dX12_isDigit_5 : decode cX12_isDigit 5 = .ok (.invokestatic 38, 3) := by decide +kernel
theorem dX12_isDigit_8 : decode cX12_isDigit 8 = .ok (.ireturn, 1) := by decide +kernel
theorem dX12_fails_0 : decode cX12_fails 0 = .ok (.aload_n 0, 1) := by decide +kernel
theorem dX12_fails_1 : decode cX12_fails 1 = .ok (.iconst 0, 1) := by decide +kernel
theorem dX12_fails_2 : decode cX12_fails 2 = .ok (.putfield 84, 3) := by decide +kernel
theorem dX12_fails_5 : decode cX12_fails 5 = .ok (.iconst 0, 1) := by decide +kernel
theorem dX12_fails_6 : decode cX12_fails 6 = .ok (.ireturn, 1) := by decide +kernel
theorem dX12_number_0 : decode cX12_number 0 = .ok (.iconst 0, 1) := by decide +kernel
theorem dX12_number_1 : decode cX12_number 1 = .ok (.istore_n 1, 1) := by decide +kernel
theorem dX12_number_2 : decode cX12_number 2 = .ok (.iconst 0, 1) := by decide +kernel
theorem dX12_number_3 : decode cX12_number 3 = .ok (.istore_n 2, 1) := by decide +kernel
theorem dX12_number_4 : decode cX12_number 4 = .ok (.iload_n 2, 1) := by decide +kernel
theorem dX12_number_5 : decode cX12_number 5 = .ok (.iconst 4, 1) := by decide +kernel
theorem dX12_number_6 : decode cX12_number 6 = .ok (.if_icmp .ge 50, 3) := by decide +kernel
theorem dX12_number_9 : decode cX12_number 9 = .ok (.aload_n 0, 1) := by decide +kernel
theorem dX12_number_10 : decode cX12_number 10 = .ok (.aload_n 0, 1) := by decide +kernel
theorem dX12_number_11 : decode cX12_number 11 = .ok (.getfield 88, 3) := by decide +kernel
theorem dX12_number_14 : decode cX12_number 14 = .ok (.invokevirtual 91, 3) := by decide +kernel
theorem dX12_number_17 : decode cX12_number 17 = .ok (.invokestatic 94, 3) := by decide +kernel
theorem dX12_number_20 : decode cX12_number 20 = .ok (.ifCond .eq 36, 3) := by decide +kernel
theorem dX12_number_23 : decode cX12_number 23 = .ok (.bipush 10, 2) := by decide +kernel
theorem dX12_number_25 : decode cX12_number 25 = .ok (.iload_n 1, 1) := by decide +kernel
theorem dX12_number_26 : decode cX12_number 26 = .ok (.imul, 1) := by decide +kernel
theorem dX12_number_27 : decode cX12_number 27 = .ok (.aload_n 0, 1) := by decide +kernel
theorem dX12_number_28 : decode cX12_number 28 = .ok (.aload_n 0, 1) := by decide +kernel
theorem dX12_number_29 : decode cX12_number 29 = .ok (.getfield 88, 3) := by decide +kernel
theorem dX12_number_32 : decode cX12_number 32 = .ok (.invokevirtual 91, 3) := by decide +kernel
theorem dX12_number_35 : decode cX12_number 35 = .ok (.iadd, 1) := by decide +kernel
theorem dX12_number_36 : decode cX12_number 36 = .ok (.bipush 48, 2) := by decide +kernel
theorem dX12_number_38 : decode cX12_number 38 = .ok (.isub, 1) := by decide +kernel
theorem dX12_number_39 : decode cX12_number 39 = .ok (.istore_n 1, 1) := by decide +kernel
theorem dX12_number_40 : decode cX12_number 40 = .ok (.aload_n 0, 1) := by decide +kernel
theorem dX12_number_41 : decode cX12_number 41 = .ok (.dup, 1) := by decide +kernel
theorem dX12_number_42 : decode cX12_number 42 = .ok (.getfield 88, 3) := by decide +kernel
theorem dX12_number_45 : decode cX12_number 45 = .ok (.iconst 1, 1) := by decide +kernel
theorem dX12_number_46 : decode cX12_number 46 = .ok (.iadd, 1) := by decide +kernel
theorem dX12_number_47 : decode cX12_number 47 = .ok (.putfield 88, 3) := by decide +kernel
theorem dX12_number_50 : decode cX12_number 50 = .ok (.iinc 2 1, 3) := by decide +kernel
theorem dX12_number_53 : decode cX12_number 53 = .ok (.goto (-49), 3) := by decide +kernel
theorem dX12_number_56 : decode cX12_number 56 = .ok (.iload_n 1, 1) := by decide +kernel
theorem dX12_number_57 : decode cX12_number 57 = .ok (.ireturn, 1) := by decide +kernel
theorem dX12_named_0 : decode cX12_named 0 = .ok (.iload_n 1, 1) := by decide +kernel
theorem dX12_named_1 : decode cX12_named 1 = .ok (.aload_n 0, 1) := by decide +kernel
theorem dX12_named_2 : decode cX12_named 2 = .ok (.getfield 81, 3) := by decide +kernel
theorem dX12_named_5 : decode cX12_named 5 = .ok (.ifCond .ne 8, 3) := by decide +kernel
theorem dX12_named_8 : decode cX12_named 8 = .ok (.bipush 109, 2) := by decide +kernel
theorem dX12_named_10 : decode cX12_named 10 = .ok (.goto 5, 3) := by decide +kernel
theorem dX12_named_13 : decode cX12_named 13 = .ok (.bipush 102, 2) := by decide +kernel
theorem dX12_named_15 : decode cX12_named 15 = .ok (.if_icmp .ne 7, 3) := by decide +kernel
theorem dX12_named_18 : decode cX12_named 18 = .ok (.iconst 1, 1) := by decide +kernel
theorem dX12_named_19 : decode cX12_named 19 = .ok (.goto 4, 3) := by decide +kernel
theorem dX12_named_22 : decode cX12_named 22 = .ok (.iconst 0, 1) := by decide +kernel
theorem dX12_named_23 : decode cX12_named 23 = .ok (.istore_n 2, 1) := by decide +kernel
theorem dX12_named_24 : decode cX12_named 24 = .ok (.iload_n 1, 1) := by decide +kernel
theorem dX12_named_25 : decode cX12_named 25 = .ok (.aload_n 0, 1) := by decide +kernel
theorem dX12_named_26 : decode cX12_named 26 = .ok (.getfield 81, 3) := by decide +kernel
theorem dX12_named_29 : decode cX12_named 29 = .ok (.ifCond .ne 8, 3) := by decide +kernel
theorem dX12_named_32 : decode cX12_named 32 = .ok (.bipush 107, 2) := by decide +kernel
theorem dX12_named_34 : decode cX12_named 34 = .ok (.goto 5, 3) := by decide +kernel
theorem dX12_named_37 : decode cX12_named 37 = .ok (.bipush 103, 2) := by decide +kernel
theorem dX12_named_39 : decode cX12_named 39 = .ok (.if_icmp .ne 7, 3) := by decide +kernel
theorem dX12_named_42 : decode cX12_named 42 = .ok (.iconst 1, 1) := by decide +kernel
theorem dX12_named_43 : decode cX12_named 43 = .ok (.goto 4, 3) := by decide +kernel
theorem dX12_named_46 : decode cX12_named 46 = .ok (.iconst 0, 1) := by decide +kernel
theorem dX12_named_47 : decode cX12_named 47 = .ok (.istore_n 3, 1) := by decide +kernel
theorem dX12_named_48 : decode cX12_named 48 = .ok (.iload_n 1, 1) := by decide +kernel
theorem dX12_named_49 : decode cX12_named 49 = .ok (.aload_n 0, 1) := by decide +kernel
theorem dX12_named_50 : decode cX12_named 50 = .ok (.getfield 81, 3) := by decide +kernel
theorem dX12_named_53 : decode cX12_named 53 = .ok (.ifCond .ne 8, 3) := by decide +kernel
theorem dX12_named_56 : decode cX12_named 56 = .ok (.bipush 115, 2) := by decide +kernel
theorem dX12_named_58 : decode cX12_named 58 = .ok (.goto 5, 3) := by decide +kernel
theorem dX12_named_61 : decode cX12_named 61 = .ok (.bipush 119, 2) := by decide +kernel
theorem dX12_named_63 : decode cX12_named 63 = .ok (.if_icmp .ne 7, 3) := by decide +kernel
theorem dX12_named_66 : decode cX12_named 66 = .ok (.iconst 1, 1) := by decide +kernel
theorem dX12_named_67 : decode cX12_named 67 = .ok (.goto 4, 3) := by decide +kernel
theorem dX12_named_70 : decode cX12_named 70 = .ok (.iconst 0, 1) := by decide +kernel
theorem dX12_named_71 : decode cX12_named 71 = .ok (.istore 4, 2) := by decide +kernel
theorem dX12_named_73 : decode cX12_named 73 = .ok (.iload_n 2, 1) := by decide +kernel
theorem dX12_named_74 : decode cX12_named 74 = .ok (.ifCond .ne 17, 3) := by decide +kernel
theorem dX12_named_77 : decode cX12_named 77 = .ok (.iload_n 3, 1) := by decide +kernel
theorem dX12_named_78 : decode cX12_named 78 = .ok (.ifCond .ne 13, 3) := by decide +kernel
theorem dX12_named_81 : decode cX12_named 81 = .ok (.iload 4, 2) := by decide +kernel
theorem dX12_named_83 : decode cX12_named 83 = .ok (.ifCond .ne 8, 3) := by decide +kernel
theorem dX12_named_86 : decode cX12_named 86 = .ok (.aload_n 0, 1) := by decide +kernel
theorem dX12_named_87 : decode cX12_named 87 = .ok (.invokevirtual 97, 3) := by decide +kernel
theorem dX12_named_90 : decode cX12_named 90 = .ok (.ireturn, 1) := by decide +kernel
theorem dX12_named_91 : decode cX12_named 91 = .ok (.aload_n 0, 1) := by decide +kernel
theorem dX12_named_92 : decode cX12_named 92 = .ok (.dup, 1) := by decide +kernel
theorem dX12_named_93 : decode cX12_named 93 = .ok (.getfield 88, 3) := by decide +kernel
theorem dX12_named_96 : decode cX12_named 96 = .ok (.iconst 1, 1) := by decide +kernel
theorem dX12_named_97 : decode cX12_named 97 = .ok (.iadd, 1) := by decide +kernel
theorem dX12_named_98 : decode cX12_named 98 = .ok (.putfield 88, 3) := by decide +kernel
theorem dX12_named_101 : decode cX12_named 101 = .ok (.iload_n 2, 1) := by decide +kernel
theorem dX12_named_102 : decode cX12_named 102 = .ok (.ifCond .eq 10, 3) := by decide +kernel
theorem dX12_named_105 : decode cX12_named 105 = .ok (.aload_n 0, 1) := by decide +kernel
theorem dX12_named_106 : decode cX12_named 106 = .ok (.getfield 101, 3) := by decide +kernel
theorem dX12_named_109 : decode cX12_named 109 = .ok (.goto 18, 3) := by decide +kernel
theorem dX12_named_112 : decode cX12_named 112 = .ok (.iload_n 3, 1) := by decide +kernel
theorem dX12_named_113 : decode cX12_named 113 = .ok (.ifCond .eq 10, 3) := by decide +kernel
theorem dX12_named_116 : decode cX12_named 116 = .ok (.aload_n 0, 1) := by decide +kernel
theorem dX12_named_117 : decode cX12_named 117 = .ok (.getfield 104, 3) := by decide +kernel
theorem dX12_named_120 : decode cX12_named 120 = .ok (.goto 7, 3) := by decide +kernel
theorem dX12_named_123 : decode cX12_named 123 = .ok (.aload_n 0, 1) := by decide +kernel
theorem dX12_named_124 : decode cX12_named 124 = .ok (.getfield 107, 3) := by decide +kernel
theorem dX12_named_127 : decode cX12_named 127 = .ok (.ireturn, 1) := by decide +kernel
theorem dX12_factor_0 : decode cX12_factor 0 = .ok (.aload_n 0, 1) := by decide +kernel
theorem dX12_factor_1 : decode cX12_factor 1 = .ok (.aload_n 0, 1) := by decide +kernel
theorem dX12_factor_2 : decode cX12_factor 2 = .ok (.getfield 88, 3) := by decide +kernel
theorem dX12_factor_5 : decode cX12_factor 5 = .ok (.invokevirtual 91, 3) := by decide +kernel
theorem dX12_factor_8 : decode cX12_factor 8 = .ok (.istore_n 1, 1) := by decide +kernel
theorem dX12_factor_9 : decode cX12_factor 9 = .ok (.iload_n 1, 1) := by decide +kernel
theorem dX12_factor_10 : decode cX12_factor 10 = .ok (.invokestatic 94, 3) := by decide +kernel
theorem dX12_factor_13 : decode cX12_factor 13 = .ok (.ifCond .eq 8, 3) := by decide +kernel
theorem dX12_factor_16 : decode cX12_factor 16 = .ok (.aload_n 0, 1) := by decide +kernel
theorem dX12_factor_17 : decode cX12_factor 17 = .ok (.invokevirtual 110, 3) := by decide +kernel
theorem dX12_factor_20 : decode cX12_factor 20 = .ok (.ireturn, 1) := by decide +kernel
theorem dX12_factor_21 : decode cX12_factor 21 = .ok (.iload_n 1, 1) := by decide +kernel
theorem dX12_factor_22 : decode cX12_factor 22 = .ok (.bipush 33, 2) := by decide +kernel
theorem dX12_factor_24 : decode cX12_factor 24 = .ok (.if_icmp .eq 15, 3) := by decide +kernel
theorem dX12_factor_27 : decode cX12_factor 27 = .ok (.iload_n 1, 1) := by decide +kernel
theorem dX12_factor_28 : decode cX12_factor 28 = .ok (.bipush 40, 2) := by decide +kernel
theorem dX12_factor_30 : decode cX12_factor 30 = .ok (.if_icmp .eq 9, 3) := by decide +kernel
theorem dX12_factor_33 : decode cX12_factor 33 = .ok (.aload_n 0, 1) := by decide +kernel
theorem dX12_factor_34 : decode cX12_factor 34 = .ok (.iload_n 1, 1) := by decide +kernel
theorem dX12_factor_35 : decode cX12_factor 35 = .ok (.invokevirtual 113, 3) := by decide +kernel
theorem dX12_factor_38 : decode cX12_factor 38 = .ok (.ireturn, 1) := by decide +kernel
theorem dX12_factor_39 : decode cX12_factor 39 = .ok (.aload_n 0, 1) := by decide +kernel
theorem dX12_factor_40 : decode cX12_factor 40 = .ok (.getfield 116, 3) := by decide +kernel
theorem dX12_factor_43 : decode cX12_factor 43 = .ok (.iconst 5, 1) := by decide +kernel
theorem dX12_factor_44 : decode cX12_factor 44 = .ok (.if_icmp .ne 8, 3) := by decide +kernel
theorem dX12_factor_47 : decode cX12_factor 47 = .ok (.aload_n 0, 1) := by decide +kernel
theorem dX12_factor_48 : decode cX12_factor 48 = .ok (.invokevirtual 97, 3) := by decide +kernel
theorem dX12_factor_51 : decode cX12_factor 51 = .ok (.ireturn, 1) := by decide +kernel
theorem dX12_factor_52 : decode cX12_factor 52 = .ok (.aload_n 0, 1) := by decide +kernel
theorem dX12_factor_53 : decode cX12_factor 53 = .ok (.dup, 1) := by decide +kernel
theorem dX12_factor_54 : decode cX12_factor 54 = .ok (.getfield 116, 3) := by decide +kernel
theorem dX12_factor_57 : decode cX12_factor 57 = .ok (.iconst 1, 1) := by decide +kernel
theorem dX12_factor_58 : decode cX12_factor 58 = .ok (.iadd, 1) := by decide +kernel
theorem dX12_factor_59 : decode cX12_factor 59 = .ok (.putfield 116, 3) := by decide +kernel
theorem dX12_factor_62 : decode cX12_factor 62 = .ok (.aload_n 0, 1) := by decide +kernel
theorem dX12_factor_63 : decode cX12_factor 63 = .ok (.dup, 1) := by decide +kernel
theorem dX12_factor_64 : decode cX12_factor 64 = .ok (.getfield 88, 3) := by decide +kernel
theorem dX12_factor_67 : decode cX12_factor 67 = .ok (.iconst 1, 1) := by decide +kernel
theorem dX12_factor_68 : decode cX12_factor 68 = .ok (.iadd, 1) := by decide +kernel
theorem dX12_factor_69 : decode cX12_factor 69 = .ok (.putfield 88, 3) := by decide +kernel
theorem dX12_factor_72 : decode cX12_factor 72 = .ok (.iload_n 1, 1) := by decide +kernel
theorem dX12_factor_73 : decode cX12_factor 73 = .ok (.bipush 33, 2) := by decide +kernel
theorem dX12_factor_75 : decode cX12_factor 75 = .ok (.if_icmp .ne 10, 3) := by decide +kernel
theorem dX12_factor_78 : decode cX12_factor 78 = .ok (.aload_n 0, 1) := by decide +kernel
theorem dX12_factor_79 : decode cX12_factor 79 = .ok (.invokevirtual 119, 3) := by decide +kernel
theorem dX12_factor_82 : decode cX12_factor 82 = .ok (.goto 7, 3) := by decide +kernel
theorem dX12_factor_85 : decode cX12_factor 85 = .ok (.aload_n 0, 1) := by decide +kernel
theorem dX12_factor_86 : decode cX12_factor 86 = .ok (.invokevirtual 122, 3) := by decide +kernel
theorem dX12_factor_89 : decode cX12_factor 89 = .ok (.istore_n 2, 1) := by decide +kernel
theorem dX12_factor_90 : decode cX12_factor 90 = .ok (.aload_n 0, 1) := by decide +kernel
theorem dX12_factor_91 : decode cX12_factor 91 = .ok (.dup, 1) := by decide +kernel
theorem dX12_factor_92 : decode cX12_factor 92 = .ok (.getfield 116, 3) := by decide +kernel
theorem dX12_factor_95 : decode cX12_factor 95 = .ok (.iconst 1, 1) := by decide +kernel
theorem dX12_factor_96 : decode cX12_factor 96 = .ok (.isub, 1) := by decide +kernel
theorem dX12_factor_97 : decode cX12_factor 97 = .ok (.putfield 116, 3) := by decide +kernel
theorem dX12_factor_100 : decode cX12_factor 100 = .ok (.iload_n 1, 1) := by decide +kernel
theorem dX12_factor_101 : decode cX12_factor 101 = .ok (.bipush 33, 2) := by decide +kernel
theorem dX12_factor_103 : decode cX12_factor 103 = .ok (.if_icmp .ne 13, 3) := by decide +kernel
theorem dX12_factor_106 : decode cX12_factor 106 = .ok (.iload_n 2, 1) := by decide +kernel
theorem dX12_factor_107 : decode cX12_factor 107 = .ok (.ifCond .ne 7, 3) := by decide +kernel
theorem dX12_factor_110 : decode cX12_factor 110 = .ok (.iconst 1, 1) := by decide +kernel
theorem dX12_factor_111 : decode cX12_factor 111 = .ok (.goto 4, 3) := by decide +kernel
theorem dX12_factor_114 : decode cX12_factor 114 = .ok (.iconst 0, 1) := by decide +kernel
theorem dX12_factor_115 : decode cX12_factor 115 = .ok (.ireturn, 1) := by decide +kernel
theorem dX12_factor_116 : decode cX12_factor 116 = .ok (.aload_n 0, 1) := by decide +kernel
theorem dX12_factor_117 : decode cX12_factor 117 = .ok (.getfield 84, 3) := by decide +kernel
theorem dX12_factor_120 : decode cX12_factor 120 = .ok (.ifCond .eq 28, 3) := by decide +kernel
theorem dX12_factor_123 : decode cX12_factor 123 = .ok (.aload_n 0, 1) := by decide +kernel
theorem dX12_factor_124 : decode cX12_factor 124 = .ok (.aload_n 0, 1) := by decide +kernel
theorem dX12_factor_125 : decode cX12_factor 125 = .ok (.getfield 88, 3) := by decide +kernel
theorem dX12_factor_128 : decode cX12_factor 128 = .ok (.invokevirtual 91, 3) := by decide +kernel
theorem dX12_factor_131 : decode cX12_factor 131 = .ok (.bipush 41, 2) := by decide +kernel
theorem dX12_factor_133 : decode cX12_factor 133 = .ok (.if_icmp .ne 15, 3) := by decide +kernel
theorem dX12_factor_136 : decode cX12_factor 136 = .ok (.aload_n 0, 1) := by decide +kernel
theorem dX12_factor_137 : decode cX12_factor 137 = .ok (.dup, 1) := by decide +kernel
theorem dX12_factor_138 : decode cX12_factor 138 = .ok (.getfield 88, 3) := by decide +kernel
theorem dX12_factor_141 : decode cX12_factor 141 = .ok (.iconst 1, 1) := by decide +kernel
theorem dX12_factor_142 : decode cX12_factor 142 = .ok (.iadd, 1) := by decide +kernel
theorem dX12_factor_143 : decode cX12_factor 143 = .ok (.putfield 88, 3) := by decide +kernel
theorem dX12_factor_146 : decode cX12_factor 146 = .ok (.iload_n 2, 1) := by decide +kernel
theorem dX12_factor_147 : decode cX12_factor 147 = .ok (.ireturn, 1) := by decide +kernel
theorem dX12_factor_148 : decode cX12_factor 148 = .ok (.aload_n 0, 1) := by decide +kernel
theorem dX12_factor_149 : decode cX12_factor 149 = .ok (.invokevirtual 97, 3) := by decide +kernel
theorem dX12_factor_152 : decode cX12_factor 152 = .ok (.ireturn, 1) := by decide +kernel
theorem dX12_product_0 : decode cX12_product 0 = .ok (.aload_n 0, 1) := by decide +kernel
theorem dX12_product_1 : decode cX12_product 1 = .ok (.invokevirtual 119, 3) := by decide +kernel
theorem dX12_product_4 : decode cX12_product 4 = .ok (.istore_n 1, 1) := by decide +kernel
theorem dX12_product_5 : decode cX12_product 5 = .ok (.aload_n 0, 1) := by decide +kernel
theorem dX12_product_6 : decode cX12_product 6 = .ok (.getfield 84, 3) := by decide +kernel
theorem dX12_product_9 : decode cX12_product 9 = .ok (.ifCond .eq 105, 3) := by decide +kernel
theorem dX12_product_12 : decode cX12_product 12 = .ok (.aload_n 0, 1) := by decide +kernel
theorem dX12_product_13 : decode cX12_product 13 = .ok (.aload_n 0, 1) := by decide +kernel
theorem dX12_product_14 : decode cX12_product 14 = .ok (.getfield 88, 3) := by decide +kernel
theorem dX12_product_17 : decode cX12_product 17 = .ok (.invokevirtual 91, 3) := by decide +kernel
theorem dX12_product_20 : decode cX12_product 20 = .ok (.bipush 42, 2) := by decide +kernel
theorem dX12_product_22 : decode cX12_product 22 = .ok (.if_icmp .eq 29, 3) := by decide +kernel
theorem dX12_product_25 : decode cX12_product 25 = .ok (.aload_n 0, 1) := by decide +kernel
theorem dX12_product_26 : decode cX12_product 26 = .ok (.aload_n 0, 1) := by decide +kernel
theorem dX12_product_27 : decode cX12_product 27 = .ok (.getfield 88, 3) := by decide +kernel
theorem dX12_product_30 : decode cX12_product 30 = .ok (.invokevirtual 91, 3) := by decide +kernel
theorem dX12_product_33 : decode cX12_product 33 = .ok (.bipush 47, 2) := by decide +kernel
theorem dX12_product_35 : decode cX12_product 35 = .ok (.if_icmp .eq 16, 3) := by decide +kernel
theorem dX12_product_38 : decode cX12_product 38 = .ok (.aload_n 0, 1) := by decide +kernel
theorem dX12_product_39 : decode cX12_product 39 = .ok (.aload_n 0, 1) := by decide +kernel
theorem dX12_product_40 : decode cX12_product 40 = .ok (.getfield 88, 3) := by decide +kernel
theorem dX12_product_43 : decode cX12_product 43 = .ok (.invokevirtual 91, 3) := by decide +kernel
theorem dX12_product_46 : decode cX12_product 46 = .ok (.bipush 37, 2) := by decide +kernel
theorem dX12_product_48 : decode cX12_product 48 = .ok (.if_icmp .ne 66, 3) := by decide +kernel
theorem dX12_product_51 : decode cX12_product 51 = .ok (.aload_n 0, 1) := by decide +kernel
theorem dX12_product_52 : decode cX12_product 52 = .ok (.aload_n 0, 1) := by decide +kernel
theorem dX12_product_53 : decode cX12_product 53 = .ok (.getfield 88, 3) := by decide +kernel
theorem dX12_product_56 : decode cX12_product 56 = .ok (.invokevirtual 91, 3) := by decide +kernel
theorem dX12_product_59 : decode cX12_product 59 = .ok (.istore_n 2, 1) := by decide +kernel
theorem dX12_product_60 : decode cX12_product 60 = .ok (.aload_n 0, 1) := by decide +kernel
theorem dX12_product_61 : decode cX12_product 61 = .ok (.dup, 1) := by decide +kernel
theorem dX12_product_62 : decode cX12_product 62 = .ok (.getfield 88, 3) := by decide +kernel
theorem dX12_product_65 : decode cX12_product 65 = .ok (.iconst 1, 1) := by decide +kernel
theorem dX12_product_66 : decode cX12_product 66 = .ok (.iadd, 1) := by decide +kernel
theorem dX12_product_67 : decode cX12_product 67 = .ok (.putfield 88, 3) := by decide +kernel
theorem dX12_product_70 : decode cX12_product 70 = .ok (.aload_n 0, 1) := by decide +kernel
theorem dX12_product_71 : decode cX12_product 71 = .ok (.invokevirtual 119, 3) := by decide +kernel
theorem dX12_product_74 : decode cX12_product 74 = .ok (.istore_n 3, 1) := by decide +kernel
theorem dX12_product_75 : decode cX12_product 75 = .ok (.iload_n 2, 1) := by decide +kernel
theorem dX12_product_76 : decode cX12_product 76 = .ok (.bipush 42, 2) := by decide +kernel
theorem dX12_product_78 : decode cX12_product 78 = .ok (.if_icmp .ne 9, 3) := by decide +kernel
theorem dX12_product_81 : decode cX12_product 81 = .ok (.iload_n 1, 1) := by decide +kernel
theorem dX12_product_82 : decode cX12_product 82 = .ok (.iload_n 3, 1) := by decide +kernel
theorem dX12_product_83 : decode cX12_product 83 = .ok (.imul, 1) := by decide +kernel
theorem dX12_product_84 : decode cX12_product 84 = .ok (.goto 26, 3) := by decide +kernel
theorem dX12_product_87 : decode cX12_product 87 = .ok (.iload_n 3, 1) := by decide +kernel
theorem dX12_product_88 : decode cX12_product 88 = .ok (.ifCond .ne 7, 3) := by decide +kernel
theorem dX12_product_91 : decode cX12_product 91 = .ok (.iconst 0, 1) := by decide +kernel
theorem dX12_product_92 : decode cX12_product 92 = .ok (.goto 18, 3) := by decide +kernel
theorem dX12_product_95 : decode cX12_product 95 = .ok (.iload_n 2, 1) := by decide +kernel
theorem dX12_product_96 : decode cX12_product 96 = .ok (.bipush 47, 2) := by decide +kernel
theorem dX12_product_98 : decode cX12_product 98 = .ok (.if_icmp .ne 9, 3) := by decide +kernel
theorem dX12_product_101 : decode cX12_product 101 = .ok (.iload_n 1, 1) := by decide +kernel
theorem dX12_product_102 : decode cX12_product 102 = .ok (.iload_n 3, 1) := by decide +kernel
theorem dX12_product_103 : decode cX12_product 103 = .ok (.idiv, 1) := by decide +kernel
theorem dX12_product_104 : decode cX12_product 104 = .ok (.goto 6, 3) := by decide +kernel
theorem dX12_product_107 : decode cX12_product 107 = .ok (.iload_n 1, 1) := by decide +kernel
theorem dX12_product_108 : decode cX12_product 108 = .ok (.iload_n 3, 1) := by decide +kernel
theorem dX12_product_109 : decode cX12_product 109 = .ok (.irem, 1) := by decide +kernel
theorem dX12_product_110 : decode cX12_product 110 = .ok (.istore_n 1, 1) := by decide +kernel
theorem dX12_product_111 : decode cX12_product 111 = .ok (.goto (-106), 3) := by decide +kernel
theorem dX12_product_114 : decode cX12_product 114 = .ok (.iload_n 1, 1) := by decide +kernel
theorem dX12_product_115 : decode cX12_product 115 = .ok (.ireturn, 1) := by decide +kernel
theorem dX12_sum_0 : decode cX12_sum 0 = .ok (.aload_n 0, 1) := by decide +kernel
theorem dX12_sum_1 : decode cX12_sum 1 = .ok (.invokevirtual 125, 3) := by decide +kernel
theorem dX12_sum_4 : decode cX12_sum 4 = .ok (.istore_n 1, 1) := by decide +kernel
theorem dX12_sum_5 : decode cX12_sum 5 = .ok (.aload_n 0, 1) := by decide +kernel
theorem dX12_sum_6 : decode cX12_sum 6 = .ok (.getfield 84, 3) := by decide +kernel
theorem dX12_sum_9 : decode cX12_sum 9 = .ok (.ifCond .eq 72, 3) := by decide +kernel
theorem dX12_sum_12 : decode cX12_sum 12 = .ok (.aload_n 0, 1) := by decide +kernel
theorem dX12_sum_13 : decode cX12_sum 13 = .ok (.aload_n 0, 1) := by decide +kernel
theorem dX12_sum_14 : decode cX12_sum 14 = .ok (.getfield 88, 3) := by decide +kernel
theorem dX12_sum_17 : decode cX12_sum 17 = .ok (.invokevirtual 91, 3) := by decide +kernel
theorem dX12_sum_20 : decode cX12_sum 20 = .ok (.bipush 43, 2) := by decide +kernel
theorem dX12_sum_22 : decode cX12_sum 22 = .ok (.if_icmp .eq 16, 3) := by decide +kernel
theorem dX12_sum_25 : decode cX12_sum 25 = .ok (.aload_n 0, 1) := by decide +kernel
theorem dX12_sum_26 : decode cX12_sum 26 = .ok (.aload_n 0, 1) := by decide +kernel
theorem dX12_sum_27 : decode cX12_sum 27 = .ok (.getfield 88, 3) := by decide +kernel
theorem dX12_sum_30 : decode cX12_sum 30 = .ok (.invokevirtual 91, 3) := by decide +kernel
theorem dX12_sum_33 : decode cX12_sum 33 = .ok (.bipush 45, 2) := by decide +kernel
theorem dX12_sum_35 : decode cX12_sum 35 = .ok (.if_icmp .ne 46, 3) := by decide +kernel
theorem dX12_sum_38 : decode cX12_sum 38 = .ok (.aload_n 0, 1) := by decide +kernel
theorem dX12_sum_39 : decode cX12_sum 39 = .ok (.aload_n 0, 1) := by decide +kernel
theorem dX12_sum_40 : decode cX12_sum 40 = .ok (.getfield 88, 3) := by decide +kernel
theorem dX12_sum_43 : decode cX12_sum 43 = .ok (.invokevirtual 91, 3) := by decide +kernel
theorem dX12_sum_46 : decode cX12_sum 46 = .ok (.istore_n 2, 1) := by decide +kernel
theorem dX12_sum_47 : decode cX12_sum 47 = .ok (.aload_n 0, 1) := by decide +kernel
theorem dX12_sum_48 : decode cX12_sum 48 = .ok (.dup, 1) := by decide +kernel
theorem dX12_sum_49 : decode cX12_sum 49 = .ok (.getfield 88, 3) := by decide +kernel
theorem dX12_sum_52 : decode cX12_sum 52 = .ok (.iconst 1, 1) := by decide +kernel
theorem dX12_sum_53 : decode cX12_sum 53 = .ok (.iadd, 1) := by decide +kernel
theorem dX12_sum_54 : decode cX12_sum 54 = .ok (.putfield 88, 3) := by decide +kernel
theorem dX12_sum_57 : decode cX12_sum 57 = .ok (.aload_n 0, 1) := by decide +kernel
theorem dX12_sum_58 : decode cX12_sum 58 = .ok (.invokevirtual 125, 3) := by decide +kernel
theorem dX12_sum_61 : decode cX12_sum 61 = .ok (.istore_n 3, 1) := by decide +kernel
theorem dX12_sum_62 : decode cX12_sum 62 = .ok (.iload_n 2, 1) := by decide +kernel
theorem dX12_sum_63 : decode cX12_sum 63 = .ok (.bipush 43, 2) := by decide +kernel
theorem dX12_sum_65 : decode cX12_sum 65 = .ok (.if_icmp .ne 9, 3) := by decide +kernel
theorem dX12_sum_68 : decode cX12_sum 68 = .ok (.iload_n 1, 1) := by decide +kernel
theorem dX12_sum_69 : decode cX12_sum 69 = .ok (.iload_n 3, 1) := by decide +kernel
theorem dX12_sum_70 : decode cX12_sum 70 = .ok (.iadd, 1) := by decide +kernel
theorem dX12_sum_71 : decode cX12_sum 71 = .ok (.goto 6, 3) := by decide +kernel
theorem dX12_sum_74 : decode cX12_sum 74 = .ok (.iload_n 1, 1) := by decide +kernel
theorem dX12_sum_75 : decode cX12_sum 75 = .ok (.iload_n 3, 1) := by decide +kernel
theorem dX12_sum_76 : decode cX12_sum 76 = .ok (.isub, 1) := by decide +kernel
theorem dX12_sum_77 : decode cX12_sum 77 = .ok (.istore_n 1, 1) := by decide +kernel
theorem dX12_sum_78 : decode cX12_sum 78 = .ok (.goto (-73), 3) := by decide +kernel
theorem dX12_sum_81 : decode cX12_sum 81 = .ok (.iload_n 1, 1) := by decide +kernel
theorem dX12_sum_82 : decode cX12_sum 82 = .ok (.ireturn, 1) := by decide +kernel
theorem dX12_compared_0 : decode cX12_compared 0 = .ok (.aload_n 0, 1) := by decide +kernel
theorem dX12_compared_1 : decode cX12_compared 1 = .ok (.invokevirtual 128, 3) := by decide +kernel
theorem dX12_compared_4 : decode cX12_compared 4 = .ok (.istore_n 1, 1) := by decide +kernel
theorem dX12_compared_5 : decode cX12_compared 5 = .ok (.aload_n 0, 1) := by decide +kernel
theorem dX12_compared_6 : decode cX12_compared 6 = .ok (.getfield 84, 3) := by decide +kernel
theorem dX12_compared_9 : decode cX12_compared 9 = .ok (.ifCond .eq 14, 3) := by decide +kernel
theorem dX12_compared_12 : decode cX12_compared 12 = .ok (.aload_n 0, 1) := by decide +kernel
theorem dX12_compared_13 : decode cX12_compared 13 = .ok (.aload_n 0, 1) := by decide +kernel
theorem dX12_compared_14 : decode cX12_compared 14 = .ok (.getfield 88, 3) := by decide +kernel
theorem dX12_compared_17 : decode cX12_compared 17 = .ok (.invokevirtual 91, 3) := by decide +kernel
theorem dX12_compared_20 : decode cX12_compared 20 = .ok (.goto 4, 3) := by decide +kernel
theorem dX12_compared_23 : decode cX12_compared 23 = .ok (.iconst (-1), 1) := by decide +kernel
theorem dX12_compared_24 : decode cX12_compared 24 = .ok (.istore_n 2, 1) := by decide +kernel
theorem dX12_compared_25 : decode cX12_compared 25 = .ok (.iload_n 2, 1) := by decide +kernel
theorem dX12_compared_26 : decode cX12_compared 26 = .ok (.bipush 60, 2) := by decide +kernel
theorem dX12_compared_28 : decode cX12_compared 28 = .ok (.if_icmp .eq 17, 3) := by decide +kernel
theorem dX12_compared_31 : decode cX12_compared 31 = .ok (.iload_n 2, 1) := by decide +kernel
theorem dX12_compared_32 : decode cX12_compared 32 = .ok (.bipush 61, 2) := by decide +kernel
theorem dX12_compared_34 : decode cX12_compared 34 = .ok (.if_icmp .eq 11, 3) := by decide +kernel
theorem dX12_compared_37 : decode cX12_compared 37 = .ok (.iload_n 2, 1) := by decide +kernel
theorem dX12_compared_38 : decode cX12_compared 38 = .ok (.bipush 62, 2) := by decide +kernel
theorem dX12_compared_40 : decode cX12_compared 40 = .ok (.if_icmp .eq 5, 3) := by decide +kernel
theorem dX12_compared_43 : decode cX12_compared 43 = .ok (.iload_n 1, 1) := by decide +kernel
theorem dX12_compared_44 : decode cX12_compared 44 = .ok (.ireturn, 1) := by decide +kernel
theorem dX12_compared_45 : decode cX12_compared 45 = .ok (.aload_n 0, 1) := by decide +kernel
theorem dX12_compared_46 : decode cX12_compared 46 = .ok (.dup, 1) := by decide +kernel
theorem dX12_compared_47 : decode cX12_compared 47 = .ok (.getfield 88, 3) := by decide +kernel
theorem dX12_compared_50 : decode cX12_compared 50 = .ok (.iconst 1, 1) := by decide +kernel
theorem dX12_compared_51 : decode cX12_compared 51 = .ok (.iadd, 1) := by decide +kernel
theorem dX12_compared_52 : decode cX12_compared 52 = .ok (.putfield 88, 3) := by decide +kernel
theorem dX12_compared_55 : decode cX12_compared 55 = .ok (.aload_n 0, 1) := by decide +kernel
theorem dX12_compared_56 : decode cX12_compared 56 = .ok (.invokevirtual 128, 3) := by decide +kernel
theorem dX12_compared_59 : decode cX12_compared 59 = .ok (.istore_n 3, 1) := by decide +kernel
theorem dX12_compared_60 : decode cX12_compared 60 = .ok (.iload_n 2, 1) := by decide +kernel
theorem dX12_compared_61 : decode cX12_compared 61 = .ok (.bipush 60, 2) := by decide +kernel
theorem dX12_compared_63 : decode cX12_compared 63 = .ok (.if_icmp .ne 16, 3) := by decide +kernel
theorem dX12_compared_66 : decode cX12_compared 66 = .ok (.iload_n 1, 1) := by decide +kernel
theorem dX12_compared_67 : decode cX12_compared 67 = .ok (.iload_n 3, 1) := by decide +kernel
theorem dX12_compared_68 : decode cX12_compared 68 = .ok (.if_icmp .ge 7, 3) := by decide +kernel
theorem dX12_compared_71 : decode cX12_compared 71 = .ok (.iconst 1, 1) := by decide +kernel
theorem dX12_compared_72 : decode cX12_compared 72 = .ok (.goto 36, 3) := by decide +kernel
theorem dX12_compared_75 : decode cX12_compared 75 = .ok (.iconst 0, 1) := by decide +kernel
theorem dX12_compared_76 : decode cX12_compared 76 = .ok (.goto 32, 3) := by decide +kernel
theorem dX12_compared_79 : decode cX12_compared 79 = .ok (.iload_n 2, 1) := by decide +kernel
theorem dX12_compared_80 : decode cX12_compared 80 = .ok (.bipush 61, 2) := by decide +kernel
theorem dX12_compared_82 : decode cX12_compared 82 = .ok (.if_icmp .ne 16, 3) := by decide +kernel
theorem dX12_compared_85 : decode cX12_compared 85 = .ok (.iload_n 1, 1) := by decide +kernel
theorem dX12_compared_86 : decode cX12_compared 86 = .ok (.iload_n 3, 1) := by decide +kernel
theorem dX12_compared_87 : decode cX12_compared 87 = .ok (.if_icmp .ne 7, 3) := by decide +kernel
theorem dX12_compared_90 : decode cX12_compared 90 = .ok (.iconst 1, 1) := by decide +kernel
theorem dX12_compared_91 : decode cX12_compared 91 = .ok (.goto 17, 3) := by decide +kernel
theorem dX12_compared_94 : decode cX12_compared 94 = .ok (.iconst 0, 1) := by decide +kernel
theorem dX12_compared_95 : decode cX12_compared 95 = .ok (.goto 13, 3) := by decide +kernel
theorem dX12_compared_98 : decode cX12_compared 98 = .ok (.iload_n 1, 1) := by decide +kernel
theorem dX12_compared_99 : decode cX12_compared 99 = .ok (.iload_n 3, 1) := by decide +kernel
theorem dX12_compared_100 : decode cX12_compared 100 = .ok (.if_icmp .le 7, 3) := by decide +kernel
theorem dX12_compared_103 : decode cX12_compared 103 = .ok (.iconst 1, 1) := by decide +kernel
theorem dX12_compared_104 : decode cX12_compared 104 = .ok (.goto 4, 3) := by decide +kernel
theorem dX12_compared_107 : decode cX12_compared 107 = .ok (.iconst 0, 1) := by decide +kernel
theorem dX12_compared_108 : decode cX12_compared 108 = .ok (.istore 4, 2) := by decide +kernel
theorem dX12_compared_110 : decode cX12_compared 110 = .ok (.iload 4, 2) := by decide +kernel
theorem dX12_compared_112 : decode cX12_compared 112 = .ok (.ifCond .eq 7, 3) := by decide +kernel
theorem dX12_compared_115 : decode cX12_compared 115 = .ok (.iconst 1, 1) := by decide +kernel
theorem dX12_compared_116 : decode cX12_compared 116 = .ok (.goto 4, 3) := by decide +kernel
theorem dX12_compared_119 : decode cX12_compared 119 = .ok (.iconst 0, 1) := by decide +kernel
theorem dX12_compared_120 : decode cX12_compared 120 = .ok (.ireturn, 1) := by decide +kernel
theorem dX12_both_0 : decode cX12_both 0 = .ok (.aload_n 0, 1) := by decide +kernel
theorem dX12_both_1 : decode cX12_both 1 = .ok (.invokevirtual 131, 3) := by decide +kernel
theorem dX12_both_4 : decode cX12_both 4 = .ok (.istore_n 1, 1) := by decide +kernel
theorem dX12_both_5 : decode cX12_both 5 = .ok (.aload_n 0, 1) := by decide +kernel
theorem dX12_both_6 : decode cX12_both 6 = .ok (.getfield 84, 3) := by decide +kernel
theorem dX12_both_9 : decode cX12_both 9 = .ok (.ifCond .eq 48, 3) := by decide +kernel
theorem dX12_both_12 : decode cX12_both 12 = .ok (.aload_n 0, 1) := by decide +kernel
theorem dX12_both_13 : decode cX12_both 13 = .ok (.aload_n 0, 1) := by decide +kernel
theorem dX12_both_14 : decode cX12_both 14 = .ok (.getfield 88, 3) := by decide +kernel
theorem dX12_both_17 : decode cX12_both 17 = .ok (.invokevirtual 91, 3) := by decide +kernel
theorem dX12_both_20 : decode cX12_both 20 = .ok (.bipush 38, 2) := by decide +kernel
theorem dX12_both_22 : decode cX12_both 22 = .ok (.if_icmp .ne 35, 3) := by decide +kernel
theorem dX12_both_25 : decode cX12_both 25 = .ok (.aload_n 0, 1) := by decide +kernel
theorem dX12_both_26 : decode cX12_both 26 = .ok (.dup, 1) := by decide +kernel
theorem dX12_both_27 : decode cX12_both 27 = .ok (.getfield 88, 3) := by decide +kernel
theorem dX12_both_30 : decode cX12_both 30 = .ok (.iconst 1, 1) := by decide +kernel
theorem dX12_both_31 : decode cX12_both 31 = .ok (.iadd, 1) := by decide +kernel
theorem dX12_both_32 : decode cX12_both 32 = .ok (.putfield 88, 3) := by decide +kernel
theorem dX12_both_35 : decode cX12_both 35 = .ok (.aload_n 0, 1) := by decide +kernel
theorem dX12_both_36 : decode cX12_both 36 = .ok (.invokevirtual 131, 3) := by decide +kernel
theorem dX12_both_39 : decode cX12_both 39 = .ok (.istore_n 2, 1) := by decide +kernel
theorem dX12_both_40 : decode cX12_both 40 = .ok (.iload_n 1, 1) := by decide +kernel
theorem dX12_both_41 : decode cX12_both 41 = .ok (.ifCond .eq 11, 3) := by decide +kernel
theorem dX12_both_44 : decode cX12_both 44 = .ok (.iload_n 2, 1) := by decide +kernel
theorem dX12_both_45 : decode cX12_both 45 = .ok (.ifCond .eq 7, 3) := by decide +kernel
theorem dX12_both_48 : decode cX12_both 48 = .ok (.iconst 1, 1) := by decide +kernel
theorem dX12_both_49 : decode cX12_both 49 = .ok (.goto 4, 3) := by decide +kernel
theorem dX12_both_52 : decode cX12_both 52 = .ok (.iconst 0, 1) := by decide +kernel
theorem dX12_both_53 : decode cX12_both 53 = .ok (.istore_n 1, 1) := by decide +kernel
theorem dX12_both_54 : decode cX12_both 54 = .ok (.goto (-49), 3) := by decide +kernel
theorem dX12_both_57 : decode cX12_both 57 = .ok (.iload_n 1, 1) := by decide +kernel
theorem dX12_both_58 : decode cX12_both 58 = .ok (.ireturn, 1) := by decide +kernel
theorem dX12_whole_0 : decode cX12_whole 0 = .ok (.aload_n 0, 1) := by decide +kernel
theorem dX12_whole_1 : decode cX12_whole 1 = .ok (.invokevirtual 134, 3) := by decide +kernel
theorem dX12_whole_4 : decode cX12_whole 4 = .ok (.istore_n 1, 1) := by decide +kernel
theorem dX12_whole_5 : decode cX12_whole 5 = .ok (.aload_n 0, 1) := by decide +kernel
theorem dX12_whole_6 : decode cX12_whole 6 = .ok (.getfield 84, 3) := by decide +kernel
theorem dX12_whole_9 : decode cX12_whole 9 = .ok (.ifCond .eq 48, 3) := by decide +kernel
theorem dX12_whole_12 : decode cX12_whole 12 = .ok (.aload_n 0, 1) := by decide +kernel
theorem dX12_whole_13 : decode cX12_whole 13 = .ok (.aload_n 0, 1) := by decide +kernel
theorem dX12_whole_14 : decode cX12_whole 14 = .ok (.getfield 88, 3) := by decide +kernel
theorem dX12_whole_17 : decode cX12_whole 17 = .ok (.invokevirtual 91, 3) := by decide +kernel
theorem dX12_whole_20 : decode cX12_whole 20 = .ok (.bipush 124, 2) := by decide +kernel
theorem dX12_whole_22 : decode cX12_whole 22 = .ok (.if_icmp .ne 35, 3) := by decide +kernel
theorem dX12_whole_25 : decode cX12_whole 25 = .ok (.aload_n 0, 1) := by decide +kernel
theorem dX12_whole_26 : decode cX12_whole 26 = .ok (.dup, 1) := by decide +kernel
theorem dX12_whole_27 : decode cX12_whole 27 = .ok (.getfield 88, 3) := by decide +kernel
theorem dX12_whole_30 : decode cX12_whole 30 = .ok (.iconst 1, 1) := by decide +kernel
theorem dX12_whole_31 : decode cX12_whole 31 = .ok (.iadd, 1) := by decide +kernel
theorem dX12_whole_32 : decode cX12_whole 32 = .ok (.putfield 88, 3) := by decide +kernel
theorem dX12_whole_35 : decode cX12_whole 35 = .ok (.aload_n 0, 1) := by decide +kernel
theorem dX12_whole_36 : decode cX12_whole 36 = .ok (.invokevirtual 134, 3) := by decide +kernel
theorem dX12_whole_39 : decode cX12_whole 39 = .ok (.istore_n 2, 1) := by decide +kernel
theorem dX12_whole_40 : decode cX12_whole 40 = .ok (.iload_n 1, 1) := by decide +kernel
theorem dX12_whole_41 : decode cX12_whole 41 = .ok (.ifCond .ne 7, 3) := by decide +kernel
theorem dX12_whole_44 : decode cX12_whole 44 = .ok (.iload_n 2, 1) := by decide +kernel
theorem dX12_whole_45 : decode cX12_whole 45 = .ok (.ifCond .eq 7, 3) := by decide +kernel
theorem dX12_whole_48 : decode cX12_whole 48 = .ok (.iconst 1, 1) := by decide +kernel
theorem dX12_whole_49 : decode cX12_whole 49 = .ok (.goto 4, 3) := by decide +kernel
theorem dX12_whole_52 : decode cX12_whole 52 = .ok (.iconst 0, 1) := by decide +kernel
theorem dX12_whole_53 : decode cX12_whole 53 = .ok (.istore_n 1, 1) := by decide +kernel
theorem dX12_whole_54 : decode cX12_whole 54 = .ok (.goto (-49), 3) := by decide +kernel
theorem dX12_whole_57 : decode cX12_whole 57 = .ok (.iload_n 1, 1) := by decide +kernel
theorem dX12_whole_58 : decode cX12_whole 58 = .ok (.ireturn, 1) := by decide +kernel
theorem dX12_walks_0 : decode cX12_walks 0 = .ok (.aload_n 0, 1) := by decide +kernel
theorem dX12_walks_1 : decode cX12_walks 1 = .ok (.iload_n 1, 1) := by decide +kernel
theorem dX12_walks_2 : decode cX12_walks 2 = .ok (.putfield 81, 3) := by decide +kernel
theorem dX12_walks_5 : decode cX12_walks 5 = .ok (.aload_n 0, 1) := by decide +kernel
theorem dX12_walks_6 : decode cX12_walks 6 = .ok (.iconst 0, 1) := by decide +kernel
theorem dX12_walks_7 : decode cX12_walks 7 = .ok (.putfield 88, 3) := by decide +kernel
theorem dX12_walks_10 : decode cX12_walks 10 = .ok (.aload_n 0, 1) := by decide +kernel
theorem dX12_walks_11 : decode cX12_walks 11 = .ok (.aload_n 0, 1) := by decide +kernel
theorem dX12_walks_12 : decode cX12_walks 12 = .ok (.getfield 7, 3) := by decide +kernel
theorem dX12_walks_15 : decode cX12_walks 15 = .ok (.iconst 5, 1) := by decide +kernel
theorem dX12_walks_16 : decode cX12_walks 16 = .ok (.iload_n 1, 1) := by decide +kernel
theorem dX12_walks_17 : decode cX12_walks 17 = .ok (.iadd, 1) := by decide +kernel
theorem dX12_walks_18 : decode cX12_walks 18 = .ok (.iaload, 1) := by decide +kernel
theorem dX12_walks_19 : decode cX12_walks 19 = .ok (.putfield 77, 3) := by decide +kernel
theorem dX12_walks_22 : decode cX12_walks 22 = .ok (.aload_n 0, 1) := by decide +kernel
theorem dX12_walks_23 : decode cX12_walks 23 = .ok (.iconst 0, 1) := by decide +kernel
theorem dX12_walks_24 : decode cX12_walks 24 = .ok (.putfield 116, 3) := by decide +kernel
theorem dX12_walks_27 : decode cX12_walks 27 = .ok (.aload_n 0, 1) := by decide +kernel
theorem dX12_walks_28 : decode cX12_walks 28 = .ok (.iconst 1, 1) := by decide +kernel
theorem dX12_walks_29 : decode cX12_walks 29 = .ok (.putfield 84, 3) := by decide +kernel
theorem dX12_walks_32 : decode cX12_walks 32 = .ok (.aload_n 0, 1) := by decide +kernel
theorem dX12_walks_33 : decode cX12_walks 33 = .ok (.iload_n 2, 1) := by decide +kernel
theorem dX12_walks_34 : decode cX12_walks 34 = .ok (.putfield 101, 3) := by decide +kernel
theorem dX12_walks_37 : decode cX12_walks 37 = .ok (.aload_n 0, 1) := by decide +kernel
theorem dX12_walks_38 : decode cX12_walks 38 = .ok (.iload_n 3, 1) := by decide +kernel
theorem dX12_walks_39 : decode cX12_walks 39 = .ok (.putfield 104, 3) := by decide +kernel
theorem dX12_walks_42 : decode cX12_walks 42 = .ok (.aload_n 0, 1) := by decide +kernel
theorem dX12_walks_43 : decode cX12_walks 43 = .ok (.iload 4, 2) := by decide +kernel
theorem dX12_walks_45 : decode cX12_walks 45 = .ok (.putfield 107, 3) := by decide +kernel
theorem dX12_walks_48 : decode cX12_walks 48 = .ok (.aload_n 0, 1) := by decide +kernel
theorem dX12_walks_49 : decode cX12_walks 49 = .ok (.invokevirtual 122, 3) := by decide +kernel
theorem dX12_walks_52 : decode cX12_walks 52 = .ok (.istore 5, 2) := by decide +kernel
theorem dX12_walks_54 : decode cX12_walks 54 = .ok (.aload_n 0, 1) := by decide +kernel
theorem dX12_walks_55 : decode cX12_walks 55 = .ok (.aload_n 0, 1) := by decide +kernel
theorem dX12_walks_56 : decode cX12_walks 56 = .ok (.getfield 84, 3) := by decide +kernel
theorem dX12_walks_59 : decode cX12_walks 59 = .ok (.ifCond .eq 18, 3) := by decide +kernel
theorem dX12_walks_62 : decode cX12_walks 62 = .ok (.aload_n 0, 1) := by decide +kernel
theorem dX12_walks_63 : decode cX12_walks 63 = .ok (.getfield 88, 3) := by decide +kernel
theorem dX12_walks_66 : decode cX12_walks 66 = .ok (.aload_n 0, 1) := by decide +kernel
theorem dX12_walks_67 : decode cX12_walks 67 = .ok (.getfield 77, 3) := by decide +kernel
theorem dX12_walks_70 : decode cX12_walks 70 = .ok (.if_icmp .ne 7, 3) := by decide +kernel
theorem dX12_walks_73 : decode cX12_walks 73 = .ok (.iconst 1, 1) := by decide +kernel
theorem dX12_walks_74 : decode cX12_walks 74 = .ok (.goto 4, 3) := by decide +kernel
theorem dX12_walks_77 : decode cX12_walks 77 = .ok (.iconst 0, 1) := by decide +kernel
theorem dX12_walks_78 : decode cX12_walks 78 = .ok (.putfield 84, 3) := by decide +kernel
theorem dX12_walks_81 : decode cX12_walks 81 = .ok (.iload 5, 2) := by decide +kernel
theorem dX12_walks_83 : decode cX12_walks 83 = .ok (.ireturn, 1) := by decide +kernel
theorem dX12_lawOf_0 : decode cX12_lawOf 0 = .ok (.iload_n 1, 1) := by decide +kernel
theorem dX12_lawOf_1 : decode cX12_lawOf 1 = .ok (.ifCond .ne 9, 3) := by decide +kernel
theorem dX12_lawOf_4 : decode cX12_lawOf 4 = .ok (.sipush 300, 3) := by decide +kernel
theorem dX12_lawOf_7 : decode cX12_lawOf 7 = .ok (.goto 4, 3) := by decide +kernel
theorem dX12_lawOf_10 : decode cX12_lawOf 10 = .ok (.iconst 1, 1) := by decide +kernel
theorem dX12_lawOf_11 : decode cX12_lawOf 11 = .ok (.istore 5, 2) := by decide +kernel
theorem dX12_lawOf_13 : decode cX12_lawOf 13 = .ok (.aload_n 0, 1) := by decide +kernel
theorem dX12_lawOf_14 : decode cX12_lawOf 14 = .ok (.getfield 7, 3) := by decide +kernel
theorem dX12_lawOf_17 : decode cX12_lawOf 17 = .ok (.iconst 5, 1) := by decide +kernel
theorem dX12_lawOf_18 : decode cX12_lawOf 18 = .ok (.iload_n 1, 1) := by decide +kernel
theorem dX12_lawOf_19 : decode cX12_lawOf 19 = .ok (.iadd, 1) := by decide +kernel
theorem dX12_lawOf_20 : decode cX12_lawOf 20 = .ok (.iaload, 1) := by decide +kernel
theorem dX12_lawOf_21 : decode cX12_lawOf 21 = .ok (.ifCond .lt 19, 3) := by decide +kernel
theorem dX12_lawOf_24 : decode cX12_lawOf 24 = .ok (.aload_n 0, 1) := by decide +kernel
theorem dX12_lawOf_25 : decode cX12_lawOf 25 = .ok (.iload_n 1, 1) := by decide +kernel
theorem dX12_lawOf_26 : decode cX12_lawOf 26 = .ok (.iload_n 2, 1) := by decide +kernel
theorem dX12_lawOf_27 : decode cX12_lawOf 27 = .ok (.iload_n 3, 1) := by decide +kernel
theorem dX12_lawOf_28 : decode cX12_lawOf 28 = .ok (.iload 4, 2) := by decide +kernel
theorem dX12_lawOf_30 : decode cX12_lawOf 30 = .ok (.invokevirtual 137, 3) := by decide +kernel
theorem dX12_lawOf_33 : decode cX12_lawOf 33 = .ok (.iconst 0, 1) := by decide +kernel
theorem dX12_lawOf_34 : decode cX12_lawOf 34 = .ok (.iload 5, 2) := by decide +kernel
theorem dX12_lawOf_36 : decode cX12_lawOf 36 = .ok (.invokestatic 141, 3) := by decide +kernel
theorem dX12_lawOf_39 : decode cX12_lawOf 39 = .ok (.ireturn, 1) := by decide +kernel
theorem dX12_lawOf_40 : decode cX12_lawOf 40 = .ok (.iload_n 1, 1) := by decide +kernel
theorem dX12_lawOf_41 : decode cX12_lawOf 41 = .ok (.ifCond .ne 15, 3) := by decide +kernel
theorem dX12_lawOf_44 : decode cX12_lawOf 44 = .ok (.iconst 3, 1) := by decide +kernel
theorem dX12_lawOf_45 : decode cX12_lawOf 45 = .ok (.iload_n 2, 1) := by decide +kernel
theorem dX12_lawOf_46 : decode cX12_lawOf 46 = .ok (.iadd, 1) := by decide +kernel
theorem dX12_lawOf_47 : decode cX12_lawOf 47 = .ok (.iconst 0, 1) := by decide +kernel
theorem dX12_lawOf_48 : decode cX12_lawOf 48 = .ok (.iload 5, 2) := by decide +kernel
theorem dX12_lawOf_50 : decode cX12_lawOf 50 = .ok (.invokestatic 141, 3) := by decide +kernel
theorem dX12_lawOf_53 : decode cX12_lawOf 53 = .ok (.goto 14, 3) := by decide +kernel
theorem dX12_lawOf_56 : decode cX12_lawOf 56 = .ok (.iload_n 2, 1) := by decide +kernel
theorem dX12_lawOf_57 : decode cX12_lawOf 57 = .ok (.bipush 60, 2) := by decide +kernel
theorem dX12_lawOf_59 : decode cX12_lawOf 59 = .ok (.if_icmp .le 7, 3) := by decide +kernel
theorem dX12_lawOf_62 : decode cX12_lawOf 62 = .ok (.iconst 1, 1) := by decide +kernel
theorem dX12_lawOf_63 : decode cX12_lawOf 63 = .ok (.goto 4, 3) := by decide +kernel
theorem dX12_lawOf_66 : decode cX12_lawOf 66 = .ok (.iconst 0, 1) := by decide +kernel
theorem dX12_lawOf_67 : decode cX12_lawOf 67 = .ok (.ireturn, 1) := by decide +kernel
theorem dX12_law_0 : decode cX12_law 0 = .ok (.iload_n 1, 1) := by decide +kernel
theorem dX12_law_1 : decode cX12_law 1 = .ok (.iconst 0, 1) := by decide +kernel
theorem dX12_law_2 : decode cX12_law 2 = .ok (.iconst 1, 1) := by decide +kernel
theorem dX12_law_3 : decode cX12_law 3 = .ok (.invokestatic 38, 3) := by decide +kernel
theorem dX12_law_6 : decode cX12_law 6 = .ok (.ifCond .eq 15, 3) := by decide +kernel
theorem dX12_law_9 : decode cX12_law 9 = .ok (.aload_n 0, 1) := by decide +kernel
theorem dX12_law_10 : decode cX12_law 10 = .ok (.iload_n 1, 1) := by decide +kernel
theorem dX12_law_11 : decode cX12_law 11 = .ok (.iload_n 2, 1) := by decide +kernel
theorem dX12_law_12 : decode cX12_law 12 = .ok (.iload_n 3, 1) := by decide +kernel
theorem dX12_law_13 : decode cX12_law 13 = .ok (.iload 4, 2) := by decide +kernel
theorem dX12_law_15 : decode cX12_law 15 = .ok (.invokevirtual 145, 3) := by decide +kernel
theorem dX12_law_18 : decode cX12_law 18 = .ok (.goto 9, 3) := by decide +kernel
theorem dX12_law_21 : decode cX12_law 21 = .ok (.aload_n 0, 1) := by decide +kernel
theorem dX12_law_22 : decode cX12_law 22 = .ok (.ldc 50, 2) := by decide +kernel
theorem dX12_law_24 : decode cX12_law 24 = .ok (.invokevirtual 51, 3) := by decide +kernel
theorem dX12_law_27 : decode cX12_law 27 = .ok (.ireturn, 1) := by decide +kernel
theorem dX12_feed_0 : decode cX12_feed 0 = .ok (.iload_n 3, 1) := by decide +kernel
theorem dX12_feed_1 : decode cX12_feed 1 = .ok (.iconst 1, 1) := by decide +kernel
theorem dX12_feed_2 : decode cX12_feed 2 = .ok (.bipush 8, 2) := by decide +kernel
theorem dX12_feed_4 : decode cX12_feed 4 = .ok (.invokestatic 38, 3) := by decide +kernel
theorem dX12_feed_7 : decode cX12_feed 7 = .ok (.ifCond .ne 10, 3) := by decide +kernel
theorem dX12_feed_10 : decode cX12_feed 10 = .ok (.aload_n 0, 1) := by decide +kernel
theorem dX12_feed_11 : decode cX12_feed 11 = .ok (.ldc 50, 2) := by decide +kernel
theorem dX12_feed_13 : decode cX12_feed 13 = .ok (.invokevirtual 51, 3) := by decide +kernel
theorem dX12_feed_16 : decode cX12_feed 16 = .ok (.ireturn, 1) := by decide +kernel
theorem dX12_feed_17 : decode cX12_feed 17 = .ok (.aload_n 0, 1) := by decide +kernel
theorem dX12_feed_18 : decode cX12_feed 18 = .ok (.getfield 7, 3) := by decide +kernel
theorem dX12_feed_21 : decode cX12_feed 21 = .ok (.iconst 3, 1) := by decide +kernel
theorem dX12_feed_22 : decode cX12_feed 22 = .ok (.iaload, 1) := by decide +kernel
theorem dX12_feed_23 : decode cX12_feed 23 = .ok (.iload_n 3, 1) := by decide +kernel
theorem dX12_feed_24 : decode cX12_feed 24 = .ok (.iadd, 1) := by decide +kernel
theorem dX12_feed_25 : decode cX12_feed 25 = .ok (.bipush 50, 2) := by decide +kernel
theorem dX12_feed_27 : decode cX12_feed 27 = .ok (.if_icmp .le 10, 3) := by decide +kernel
theorem dX12_feed_30 : decode cX12_feed 30 = .ok (.aload_n 0, 1) := by decide +kernel
theorem dX12_feed_31 : decode cX12_feed 31 = .ok (.ldc 55, 2) := by decide +kernel
theorem dX12_feed_33 : decode cX12_feed 33 = .ok (.invokevirtual 51, 3) := by decide +kernel
theorem dX12_feed_36 : decode cX12_feed 36 = .ok (.ireturn, 1) := by decide +kernel
theorem dX12_feed_37 : decode cX12_feed 37 = .ok (.iconst 0, 1) := by decide +kernel
theorem dX12_feed_38 : decode cX12_feed 38 = .ok (.istore 4, 2) := by decide +kernel
theorem dX12_feed_40 : decode cX12_feed 40 = .ok (.iload 4, 2) := by decide +kernel
theorem dX12_feed_42 : decode cX12_feed 42 = .ok (.iload_n 3, 1) := by decide +kernel
theorem dX12_feed_43 : decode cX12_feed 43 = .ok (.if_icmp .ge 45, 3) := by decide +kernel
theorem dX12_feed_46 : decode cX12_feed 46 = .ok (.aload_n 0, 1) := by decide +kernel
theorem dX12_feed_47 : decode cX12_feed 47 = .ok (.getfield 7, 3) := by decide +kernel
theorem dX12_feed_50 : decode cX12_feed 50 = .ok (.bipush 106, 2) := by decide +kernel
theorem dX12_feed_52 : decode cX12_feed 52 = .ok (.aload_n 0, 1) := by decide +kernel
theorem dX12_feed_53 : decode cX12_feed 53 = .ok (.getfield 7, 3) := by decide +kernel
theorem dX12_feed_56 : decode cX12_feed 56 = .ok (.iconst 3, 1) := by decide +kernel
theorem dX12_feed_57 : decode cX12_feed 57 = .ok (.iaload, 1) := by decide +kernel
theorem dX12_feed_58 : decode cX12_feed 58 = .ok (.iadd, 1) := by decide +kernel
theorem dX12_feed_59 : decode cX12_feed 59 = .ok (.lload_n 1, 1) := by decide +kernel
theorem dX12_feed_60 : decode cX12_feed 60 = .ok (.bipush 8, 2) := by decide +kernel
theorem dX12_feed_62 : decode cX12_feed 62 = .ok (.iload 4, 2) := by decide +kernel
theorem dX12_feed_64 : decode cX12_feed 64 = .ok (.imul, 1) := by decide +kernel
theorem dX12_feed_65 : decode cX12_feed 65 = .ok (.lshr, 1) := by decide +kernel
theorem dX12_feed_66 : decode cX12_feed 66 = .ok (.ldc2_w 148, 3) := by decide +kernel
theorem dX12_feed_69 : decode cX12_feed 69 = .ok (.land, 1) := by decide +kernel
theorem dX12_feed_70 : decode cX12_feed 70 = .ok (.l2i, 1) := by decide +kernel
theorem dX12_feed_71 : decode cX12_feed 71 = .ok (.iastore, 1) := by decide +kernel
theorem dX12_feed_72 : decode cX12_feed 72 = .ok (.aload_n 0, 1) := by decide +kernel
theorem dX12_feed_73 : decode cX12_feed 73 = .ok (.getfield 7, 3) := by decide +kernel
theorem dX12_feed_76 : decode cX12_feed 76 = .ok (.iconst 3, 1) := by decide +kernel
theorem dX12_feed_77 : decode cX12_feed 77 = .ok (.dup2, 1) := by decide +kernel
theorem dX12_feed_78 : decode cX12_feed 78 = .ok (.iaload, 1) := by decide +kernel
theorem dX12_feed_79 : decode cX12_feed 79 = .ok (.iconst 1, 1) := by decide +kernel
theorem dX12_feed_80 : decode cX12_feed 80 = .ok (.iadd, 1) := by decide +kernel
theorem dX12_feed_81 : decode cX12_feed 81 = .ok (.iastore, 1) := by decide +kernel
theorem dX12_feed_82 : decode cX12_feed 82 = .ok (.iinc 4 1, 3) := by decide +kernel
theorem dX12_feed_85 : decode cX12_feed 85 = .ok (.goto (-45), 3) := by decide +kernel
theorem dX12_feed_88 : decode cX12_feed 88 = .ok (.aload_n 0, 1) := by decide +kernel
theorem dX12_feed_89 : decode cX12_feed 89 = .ok (.getfield 7, 3) := by decide +kernel
theorem dX12_feed_92 : decode cX12_feed 92 = .ok (.iconst 3, 1) := by decide +kernel
theorem dX12_feed_93 : decode cX12_feed 93 = .ok (.iaload, 1) := by decide +kernel
theorem dX12_feed_94 : decode cX12_feed 94 = .ok (.ireturn, 1) := by decide +kernel
theorem dX12_text_0 : decode cX12_text 0 = .ok (.iload_n 1, 1) := by decide +kernel
theorem dX12_text_1 : decode cX12_text 1 = .ok (.iconst 0, 1) := by decide +kernel
theorem dX12_text_2 : decode cX12_text 2 = .ok (.iconst 1, 1) := by decide +kernel
theorem dX12_text_3 : decode cX12_text 3 = .ok (.invokestatic 38, 3) := by decide +kernel
theorem dX12_text_6 : decode cX12_text 6 = .ok (.ifCond .ne 10, 3) := by decide +kernel
theorem dX12_text_9 : decode cX12_text 9 = .ok (.aload_n 0, 1) := by decide +kernel
theorem dX12_text_10 : decode cX12_text 10 = .ok (.ldc 50, 2) := by decide +kernel
theorem dX12_text_12 : decode cX12_text 12 = .ok (.invokevirtual 51, 3) := by decide +kernel
theorem dX12_text_15 : decode cX12_text 15 = .ok (.ireturn, 1) := by decide +kernel
theorem dX12_text_16 : decode cX12_text 16 = .ok (.aload_n 0, 1) := by decide +kernel
theorem dX12_text_17 : decode cX12_text 17 = .ok (.aload_n 0, 1) := by decide +kernel
theorem dX12_text_18 : decode cX12_text 18 = .ok (.getfield 7, 3) := by decide +kernel
theorem dX12_text_21 : decode cX12_text 21 = .ok (.aload_n 0, 1) := by decide +kernel
theorem dX12_text_22 : decode cX12_text 22 = .ok (.getfield 16, 3) := by decide +kernel
theorem dX12_text_25 : decode cX12_text 25 = .ok (.invokevirtual 150, 3) := by decide +kernel
theorem dX12_text_28 : decode cX12_text 28 = .ok (.iconst 0, 1) := by decide +kernel
theorem dX12_text_29 : decode cX12_text 29 = .ok (.istore_n 2, 1) := by decide +kernel
theorem dX12_text_30 : decode cX12_text 30 = .ok (.iload_n 2, 1) := by decide +kernel
theorem dX12_text_31 : decode cX12_text 31 = .ok (.bipush 50, 2) := by decide +kernel
theorem dX12_text_33 : decode cX12_text 33 = .ok (.if_icmp .ge 33, 3) := by decide +kernel
theorem dX12_text_36 : decode cX12_text 36 = .ok (.aload_n 0, 1) := by decide +kernel
theorem dX12_text_37 : decode cX12_text 37 = .ok (.getfield 7, 3) := by decide +kernel
theorem dX12_text_40 : decode cX12_text 40 = .ok (.sipush 176, 3) := by decide +kernel
theorem dX12_text_43 : decode cX12_text 43 = .ok (.bipush 50, 2) := by decide +kernel
theorem dX12_text_45 : decode cX12_text 45 = .ok (.iload_n 1, 1) := by decide +kernel
theorem dX12_text_46 : decode cX12_text 46 = .ok (.imul, 1) := by decide +kernel
theorem dX12_text_47 : decode cX12_text 47 = .ok (.iadd, 1) := by decide +kernel
theorem dX12_text_48 : decode cX12_text 48 = .ok (.iload_n 2, 1) := by decide +kernel
theorem dX12_text_49 : decode cX12_text 49 = .ok (.iadd, 1) := by decide +kernel
theorem dX12_text_50 : decode cX12_text 50 = .ok (.aload_n 0, 1) := by decide +kernel
theorem dX12_text_51 : decode cX12_text 51 = .ok (.getfield 7, 3) := by decide +kernel
theorem dX12_text_54 : decode cX12_text 54 = .ok (.bipush 106, 2) := by decide +kernel
theorem dX12_text_56 : decode cX12_text 56 = .ok (.iload_n 2, 1) := by decide +kernel
theorem dX12_text_57 : decode cX12_text 57 = .ok (.iadd, 1) := by decide +kernel
theorem dX12_text_58 : decode cX12_text 58 = .ok (.iaload, 1) := by decide +kernel
theorem dX12_text_59 : decode cX12_text 59 = .ok (.iastore, 1) := by decide +kernel
theorem dX12_text_60 : decode cX12_text 60 = .ok (.iinc 2 1, 3) := by decide +kernel
theorem dX12_text_63 : decode cX12_text 63 = .ok (.goto (-33), 3) := by decide +kernel
theorem dX12_text_66 : decode cX12_text 66 = .ok (.aload_n 0, 1) := by decide +kernel
theorem dX12_text_67 : decode cX12_text 67 = .ok (.getfield 7, 3) := by decide +kernel
theorem dX12_text_70 : decode cX12_text 70 = .ok (.iconst 5, 1) := by decide +kernel
theorem dX12_text_71 : decode cX12_text 71 = .ok (.iload_n 1, 1) := by decide +kernel
theorem dX12_text_72 : decode cX12_text 72 = .ok (.iadd, 1) := by decide +kernel
theorem dX12_text_73 : decode cX12_text 73 = .ok (.aload_n 0, 1) := by decide +kernel
theorem dX12_text_74 : decode cX12_text 74 = .ok (.getfield 7, 3) := by decide +kernel
theorem dX12_text_77 : decode cX12_text 77 = .ok (.iconst 3, 1) := by decide +kernel
theorem dX12_text_78 : decode cX12_text 78 = .ok (.iaload, 1) := by decide +kernel
theorem dX12_text_79 : decode cX12_text 79 = .ok (.iastore, 1) := by decide +kernel
theorem dX12_text_80 : decode cX12_text 80 = .ok (.aload_n 0, 1) := by decide +kernel
theorem dX12_text_81 : decode cX12_text 81 = .ok (.iload_n 1, 1) := by decide +kernel
theorem dX12_text_82 : decode cX12_text 82 = .ok (.iconst 1, 1) := by decide +kernel
theorem dX12_text_83 : decode cX12_text 83 = .ok (.iconst 1, 1) := by decide +kernel
theorem dX12_text_84 : decode cX12_text 84 = .ok (.iconst 1, 1) := by decide +kernel
theorem dX12_text_85 : decode cX12_text 85 = .ok (.invokevirtual 137, 3) := by decide +kernel
theorem dX12_text_88 : decode cX12_text 88 = .ok (.istore_n 2, 1) := by decide +kernel
theorem dX12_text_89 : decode cX12_text 89 = .ok (.aload_n 0, 1) := by decide +kernel
theorem dX12_text_90 : decode cX12_text 90 = .ok (.getfield 84, 3) := by decide +kernel
theorem dX12_text_93 : decode cX12_text 93 = .ok (.ifCond .eq 12, 3) := by decide +kernel
theorem dX12_text_96 : decode cX12_text 96 = .ok (.iload_n 2, 1) := by decide +kernel
theorem dX12_text_97 : decode cX12_text 97 = .ok (.iload_n 2, 1) := by decide +kernel
theorem dX12_text_98 : decode cX12_text 98 = .ok (.if_icmp .ne 7, 3) := by decide +kernel
theorem dX12_text_101 : decode cX12_text 101 = .ok (.iconst 1, 1) := by decide +kernel
theorem dX12_text_102 : decode cX12_text 102 = .ok (.goto 4, 3) := by decide +kernel
theorem dX12_text_105 : decode cX12_text 105 = .ok (.iconst 0, 1) := by decide +kernel
theorem dX12_text_106 : decode cX12_text 106 = .ok (.istore_n 3, 1) := by decide +kernel
theorem dX12_text_107 : decode cX12_text 107 = .ok (.aload_n 0, 1) := by decide +kernel
theorem dX12_text_108 : decode cX12_text 108 = .ok (.getfield 88, 3) := by decide +kernel
theorem dX12_text_111 : decode cX12_text 111 = .ok (.istore 4, 2) := by decide +kernel
theorem dX12_text_113 : decode cX12_text 113 = .ok (.iload_n 3, 1) := by decide +kernel
theorem dX12_text_114 : decode cX12_text 114 = .ok (.ifCond .ne 15, 3) := by decide +kernel
theorem dX12_text_117 : decode cX12_text 117 = .ok (.aload_n 0, 1) := by decide +kernel
theorem dX12_text_118 : decode cX12_text 118 = .ok (.aload_n 0, 1) := by decide +kernel
theorem dX12_text_119 : decode cX12_text 119 = .ok (.getfield 16, 3) := by decide +kernel
theorem dX12_text_122 : decode cX12_text 122 = .ok (.aload_n 0, 1) := by decide +kernel
theorem dX12_text_123 : decode cX12_text 123 = .ok (.getfield 7, 3) := by decide +kernel
theorem dX12_text_126 : decode cX12_text 126 = .ok (.invokevirtual 150, 3) := by decide +kernel
theorem dX12_text_129 : decode cX12_text 129 = .ok (.aload_n 0, 1) := by decide +kernel
theorem dX12_text_130 : decode cX12_text 130 = .ok (.getfield 7, 3) := by decide +kernel
theorem dX12_text_133 : decode cX12_text 133 = .ok (.iconst 3, 1) := by decide +kernel
theorem dX12_text_134 : decode cX12_text 134 = .ok (.iconst 0, 1) := by decide +kernel
theorem dX12_text_135 : decode cX12_text 135 = .ok (.iastore, 1) := by decide +kernel
theorem dX12_text_136 : decode cX12_text 136 = .ok (.iload_n 3, 1) := by decide +kernel
theorem dX12_text_137 : decode cX12_text 137 = .ok (.ifCond .eq 7, 3) := by decide +kernel
theorem dX12_text_140 : decode cX12_text 140 = .ok (.iconst 1, 1) := by decide +kernel
theorem dX12_text_141 : decode cX12_text 141 = .ok (.goto 8, 3) := by decide +kernel
theorem dX12_text_144 : decode cX12_text 144 = .ok (.bipush (-10), 2) := by decide +kernel
theorem dX12_text_146 : decode cX12_text 146 = .ok (.iload 4, 2) := by decide +kernel
theorem dX12_text_148 : decode cX12_text 148 = .ok (.isub, 1) := by decide +kernel
theorem dX12_text_149 : decode cX12_text 149 = .ok (.ireturn, 1) := by decide +kernel
theorem dX12_lateAt_0 : decode cX12_lateAt 0 = .ok (.aload_n 0, 1) := by decide +kernel
theorem dX12_lateAt_1 : decode cX12_lateAt 1 = .ok (.iload_n 1, 1) := by decide +kernel
theorem dX12_lateAt_2 : decode cX12_lateAt 2 = .ok (.iconst 1, 1) := by decide +kernel
theorem dX12_lateAt_3 : decode cX12_lateAt 3 = .ok (.invokevirtual 64, 3) := by decide +kernel
theorem dX12_lateAt_6 : decode cX12_lateAt 6 = .ok (.istore_n 3, 1) := by decide +kernel
theorem dX12_lateAt_7 : decode cX12_lateAt 7 = .ok (.aload_n 0, 1) := by decide +kernel
theorem dX12_lateAt_8 : decode cX12_lateAt 8 = .ok (.iconst 0, 1) := by decide +kernel
theorem dX12_lateAt_9 : decode cX12_lateAt 9 = .ok (.iload_n 3, 1) := by decide +kernel
theorem dX12_lateAt_10 : decode cX12_lateAt 10 = .ok (.aload_n 0, 1) := by decide +kernel
theorem dX12_lateAt_11 : decode cX12_lateAt 11 = .ok (.iload_n 1, 1) := by decide +kernel
theorem dX12_lateAt_12 : decode cX12_lateAt 12 = .ok (.iconst 0, 1) := by decide +kernel
theorem dX12_lateAt_13 : decode cX12_lateAt 13 = .ok (.invokevirtual 64, 3) := by decide +kernel
theorem dX12_lateAt_16 : decode cX12_lateAt 16 = .ok (.iload_n 2, 1) := by decide +kernel
theorem dX12_lateAt_17 : decode cX12_lateAt 17 = .ok (.bipush 60, 2) := by decide +kernel
theorem dX12_lateAt_19 : decode cX12_lateAt 19 = .ok (.irem, 1) := by decide +kernel
theorem dX12_lateAt_20 : decode cX12_lateAt 20 = .ok (.invokevirtual 145, 3) := by decide +kernel
theorem dX12_lateAt_23 : decode cX12_lateAt 23 = .ok (.istore 4, 2) := by decide +kernel
theorem dX12_lateAt_25 : decode cX12_lateAt 25 = .ok (.aload_n 0, 1) := by decide +kernel
theorem dX12_lateAt_26 : decode cX12_lateAt 26 = .ok (.iload_n 1, 1) := by decide +kernel
theorem dX12_lateAt_27 : decode cX12_lateAt 27 = .ok (.iconst 0, 1) := by decide +kernel
theorem dX12_lateAt_28 : decode cX12_lateAt 28 = .ok (.invokevirtual 64, 3) := by decide +kernel
theorem dX12_lateAt_31 : decode cX12_lateAt 31 = .ok (.tableswitch 47 2 6 #[33, 37, 42, 35, 33], 33) := by decide +kernel
theorem dX12_lateAt_64 : decode cX12_lateAt 64 = .ok (.iconst 0, 1) := by decide +kernel
theorem dX12_lateAt_65 : decode cX12_lateAt 65 = .ok (.ireturn, 1) := by decide +kernel
theorem dX12_lateAt_66 : decode cX12_lateAt 66 = .ok (.iconst 1, 1) := by decide +kernel
theorem dX12_lateAt_67 : decode cX12_lateAt 67 = .ok (.ireturn, 1) := by decide +kernel
theorem dX12_lateAt_68 : decode cX12_lateAt 68 = .ok (.iload 4, 2) := by decide +kernel
theorem dX12_lateAt_70 : decode cX12_lateAt 70 = .ok (.iconst 2, 1) := by decide +kernel
theorem dX12_lateAt_71 : decode cX12_lateAt 71 = .ok (.idiv, 1) := by decide +kernel
theorem dX12_lateAt_72 : decode cX12_lateAt 72 = .ok (.ireturn, 1) := by decide +kernel
theorem dX12_lateAt_73 : decode cX12_lateAt 73 = .ok (.iload 4, 2) := by decide +kernel
theorem dX12_lateAt_75 : decode cX12_lateAt 75 = .ok (.iload_n 3, 1) := by decide +kernel
theorem dX12_lateAt_76 : decode cX12_lateAt 76 = .ok (.iadd, 1) := by decide +kernel
theorem dX12_lateAt_77 : decode cX12_lateAt 77 = .ok (.ireturn, 1) := by decide +kernel
theorem dX12_lateAt_78 : decode cX12_lateAt 78 = .ok (.iload 4, 2) := by decide +kernel
theorem dX12_lateAt_80 : decode cX12_lateAt 80 = .ok (.ireturn, 1) := by decide +kernel
theorem dX12_lasts_0 : decode cX12_lasts 0 = .ok (.aload_n 0, 1) := by decide +kernel
theorem dX12_lasts_1 : decode cX12_lasts 1 = .ok (.iload_n 1, 1) := by decide +kernel
theorem dX12_lasts_2 : decode cX12_lasts 2 = .ok (.iconst 0, 1) := by decide +kernel
theorem dX12_lasts_3 : decode cX12_lasts 3 = .ok (.invokevirtual 64, 3) := by decide +kernel
theorem dX12_lasts_6 : decode cX12_lasts 6 = .ok (.tableswitch 55 3 6 #[30, 41, 55, 51], 30) := by decide +kernel
theorem dX12_lasts_36 : decode cX12_lasts 36 = .ok (.bipush 10, 2) := by decide +kernel
theorem dX12_lasts_38 : decode cX12_lasts 38 = .ok (.aload_n 0, 1) := by decide +kernel
theorem dX12_lasts_39 : decode cX12_lasts 39 = .ok (.getfield 7, 3) := by decide +kernel
theorem dX12_lasts_42 : decode cX12_lasts 42 = .ok (.bipush 9, 2) := by decide +kernel
theorem dX12_lasts_44 : decode cX12_lasts 44 = .ok (.iaload, 1) := by decide +kernel
theorem dX12_lasts_45 : decode cX12_lasts 45 = .ok (.imul, 1) := by decide +kernel
theorem dX12_lasts_46 : decode cX12_lasts 46 = .ok (.ireturn, 1) := by decide +kernel
theorem dX12_lasts_47 : decode cX12_lasts 47 = .ok (.aload_n 0, 1) := by decide +kernel
theorem dX12_lasts_48 : decode cX12_lasts 48 = .ok (.getfield 7, 3) := by decide +kernel
theorem dX12_lasts_51 : decode cX12_lasts 51 = .ok (.bipush 9, 2) := by decide +kernel
theorem dX12_lasts_53 : decode cX12_lasts 53 = .ok (.iaload, 1) := by decide +kernel
theorem dX12_lasts_54 : decode cX12_lasts 54 = .ok (.iconst 2, 1) := by decide +kernel
theorem dX12_lasts_55 : decode cX12_lasts 55 = .ok (.idiv, 1) := by decide +kernel
theorem dX12_lasts_56 : decode cX12_lasts 56 = .ok (.ireturn, 1) := by decide +kernel
theorem dX12_lasts_57 : decode cX12_lasts 57 = .ok (.sipush 9999, 3) := by decide +kernel
theorem dX12_lasts_60 : decode cX12_lasts 60 = .ok (.ireturn, 1) := by decide +kernel
theorem dX12_lasts_61 : decode cX12_lasts 61 = .ok (.aload_n 0, 1) := by decide +kernel
theorem dX12_lasts_62 : decode cX12_lasts 62 = .ok (.getfield 7, 3) := by decide +kernel
theorem dX12_lasts_65 : decode cX12_lasts 65 = .ok (.bipush 9, 2) := by decide +kernel
theorem dX12_lasts_67 : decode cX12_lasts 67 = .ok (.iaload, 1) := by decide +kernel
theorem dX12_lasts_68 : decode cX12_lasts 68 = .ok (.ireturn, 1) := by decide +kernel
theorem dX12_numbers_0 : decode cX12_numbers 0 = .ok (.iconst 1, 1) := by decide +kernel
theorem dX12_numbers_1 : decode cX12_numbers 1 = .ok (.istore_n 1, 1) := by decide +kernel
theorem dX12_numbers_2 : decode cX12_numbers 2 = .ok (.iconst 0, 1) := by decide +kernel
theorem dX12_numbers_3 : decode cX12_numbers 3 = .ok (.istore_n 2, 1) := by decide +kernel
theorem dX12_numbers_4 : decode cX12_numbers 4 = .ok (.iload_n 2, 1) := by decide +kernel
theorem dX12_numbers_5 : decode cX12_numbers 5 = .ok (.aload_n 0, 1) := by decide +kernel
theorem dX12_numbers_6 : decode cX12_numbers 6 = .ok (.getfield 7, 3) := by decide +kernel
theorem dX12_numbers_9 : decode cX12_numbers 9 = .ok (.bipush 8, 2) := by decide +kernel
theorem dX12_numbers_11 : decode cX12_numbers 11 = .ok (.iaload, 1) := by decide +kernel
theorem dX12_numbers_12 : decode cX12_numbers 12 = .ok (.if_icmp .ge 14, 3) := by decide +kernel
theorem dX12_numbers_15 : decode cX12_numbers 15 = .ok (.iload_n 1, 1) := by decide +kernel
theorem dX12_numbers_16 : decode cX12_numbers 16 = .ok (.bipush 10, 2) := by decide +kernel
theorem dX12_numbers_18 : decode cX12_numbers 18 = .ok (.imul, 1) := by decide +kernel
theorem dX12_numbers_19 : decode cX12_numbers 19 = .ok (.istore_n 1, 1) := by decide +kernel
theorem dX12_numbers_20 : decode cX12_numbers 20 = .ok (.iinc 2 1, 3) := by decide +kernel
theorem dX12_numbers_23 : decode cX12_numbers 23 = .ok (.goto (-19), 3) := by decide +kernel
theorem dX12_numbers_26 : decode cX12_numbers 26 = .ok (.iload_n 1, 1) := by decide +kernel
theorem dX12_numbers_27 : decode cX12_numbers 27 = .ok (.ireturn, 1) := by decide +kernel
theorem dX12_drawn_0 : decode cX12_drawn 0 = .ok (.aload_n 0, 1) := by decide +kernel
theorem dX12_drawn_1 : decode cX12_drawn 1 = .ok (.getfield 7, 3) := by decide +kernel
theorem dX12_drawn_4 : decode cX12_drawn 4 = .ok (.iconst 1, 1) := by decide +kernel
theorem dX12_drawn_5 : decode cX12_drawn 5 = .ok (.aload_n 0, 1) := by decide +kernel
theorem dX12_drawn_6 : decode cX12_drawn 6 = .ok (.getfield 7, 3) := by decide +kernel
theorem dX12_drawn_9 : decode cX12_drawn 9 = .ok (.iconst 1, 1) := by decide +kernel
theorem dX12_drawn_10 : decode cX12_drawn 10 = .ok (.iaload, 1) := by decide +kernel
theorem dX12_drawn_11 : decode cX12_drawn 11 = .ok (.ldc 154, 2) := by decide +kernel
theorem dX12_drawn_13 : decode cX12_drawn 13 = .ok (.imul, 1) := by decide +kernel
theorem dX12_drawn_14 : decode cX12_drawn 14 = .ok (.sipush 12345, 3) := by decide +kernel
theorem dX12_drawn_17 : decode cX12_drawn 17 = .ok (.iadd, 1) := by decide +kernel
theorem dX12_drawn_18 : decode cX12_drawn 18 = .ok (.iastore, 1) := by decide +kernel
theorem dX12_drawn_19 : decode cX12_drawn 19 = .ok (.aload_n 0, 1) := by decide +kernel
theorem dX12_drawn_20 : decode cX12_drawn 20 = .ok (.getfield 7, 3) := by decide +kernel
theorem dX12_drawn_23 : decode cX12_drawn 23 = .ok (.iconst 1, 1) := by decide +kernel
theorem dX12_drawn_24 : decode cX12_drawn 24 = .ok (.iaload, 1) := by decide +kernel
theorem dX12_drawn_25 : decode cX12_drawn 25 = .ok (.bipush 8, 2) := by decide +kernel
theorem dX12_drawn_27 : decode cX12_drawn 27 = .ok (.iushr, 1) := by decide +kernel
theorem dX12_drawn_28 : decode cX12_drawn 28 = .ok (.iload_n 1, 1) := by decide +kernel
theorem dX12_drawn_29 : decode cX12_drawn 29 = .ok (.irem, 1) := by decide +kernel
theorem dX12_drawn_30 : decode cX12_drawn 30 = .ok (.ireturn, 1) := by decide +kernel
theorem dX12_asks_0 : decode cX12_asks 0 = .ok (.aload_n 0, 1) := by decide +kernel
theorem dX12_asks_1 : decode cX12_asks 1 = .ok (.aload_n 0, 1) := by decide +kernel
theorem dX12_asks_2 : decode cX12_asks 2 = .ok (.invokevirtual 155, 3) := by decide +kernel
theorem dX12_asks_5 : decode cX12_asks 5 = .ok (.invokevirtual 158, 3) := by decide +kernel
theorem dX12_asks_8 : decode cX12_asks 8 = .ok (.istore_n 2, 1) := by decide +kernel
theorem dX12_asks_9 : decode cX12_asks 9 = .ok (.aload_n 0, 1) := by decide +kernel
theorem dX12_asks_10 : decode cX12_asks 10 = .ok (.getfield 7, 3) := by decide +kernel
theorem dX12_asks_13 : decode cX12_asks 13 = .ok (.bipush 7, 2) := by decide +kernel
theorem dX12_asks_15 : decode cX12_asks 15 = .ok (.iaload, 1) := by decide +kernel
theorem dX12_asks_16 : decode cX12_asks 16 = .ok (.bipush 10, 2) := by decide +kernel
theorem dX12_asks_18 : decode cX12_asks 18 = .ok (.if_icmp .ne 44, 3) := by decide +kernel
theorem dX12_asks_21 : decode cX12_asks 21 = .ok (.bipush 46, 2) := by decide +kernel
theorem dX12_asks_23 : decode cX12_asks 23 = .ok (.istore_n 3, 1) := by decide +kernel
theorem dX12_asks_24 : decode cX12_asks 24 = .ok (.iload_n 3, 1) := by decide +kernel
theorem dX12_asks_25 : decode cX12_asks 25 = .ok (.bipush 100, 2) := by decide +kernel
theorem dX12_asks_27 : decode cX12_asks 27 = .ok (.if_icmp .ge 24, 3) := by decide +kernel
theorem dX12_asks_30 : decode cX12_asks 30 = .ok (.aload_n 0, 1) := by decide +kernel
theorem dX12_asks_31 : decode cX12_asks 31 = .ok (.getfield 7, 3) := by decide +kernel
theorem dX12_asks_34 : decode cX12_asks 34 = .ok (.iload_n 3, 1) := by decide +kernel
theorem dX12_asks_35 : decode cX12_asks 35 = .ok (.aload_n 0, 1) := by decide +kernel
theorem dX12_asks_36 : decode cX12_asks 36 = .ok (.getfield 7, 3) := by decide +kernel
theorem dX12_asks_39 : decode cX12_asks 39 = .ok (.iload_n 3, 1) := by decide +kernel
theorem dX12_asks_40 : decode cX12_asks 40 = .ok (.bipush 6, 2) := by decide +kernel
theorem dX12_asks_42 : decode cX12_asks 42 = .ok (.iadd, 1) := by decide +kernel
theorem dX12_asks_43 : decode cX12_asks 43 = .ok (.iaload, 1) := by decide +kernel
theorem dX12_asks_44 : decode cX12_asks 44 = .ok (.iastore, 1) := by decide +kernel
theorem dX12_asks_45 : decode cX12_asks 45 = .ok (.iinc 3 1, 3) := by decide +kernel
theorem dX12_asks_48 : decode cX12_asks 48 = .ok (.goto (-24), 3) := by decide +kernel
theorem dX12_asks_51 : decode cX12_asks 51 = .ok (.aload_n 0, 1) := by decide +kernel
theorem dX12_asks_52 : decode cX12_asks 52 = .ok (.getfield 7, 3) := by decide +kernel
theorem dX12_asks_55 : decode cX12_asks 55 = .ok (.bipush 7, 2) := by decide +kernel
theorem dX12_asks_57 : decode cX12_asks 57 = .ok (.dup2, 1) := by decide +kernel
theorem dX12_asks_58 : decode cX12_asks 58 = .ok (.iaload, 1) := by decide +kernel
theorem dX12_asks_59 : decode cX12_asks 59 = .ok (.iconst 1, 1) := by decide +kernel
theorem dX12_asks_60 : decode cX12_asks 60 = .ok (.isub, 1) := by decide +kernel
theorem dX12_asks_61 : decode cX12_asks 61 = .ok (.iastore, 1) := by decide +kernel
theorem dX12_asks_62 : decode cX12_asks 62 = .ok (.bipush 46, 2) := by decide +kernel
theorem dX12_asks_64 : decode cX12_asks 64 = .ok (.bipush 6, 2) := by decide +kernel
theorem dX12_asks_66 : decode cX12_asks 66 = .ok (.aload_n 0, 1) := by decide +kernel
theorem dX12_asks_67 : decode cX12_asks 67 = .ok (.getfield 7, 3) := by decide +kernel
theorem dX12_asks_70 : decode cX12_asks 70 = .ok (.bipush 7, 2) := by decide +kernel
theorem dX12_asks_72 : decode cX12_asks 72 = .ok (.iaload, 1) := by decide +kernel
theorem dX12_asks_73 : decode cX12_asks 73 = .ok (.imul, 1) := by decide +kernel
theorem dX12_asks_74 : decode cX12_asks 74 = .ok (.iadd, 1) := by decide +kernel
theorem dX12_asks_75 : decode cX12_asks 75 = .ok (.istore_n 3, 1) := by decide +kernel
theorem dX12_asks_76 : decode cX12_asks 76 = .ok (.aload_n 0, 1) := by decide +kernel
theorem dX12_asks_77 : decode cX12_asks 77 = .ok (.getfield 7, 3) := by decide +kernel
theorem dX12_asks_80 : decode cX12_asks 80 = .ok (.iload_n 3, 1) := by decide +kernel
theorem dX12_asks_81 : decode cX12_asks 81 = .ok (.iload_n 1, 1) := by decide +kernel
theorem dX12_asks_82 : decode cX12_asks 82 = .ok (.iastore, 1) := by decide +kernel
theorem dX12_asks_83 : decode cX12_asks 83 = .ok (.aload_n 0, 1) := by decide +kernel
theorem dX12_asks_84 : decode cX12_asks 84 = .ok (.getfield 7, 3) := by decide +kernel
theorem dX12_asks_87 : decode cX12_asks 87 = .ok (.iload_n 3, 1) := by decide +kernel
theorem dX12_asks_88 : decode cX12_asks 88 = .ok (.iconst 1, 1) := by decide +kernel
theorem dX12_asks_89 : decode cX12_asks 89 = .ok (.iadd, 1) := by decide +kernel
theorem dX12_asks_90 : decode cX12_asks 90 = .ok (.iload_n 2, 1) := by decide +kernel
theorem dX12_asks_91 : decode cX12_asks 91 = .ok (.iastore, 1) := by decide +kernel
theorem dX12_asks_92 : decode cX12_asks 92 = .ok (.aload_n 0, 1) := by decide +kernel
theorem dX12_asks_93 : decode cX12_asks 93 = .ok (.getfield 7, 3) := by decide +kernel
theorem dX12_asks_96 : decode cX12_asks 96 = .ok (.iload_n 3, 1) := by decide +kernel
theorem dX12_asks_97 : decode cX12_asks 97 = .ok (.iconst 2, 1) := by decide +kernel
theorem dX12_asks_98 : decode cX12_asks 98 = .ok (.iadd, 1) := by decide +kernel
theorem dX12_asks_99 : decode cX12_asks 99 = .ok (.aload_n 0, 1) := by decide +kernel
theorem dX12_asks_100 : decode cX12_asks 100 = .ok (.getfield 7, 3) := by decide +kernel
theorem dX12_asks_103 : decode cX12_asks 103 = .ok (.iconst 0, 1) := by decide +kernel
theorem dX12_asks_104 : decode cX12_asks 104 = .ok (.iaload, 1) := by decide +kernel
theorem dX12_asks_105 : decode cX12_asks 105 = .ok (.iastore, 1) := by decide +kernel
theorem dX12_asks_106 : decode cX12_asks 106 = .ok (.aload_n 0, 1) := by decide +kernel
theorem dX12_asks_107 : decode cX12_asks 107 = .ok (.getfield 7, 3) := by decide +kernel
theorem dX12_asks_110 : decode cX12_asks 110 = .ok (.iload_n 3, 1) := by decide +kernel
theorem dX12_asks_111 : decode cX12_asks 111 = .ok (.iconst 3, 1) := by decide +kernel
theorem dX12_asks_112 : decode cX12_asks 112 = .ok (.iadd, 1) := by decide +kernel
theorem dX12_asks_113 : decode cX12_asks 113 = .ok (.aload_n 0, 1) := by decide +kernel
theorem dX12_asks_114 : decode cX12_asks 114 = .ok (.getfield 7, 3) := by decide +kernel
theorem dX12_asks_117 : decode cX12_asks 117 = .ok (.iconst 0, 1) := by decide +kernel
theorem dX12_asks_118 : decode cX12_asks 118 = .ok (.iaload, 1) := by decide +kernel
theorem dX12_asks_119 : decode cX12_asks 119 = .ok (.aload_n 0, 1) := by decide +kernel
theorem dX12_asks_120 : decode cX12_asks 120 = .ok (.iload_n 1, 1) := by decide +kernel
theorem dX12_asks_121 : decode cX12_asks 121 = .ok (.aload_n 0, 1) := by decide +kernel
theorem dX12_asks_122 : decode cX12_asks 122 = .ok (.getfield 7, 3) := by decide +kernel
theorem dX12_asks_125 : decode cX12_asks 125 = .ok (.iconst 0, 1) := by decide +kernel
theorem dX12_asks_126 : decode cX12_asks 126 = .ok (.iaload, 1) := by decide +kernel
theorem dX12_asks_127 : decode cX12_asks 127 = .ok (.invokevirtual 67, 3) := by decide +kernel
theorem dX12_asks_130 : decode cX12_asks 130 = .ok (.iadd, 1) := by decide +kernel
theorem dX12_asks_131 : decode cX12_asks 131 = .ok (.iastore, 1) := by decide +kernel
theorem dX12_asks_132 : decode cX12_asks 132 = .ok (.aload_n 0, 1) := by decide +kernel
theorem dX12_asks_133 : decode cX12_asks 133 = .ok (.getfield 7, 3) := by decide +kernel
theorem dX12_asks_136 : decode cX12_asks 136 = .ok (.iload_n 3, 1) := by decide +kernel
theorem dX12_asks_137 : decode cX12_asks 137 = .ok (.iconst 4, 1) := by decide +kernel
theorem dX12_asks_138 : decode cX12_asks 138 = .ok (.iadd, 1) := by decide +kernel
theorem dX12_asks_139 : decode cX12_asks 139 = .ok (.aload_n 0, 1) := by decide +kernel
theorem dX12_asks_140 : decode cX12_asks 140 = .ok (.getfield 7, 3) := by decide +kernel
theorem dX12_asks_143 : decode cX12_asks 143 = .ok (.iconst 0, 1) := by decide +kernel
theorem dX12_asks_144 : decode cX12_asks 144 = .ok (.iaload, 1) := by decide +kernel
theorem dX12_asks_145 : decode cX12_asks 145 = .ok (.aload_n 0, 1) := by decide +kernel
theorem dX12_asks_146 : decode cX12_asks 146 = .ok (.iload_n 1, 1) := by decide +kernel
theorem dX12_asks_147 : decode cX12_asks 147 = .ok (.invokevirtual 70, 3) := by decide +kernel
theorem dX12_asks_150 : decode cX12_asks 150 = .ok (.iadd, 1) := by decide +kernel
theorem dX12_asks_151 : decode cX12_asks 151 = .ok (.iastore, 1) := by decide +kernel
theorem dX12_asks_152 : decode cX12_asks 152 = .ok (.aload_n 0, 1) := by decide +kernel
theorem dX12_asks_153 : decode cX12_asks 153 = .ok (.getfield 7, 3) := by decide +kernel
theorem dX12_asks_156 : decode cX12_asks 156 = .ok (.iload_n 3, 1) := by decide +kernel
theorem dX12_asks_157 : decode cX12_asks 157 = .ok (.iconst 5, 1) := by decide +kernel
theorem dX12_asks_158 : decode cX12_asks 158 = .ok (.iadd, 1) := by decide +kernel
theorem dX12_asks_159 : decode cX12_asks 159 = .ok (.iconst 0, 1) := by decide +kernel
theorem dX12_asks_160 : decode cX12_asks 160 = .ok (.iastore, 1) := by decide +kernel
theorem dX12_asks_161 : decode cX12_asks 161 = .ok (.aload_n 0, 1) := by decide +kernel
theorem dX12_asks_162 : decode cX12_asks 162 = .ok (.getfield 7, 3) := by decide +kernel
theorem dX12_asks_165 : decode cX12_asks 165 = .ok (.bipush 7, 2) := by decide +kernel
theorem dX12_asks_167 : decode cX12_asks 167 = .ok (.dup2, 1) := by decide +kernel
theorem dX12_asks_168 : decode cX12_asks 168 = .ok (.iaload, 1) := by decide +kernel
theorem dX12_asks_169 : decode cX12_asks 169 = .ok (.iconst 1, 1) := by decide +kernel
theorem dX12_asks_170 : decode cX12_asks 170 = .ok (.iadd, 1) := by decide +kernel
theorem dX12_asks_171 : decode cX12_asks 171 = .ok (.iastore, 1) := by decide +kernel
theorem dX12_asks_172 : decode cX12_asks 172 = .ok (.aload_n 0, 1) := by decide +kernel
theorem dX12_asks_173 : decode cX12_asks 173 = .ok (.getfield 7, 3) := by decide +kernel
theorem dX12_asks_176 : decode cX12_asks 176 = .ok (.bipush 7, 2) := by decide +kernel
theorem dX12_asks_178 : decode cX12_asks 178 = .ok (.iaload, 1) := by decide +kernel
theorem dX12_asks_179 : decode cX12_asks 179 = .ok (.iconst 1, 1) := by decide +kernel
theorem dX12_asks_180 : decode cX12_asks 180 = .ok (.isub, 1) := by decide +kernel
theorem dX12_asks_181 : decode cX12_asks 181 = .ok (.ireturn, 1) := by decide +kernel
theorem dX12_ask_0 : decode cX12_ask 0 = .ok (.aload_n 0, 1) := by decide +kernel
theorem dX12_ask_1 : decode cX12_ask 1 = .ok (.iload_n 1, 1) := by decide +kernel
theorem dX12_ask_2 : decode cX12_ask 2 = .ok (.invokevirtual 60, 3) := by decide +kernel
theorem dX12_ask_5 : decode cX12_ask 5 = .ok (.ifCond .ne 10, 3) := by decide +kernel
theorem dX12_ask_8 : decode cX12_ask 8 = .ok (.aload_n 0, 1) := by decide +kernel
theorem dX12_ask_9 : decode cX12_ask 9 = .ok (.ldc 50, 2) := by decide +kernel
theorem dX12_ask_11 : decode cX12_ask 11 = .ok (.invokevirtual 51, 3) := by decide +kernel
theorem dX12_ask_14 : decode cX12_ask 14 = .ok (.ireturn, 1) := by decide +kernel
theorem dX12_ask_15 : decode cX12_ask 15 = .ok (.aload_n 0, 1) := by decide +kernel
theorem dX12_ask_16 : decode cX12_ask 16 = .ok (.iload_n 1, 1) := by decide +kernel
theorem dX12_ask_17 : decode cX12_ask 17 = .ok (.iconst 4, 1) := by decide +kernel
theorem dX12_ask_18 : decode cX12_ask 18 = .ok (.invokevirtual 64, 3) := by decide +kernel
theorem dX12_ask_21 : decode cX12_ask 21 = .ok (.iconst 1, 1) := by decide +kernel
theorem dX12_ask_22 : decode cX12_ask 22 = .ok (.if_icmp .ne 12, 3) := by decide +kernel
theorem dX12_ask_25 : decode cX12_ask 25 = .ok (.aload_n 0, 1) := by decide +kernel
theorem dX12_ask_26 : decode cX12_ask 26 = .ok (.ldc 161, 2) := by decide +kernel
theorem dX12_ask_28 : decode cX12_ask 28 = .ok (.invokevirtual 51, 3) := by decide +kernel
theorem dX12_ask_31 : decode cX12_ask 31 = .ok (.goto 8, 3) := by decide +kernel
theorem dX12_ask_34 : decode cX12_ask 34 = .ok (.aload_n 0, 1) := by decide +kernel
theorem dX12_ask_35 : decode cX12_ask 35 = .ok (.iload_n 1, 1) := by decide +kernel
theorem dX12_ask_36 : decode cX12_ask 36 = .ok (.invokevirtual 162, 3) := by decide +kernel
theorem dX12_ask_39 : decode cX12_ask 39 = .ok (.ireturn, 1) := by decide +kernel
theorem dX12_counts_0 : decode cX12_counts 0 = .ok (.aload_n 0, 1) := by decide +kernel
theorem dX12_counts_1 : decode cX12_counts 1 = .ok (.iload_n 1, 1) := by decide +kernel
theorem dX12_counts_2 : decode cX12_counts 2 = .ok (.iconst 5, 1) := by decide +kernel
theorem dX12_counts_3 : decode cX12_counts 3 = .ok (.invokevirtual 165, 3) := by decide +kernel
theorem dX12_counts_6 : decode cX12_counts 6 = .ok (.ifCond .ne 54, 3) := by decide +kernel
theorem dX12_counts_9 : decode cX12_counts 9 = .ok (.aload_n 0, 1) := by decide +kernel
theorem dX12_counts_10 : decode cX12_counts 10 = .ok (.getfield 7, 3) := by decide +kernel
theorem dX12_counts_13 : decode cX12_counts 13 = .ok (.iconst 0, 1) := by decide +kernel
theorem dX12_counts_14 : decode cX12_counts 14 = .ok (.iaload, 1) := by decide +kernel
theorem dX12_counts_15 : decode cX12_counts 15 = .ok (.aload_n 0, 1) := by decide +kernel
theorem dX12_counts_16 : decode cX12_counts 16 = .ok (.iload_n 1, 1) := by decide +kernel
theorem dX12_counts_17 : decode cX12_counts 17 = .ok (.iconst 3, 1) := by decide +kernel
theorem dX12_counts_18 : decode cX12_counts 18 = .ok (.invokevirtual 165, 3) := by decide +kernel
theorem dX12_counts_21 : decode cX12_counts 21 = .ok (.aload_n 0, 1) := by decide +kernel
theorem dX12_counts_22 : decode cX12_counts 22 = .ok (.iload_n 1, 1) := by decide +kernel
theorem dX12_counts_23 : decode cX12_counts 23 = .ok (.iconst 4, 1) := by decide +kernel
theorem dX12_counts_24 : decode cX12_counts 24 = .ok (.invokevirtual 165, 3) := by decide +kernel
theorem dX12_counts_27 : decode cX12_counts 27 = .ok (.invokestatic 38, 3) := by decide +kernel
theorem dX12_counts_30 : decode cX12_counts 30 = .ok (.ifCond .eq 30, 3) := by decide +kernel
theorem dX12_counts_33 : decode cX12_counts 33 = .ok (.aload_n 0, 1) := by decide +kernel
theorem dX12_counts_34 : decode cX12_counts 34 = .ok (.getfield 7, 3) := by decide +kernel
theorem dX12_counts_37 : decode cX12_counts 37 = .ok (.bipush 12, 2) := by decide +kernel
theorem dX12_counts_39 : decode cX12_counts 39 = .ok (.iaload, 1) := by decide +kernel
theorem dX12_counts_40 : decode cX12_counts 40 = .ok (.ifCond .eq 16, 3) := by decide +kernel
theorem dX12_counts_43 : decode cX12_counts 43 = .ok (.iload_n 1, 1) := by decide +kernel
theorem dX12_counts_44 : decode cX12_counts 44 = .ok (.aload_n 0, 1) := by decide +kernel
theorem dX12_counts_45 : decode cX12_counts 45 = .ok (.getfield 7, 3) := by decide +kernel
theorem dX12_counts_48 : decode cX12_counts 48 = .ok (.bipush 7, 2) := by decide +kernel
theorem dX12_counts_50 : decode cX12_counts 50 = .ok (.iaload, 1) := by decide +kernel
theorem dX12_counts_51 : decode cX12_counts 51 = .ok (.iconst 1, 1) := by decide +kernel
theorem dX12_counts_52 : decode cX12_counts 52 = .ok (.isub, 1) := by decide +kernel
theorem dX12_counts_53 : decode cX12_counts 53 = .ok (.if_icmp .ne 7, 3) := by decide +kernel
theorem dX12_counts_56 : decode cX12_counts 56 = .ok (.iconst 1, 1) := by decide +kernel
theorem dX12_counts_57 : decode cX12_counts 57 = .ok (.goto 4, 3) := by decide +kernel
theorem dX12_counts_60 : decode cX12_counts 60 = .ok (.iconst 0, 1) := by decide +kernel
theorem dX12_counts_61 : decode cX12_counts 61 = .ok (.ireturn, 1) := by decide +kernel
theorem dX12_ofCode_0 : decode cX12_ofCode 0 = .ok (.aload_n 0, 1) := by decide +kernel
theorem dX12_ofCode_1 : decode cX12_ofCode 1 = .ok (.iload_n 1, 1) := by decide +kernel
theorem dX12_ofCode_2 : decode cX12_ofCode 2 = .ok (.invokevirtual 168, 3) := by decide +kernel
theorem dX12_ofCode_5 : decode cX12_ofCode 5 = .ok (.ifCond .eq 13, 3) := by decide +kernel
theorem dX12_ofCode_8 : decode cX12_ofCode 8 = .ok (.iload_n 2, 1) := by decide +kernel
theorem dX12_ofCode_9 : decode cX12_ofCode 9 = .ok (.iconst 0, 1) := by decide +kernel
theorem dX12_ofCode_10 : decode cX12_ofCode 10 = .ok (.bipush 6, 2) := by decide +kernel
theorem dX12_ofCode_12 : decode cX12_ofCode 12 = .ok (.invokestatic 38, 3) := by decide +kernel
theorem dX12_ofCode_15 : decode cX12_ofCode 15 = .ok (.ifCond .ne 10, 3) := by decide +kernel
theorem dX12_ofCode_18 : decode cX12_ofCode 18 = .ok (.aload_n 0, 1) := by decide +kernel
theorem dX12_ofCode_19 : decode cX12_ofCode 19 = .ok (.ldc 50, 2) := by decide +kernel
theorem dX12_ofCode_21 : decode cX12_ofCode 21 = .ok (.invokevirtual 51, 3) := by decide +kernel
theorem dX12_ofCode_24 : decode cX12_ofCode 24 = .ok (.ireturn, 1) := by decide +kernel
theorem dX12_ofCode_25 : decode cX12_ofCode 25 = .ok (.iload_n 2, 1) := by decide +kernel
theorem dX12_ofCode_26 : decode cX12_ofCode 26 = .ok (.bipush 6, 2) := by decide +kernel
theorem dX12_ofCode_28 : decode cX12_ofCode 28 = .ok (.if_icmp .ge 12, 3) := by decide +kernel
theorem dX12_ofCode_31 : decode cX12_ofCode 31 = .ok (.aload_n 0, 1) := by decide +kernel
theorem dX12_ofCode_32 : decode cX12_ofCode 32 = .ok (.iload_n 1, 1) := by decide +kernel
theorem dX12_ofCode_33 : decode cX12_ofCode 33 = .ok (.iload_n 2, 1) := by decide +kernel
theorem dX12_ofCode_34 : decode cX12_ofCode 34 = .ok (.invokevirtual 165, 3) := by decide +kernel
theorem dX12_ofCode_37 : decode cX12_ofCode 37 = .ok (.goto 16, 3) := by decide +kernel
theorem dX12_ofCode_40 : decode cX12_ofCode 40 = .ok (.aload_n 0, 1) := by decide +kernel
theorem dX12_ofCode_41 : decode cX12_ofCode 41 = .ok (.iload_n 1, 1) := by decide +kernel
theorem dX12_ofCode_42 : decode cX12_ofCode 42 = .ok (.invokevirtual 171, 3) := by decide +kernel
theorem dX12_ofCode_45 : decode cX12_ofCode 45 = .ok (.ifCond .eq 7, 3) := by decide +kernel
theorem dX12_ofCode_48 : decode cX12_ofCode 48 = .ok (.iconst 1, 1) := by decide +kernel
theorem dX12_ofCode_49 : decode cX12_ofCode 49 = .ok (.goto 4, 3) := by decide +kernel
theorem dX12_ofCode_52 : decode cX12_ofCode 52 = .ok (.iconst 0, 1) := by decide +kernel
theorem dX12_ofCode_53 : decode cX12_ofCode 53 = .ok (.ireturn, 1) := by decide +kernel
theorem dX12_enter_0 : decode cX12_enter 0 = .ok (.iload_n 1, 1) := by decide +kernel
theorem dX12_enter_1 : decode cX12_enter 1 = .ok (.iconst 0, 1) := by decide +kernel
theorem dX12_enter_2 : decode cX12_enter 2 = .ok (.ldc 174, 2) := by decide +kernel
theorem dX12_enter_4 : decode cX12_enter 4 = .ok (.invokestatic 38, 3) := by decide +kernel
theorem dX12_enter_7 : decode cX12_enter 7 = .ok (.ifCond .ne 10, 3) := by decide +kernel
theorem dX12_enter_10 : decode cX12_enter 10 = .ok (.aload_n 0, 1) := by decide +kernel
theorem dX12_enter_11 : decode cX12_enter 11 = .ok (.ldc 50, 2) := by decide +kernel
theorem dX12_enter_13 : decode cX12_enter 13 = .ok (.invokevirtual 51, 3) := by decide +kernel
theorem dX12_enter_16 : decode cX12_enter 16 = .ok (.ireturn, 1) := by decide +kernel
theorem dX12_enter_17 : decode cX12_enter 17 = .ok (.aload_n 0, 1) := by decide +kernel
theorem dX12_enter_18 : decode cX12_enter 18 = .ok (.getfield 7, 3) := by decide +kernel
theorem dX12_enter_21 : decode cX12_enter 21 = .ok (.iconst 0, 1) := by decide +kernel
theorem dX12_enter_22 : decode cX12_enter 22 = .ok (.iaload, 1) := by decide +kernel
theorem dX12_enter_23 : decode cX12_enter 23 = .ok (.aload_n 0, 1) := by decide +kernel
theorem dX12_enter_24 : decode cX12_enter 24 = .ok (.getfield 7, 3) := by decide +kernel
theorem dX12_enter_27 : decode cX12_enter 27 = .ok (.bipush 14, 2) := by decide +kernel
theorem dX12_enter_29 : decode cX12_enter 29 = .ok (.iaload, 1) := by decide +kernel
theorem dX12_enter_30 : decode cX12_enter 30 = .ok (.if_icmp .lt 16, 3) := by decide +kernel
theorem dX12_enter_33 : decode cX12_enter 33 = .ok (.aload_n 0, 1) := by decide +kernel
theorem dX12_enter_34 : decode cX12_enter 34 = .ok (.getfield 7, 3) := by decide +kernel
theorem dX12_enter_37 : decode cX12_enter 37 = .ok (.iconst 0, 1) := by decide +kernel
theorem dX12_enter_38 : decode cX12_enter 38 = .ok (.iaload, 1) := by decide +kernel
theorem dX12_enter_39 : decode cX12_enter 39 = .ok (.iconst 2, 1) := by decide +kernel
theorem dX12_enter_40 : decode cX12_enter 40 = .ok (.iadd, 1) := by decide +kernel
theorem dX12_enter_41 : decode cX12_enter 41 = .ok (.ldc 174, 2) := by decide +kernel
theorem dX12_enter_43 : decode cX12_enter 43 = .ok (.if_icmp .le 10, 3) := by decide +kernel
theorem dX12_enter_46 : decode cX12_enter 46 = .ok (.aload_n 0, 1) := by decide +kernel
theorem dX12_enter_47 : decode cX12_enter 47 = .ok (.ldc 161, 2) := by decide +kernel
theorem dX12_enter_49 : decode cX12_enter 49 = .ok (.invokevirtual 51, 3) := by decide +kernel
theorem dX12_enter_52 : decode cX12_enter 52 = .ok (.ireturn, 1) := by decide +kernel
theorem dX12_enter_53 : decode cX12_enter 53 = .ok (.aload_n 0, 1) := by decide +kernel
theorem dX12_enter_54 : decode cX12_enter 54 = .ok (.getfield 7, 3) := by decide +kernel
theorem dX12_enter_57 : decode cX12_enter 57 = .ok (.iconst 0, 1) := by decide +kernel
theorem dX12_enter_58 : decode cX12_enter 58 = .ok (.dup2, 1) := by decide +kernel
theorem dX12_enter_59 : decode cX12_enter 59 = .ok (.iaload, 1) := by decide +kernel
theorem dX12_enter_60 : decode cX12_enter 60 = .ok (.iconst 2, 1) := by decide +kernel
theorem dX12_enter_61 : decode cX12_enter 61 = .ok (.iadd, 1) := by decide +kernel
theorem dX12_enter_62 : decode cX12_enter 62 = .ok (.iastore, 1) := by decide +kernel
theorem dX12_enter_63 : decode cX12_enter 63 = .ok (.iconst 0, 1) := by decide +kernel
theorem dX12_enter_64 : decode cX12_enter 64 = .ok (.istore_n 2, 1) := by decide +kernel
theorem dX12_enter_65 : decode cX12_enter 65 = .ok (.iload_n 2, 1) := by decide +kernel
theorem dX12_enter_66 : decode cX12_enter 66 = .ok (.aload_n 0, 1) := by decide +kernel
theorem dX12_enter_67 : decode cX12_enter 67 = .ok (.getfield 7, 3) := by decide +kernel
theorem dX12_enter_70 : decode cX12_enter 70 = .ok (.bipush 7, 2) := by decide +kernel
theorem dX12_enter_72 : decode cX12_enter 72 = .ok (.iaload, 1) := by decide +kernel
theorem dX12_enter_73 : decode cX12_enter 73 = .ok (.if_icmp .ge 27, 3) := by decide +kernel
theorem dX12_enter_76 : decode cX12_enter 76 = .ok (.aload_n 0, 1) := by decide +kernel
theorem dX12_enter_77 : decode cX12_enter 77 = .ok (.iload_n 2, 1) := by decide +kernel
theorem dX12_enter_78 : decode cX12_enter 78 = .ok (.invokevirtual 171, 3) := by decide +kernel
theorem dX12_enter_81 : decode cX12_enter 81 = .ok (.ifCond .eq 13, 3) := by decide +kernel
theorem dX12_enter_84 : decode cX12_enter 84 = .ok (.aload_n 0, 1) := by decide +kernel
theorem dX12_enter_85 : decode cX12_enter 85 = .ok (.iload_n 2, 1) := by decide +kernel
theorem dX12_enter_86 : decode cX12_enter 86 = .ok (.iconst 1, 1) := by decide +kernel
theorem dX12_enter_87 : decode cX12_enter 87 = .ok (.invokevirtual 165, 3) := by decide +kernel
theorem dX12_enter_90 : decode cX12_enter 90 = .ok (.iload_n 1, 1) := by decide +kernel
theorem dX12_enter_91 : decode cX12_enter 91 = .ok (.if_icmp .eq 9, 3) := by decide +kernel
theorem dX12_enter_94 : decode cX12_enter 94 = .ok (.iinc 2 1, 3) := by decide +kernel
theorem dX12_enter_97 : decode cX12_enter 97 = .ok (.goto (-32), 3) := by decide +kernel
theorem dX12_enter_100 : decode cX12_enter 100 = .ok (.iload_n 2, 1) := by decide +kernel
theorem dX12_enter_101 : decode cX12_enter 101 = .ok (.aload_n 0, 1) := by decide +kernel
theorem dX12_enter_102 : decode cX12_enter 102 = .ok (.getfield 7, 3) := by decide +kernel
theorem dX12_enter_105 : decode cX12_enter 105 = .ok (.bipush 7, 2) := by decide +kernel
theorem dX12_enter_107 : decode cX12_enter 107 = .ok (.iaload, 1) := by decide +kernel
theorem dX12_enter_108 : decode cX12_enter 108 = .ok (.if_icmp .ge 51, 3) := by decide +kernel
theorem dX12_enter_111 : decode cX12_enter 111 = .ok (.aload_n 0, 1) := by decide +kernel
theorem dX12_enter_112 : decode cX12_enter 112 = .ok (.getfield 7, 3) := by decide +kernel
theorem dX12_enter_115 : decode cX12_enter 115 = .ok (.bipush 46, 2) := by decide +kernel
theorem dX12_enter_117 : decode cX12_enter 117 = .ok (.bipush 6, 2) := by decide +kernel
theorem dX12_enter_119 : decode cX12_enter 119 = .ok (.iload_n 2, 1) := by decide +kernel
theorem dX12_enter_120 : decode cX12_enter 120 = .ok (.imul, 1) := by decide +kernel
theorem dX12_enter_121 : decode cX12_enter 121 = .ok (.iadd, 1) := by decide +kernel
theorem dX12_enter_122 : decode cX12_enter 122 = .ok (.iconst 5, 1) := by decide +kernel
theorem dX12_enter_123 : decode cX12_enter 123 = .ok (.iadd, 1) := by decide +kernel
theorem dX12_enter_124 : decode cX12_enter 124 = .ok (.iconst 1, 1) := by decide +kernel
theorem dX12_enter_125 : decode cX12_enter 125 = .ok (.iastore, 1) := by decide +kernel
theorem dX12_enter_126 : decode cX12_enter 126 = .ok (.aload_n 0, 1) := by decide +kernel
theorem dX12_enter_127 : decode cX12_enter 127 = .ok (.getfield 7, 3) := by decide +kernel
theorem dX12_enter_130 : decode cX12_enter 130 = .ok (.bipush 15, 2) := by decide +kernel
theorem dX12_enter_132 : decode cX12_enter 132 = .ok (.aload_n 0, 1) := by decide +kernel
theorem dX12_enter_133 : decode cX12_enter 133 = .ok (.getfield 7, 3) := by decide +kernel
theorem dX12_enter_136 : decode cX12_enter 136 = .ok (.bipush 15, 2) := by decide +kernel
theorem dX12_enter_138 : decode cX12_enter 138 = .ok (.iaload, 1) := by decide +kernel
theorem dX12_enter_139 : decode cX12_enter 139 = .ok (.iconst 1, 1) := by decide +kernel
theorem dX12_enter_140 : decode cX12_enter 140 = .ok (.iadd, 1) := by decide +kernel
theorem dX12_enter_141 : decode cX12_enter 141 = .ok (.iconst 0, 1) := by decide +kernel
theorem dX12_enter_142 : decode cX12_enter 142 = .ok (.sipush 9999, 3) := by decide +kernel
theorem dX12_enter_145 : decode cX12_enter 145 = .ok (.invokestatic 141, 3) := by decide +kernel
theorem dX12_enter_148 : decode cX12_enter 148 = .ok (.iastore, 1) := by decide +kernel
theorem dX12_enter_149 : decode cX12_enter 149 = .ok (.aload_n 0, 1) := by decide +kernel
theorem dX12_enter_150 : decode cX12_enter 150 = .ok (.getfield 7, 3) := by decide +kernel
theorem dX12_enter_153 : decode cX12_enter 153 = .ok (.bipush 13, 2) := by decide +kernel
theorem dX12_enter_155 : decode cX12_enter 155 = .ok (.iconst 0, 1) := by decide +kernel
theorem dX12_enter_156 : decode cX12_enter 156 = .ok (.iastore, 1) := by decide +kernel
theorem dX12_enter_157 : decode cX12_enter 157 = .ok (.iconst 1, 1) := by decide +kernel
theorem dX12_enter_158 : decode cX12_enter 158 = .ok (.ireturn, 1) := by decide +kernel
theorem dX12_enter_159 : decode cX12_enter 159 = .ok (.aload_n 0, 1) := by decide +kernel
theorem dX12_enter_160 : decode cX12_enter 160 = .ok (.getfield 7, 3) := by decide +kernel
theorem dX12_enter_163 : decode cX12_enter 163 = .ok (.bipush 13, 2) := by decide +kernel
theorem dX12_enter_165 : decode cX12_enter 165 = .ok (.dup2, 1) := by decide +kernel
theorem dX12_enter_166 : decode cX12_enter 166 = .ok (.iaload, 1) := by decide +kernel
theorem dX12_enter_167 : decode cX12_enter 167 = .ok (.iconst 1, 1) := by decide +kernel
theorem dX12_enter_168 : decode cX12_enter 168 = .ok (.iadd, 1) := by decide +kernel
theorem dX12_enter_169 : decode cX12_enter 169 = .ok (.iastore, 1) := by decide +kernel
theorem dX12_enter_170 : decode cX12_enter 170 = .ok (.aload_n 0, 1) := by decide +kernel
theorem dX12_enter_171 : decode cX12_enter 171 = .ok (.getfield 7, 3) := by decide +kernel
theorem dX12_enter_174 : decode cX12_enter 174 = .ok (.bipush 13, 2) := by decide +kernel
theorem dX12_enter_176 : decode cX12_enter 176 = .ok (.iaload, 1) := by decide +kernel
theorem dX12_enter_177 : decode cX12_enter 177 = .ok (.aload_n 0, 1) := by decide +kernel
theorem dX12_enter_178 : decode cX12_enter 178 = .ok (.getfield 7, 3) := by decide +kernel
theorem dX12_enter_181 : decode cX12_enter 181 = .ok (.bipush 10, 2) := by decide +kernel
theorem dX12_enter_183 : decode cX12_enter 183 = .ok (.iaload, 1) := by decide +kernel
theorem dX12_enter_184 : decode cX12_enter 184 = .ok (.if_icmp .lt 32, 3) := by decide +kernel
theorem dX12_enter_187 : decode cX12_enter 187 = .ok (.aload_n 0, 1) := by decide +kernel
theorem dX12_enter_188 : decode cX12_enter 188 = .ok (.getfield 7, 3) := by decide +kernel
theorem dX12_enter_191 : decode cX12_enter 191 = .ok (.bipush 14, 2) := by decide +kernel
theorem dX12_enter_193 : decode cX12_enter 193 = .ok (.aload_n 0, 1) := by decide +kernel
theorem dX12_enter_194 : decode cX12_enter 194 = .ok (.getfield 7, 3) := by decide +kernel
theorem dX12_enter_197 : decode cX12_enter 197 = .ok (.iconst 0, 1) := by decide +kernel
theorem dX12_enter_198 : decode cX12_enter 198 = .ok (.iaload, 1) := by decide +kernel
theorem dX12_enter_199 : decode cX12_enter 199 = .ok (.aload_n 0, 1) := by decide +kernel
theorem dX12_enter_200 : decode cX12_enter 200 = .ok (.getfield 7, 3) := by decide +kernel
theorem dX12_enter_203 : decode cX12_enter 203 = .ok (.bipush 11, 2) := by decide +kernel
theorem dX12_enter_205 : decode cX12_enter 205 = .ok (.iaload, 1) := by decide +kernel
theorem dX12_enter_206 : decode cX12_enter 206 = .ok (.iadd, 1) := by decide +kernel
theorem dX12_enter_207 : decode cX12_enter 207 = .ok (.iastore, 1) := by decide +kernel
theorem dX12_enter_208 : decode cX12_enter 208 = .ok (.aload_n 0, 1) := by decide +kernel
theorem dX12_enter_209 : decode cX12_enter 209 = .ok (.getfield 7, 3) := by decide +kernel
theorem dX12_enter_212 : decode cX12_enter 212 = .ok (.bipush 13, 2) := by decide +kernel
theorem dX12_enter_214 : decode cX12_enter 214 = .ok (.iconst 0, 1) := by decide +kernel
theorem dX12_enter_215 : decode cX12_enter 215 = .ok (.iastore, 1) := by decide +kernel
theorem dX12_enter_216 : decode cX12_enter 216 = .ok (.iconst 0, 1) := by decide +kernel
theorem dX12_enter_217 : decode cX12_enter 217 = .ok (.ireturn, 1) := by decide +kernel
theorem dX12_pass_0 : decode cX12_pass 0 = .ok (.iload_n 1, 1) := by decide +kernel
theorem dX12_pass_1 : decode cX12_pass 1 = .ok (.iconst 1, 1) := by decide +kernel
theorem dX12_pass_2 : decode cX12_pass 2 = .ok (.sipush 9999, 3) := by decide +kernel
theorem dX12_pass_5 : decode cX12_pass 5 = .ok (.invokestatic 38, 3) := by decide +kernel
theorem dX12_pass_8 : decode cX12_pass 8 = .ok (.ifCond .ne 10, 3) := by decide +kernel
theorem dX12_pass_11 : decode cX12_pass 11 = .ok (.aload_n 0, 1) := by decide +kernel
theorem dX12_pass_12 : decode cX12_pass 12 = .ok (.ldc 50, 2) := by decide +kernel
theorem dX12_pass_14 : decode cX12_pass 14 = .ok (.invokevirtual 51, 3) := by decide +kernel
theorem dX12_pass_17 : decode cX12_pass 17 = .ok (.ireturn, 1) := by decide +kernel
theorem dX12_pass_18 : decode cX12_pass 18 = .ok (.aload_n 0, 1) := by decide +kernel
theorem dX12_pass_19 : decode cX12_pass 19 = .ok (.getfield 7, 3) := by decide +kernel
theorem dX12_pass_22 : decode cX12_pass 22 = .ok (.iconst 0, 1) := by decide +kernel
theorem dX12_pass_23 : decode cX12_pass 23 = .ok (.iaload, 1) := by decide +kernel
theorem dX12_pass_24 : decode cX12_pass 24 = .ok (.iload_n 1, 1) := by decide +kernel
theorem dX12_pass_25 : decode cX12_pass 25 = .ok (.iadd, 1) := by decide +kernel
theorem dX12_pass_26 : decode cX12_pass 26 = .ok (.ldc 174, 2) := by decide +kernel
theorem dX12_pass_28 : decode cX12_pass 28 = .ok (.if_icmp .le 10, 3) := by decide +kernel
theorem dX12_pass_31 : decode cX12_pass 31 = .ok (.aload_n 0, 1) := by decide +kernel
theorem dX12_pass_32 : decode cX12_pass 32 = .ok (.ldc 161, 2) := by decide +kernel
theorem dX12_pass_34 : decode cX12_pass 34 = .ok (.invokevirtual 51, 3) := by decide +kernel
theorem dX12_pass_37 : decode cX12_pass 37 = .ok (.ireturn, 1) := by decide +kernel
theorem dX12_pass_38 : decode cX12_pass 38 = .ok (.aload_n 0, 1) := by decide +kernel
theorem dX12_pass_39 : decode cX12_pass 39 = .ok (.getfield 7, 3) := by decide +kernel
theorem dX12_pass_42 : decode cX12_pass 42 = .ok (.iconst 0, 1) := by decide +kernel
theorem dX12_pass_43 : decode cX12_pass 43 = .ok (.dup2, 1) := by decide +kernel
theorem dX12_pass_44 : decode cX12_pass 44 = .ok (.iaload, 1) := by decide +kernel
theorem dX12_pass_45 : decode cX12_pass 45 = .ok (.iload_n 1, 1) := by decide +kernel
theorem dX12_pass_46 : decode cX12_pass 46 = .ok (.iadd, 1) := by decide +kernel
theorem dX12_pass_47 : decode cX12_pass 47 = .ok (.iastore, 1) := by decide +kernel
theorem dX12_pass_48 : decode cX12_pass 48 = .ok (.aload_n 0, 1) := by decide +kernel
theorem dX12_pass_49 : decode cX12_pass 49 = .ok (.getfield 7, 3) := by decide +kernel
theorem dX12_pass_52 : decode cX12_pass 52 = .ok (.iconst 0, 1) := by decide +kernel
theorem dX12_pass_53 : decode cX12_pass 53 = .ok (.iaload, 1) := by decide +kernel
theorem dX12_pass_54 : decode cX12_pass 54 = .ok (.ireturn, 1) := by decide +kernel
theorem dX12_loose_0 : decode cX12_loose 0 = .ok (.iload_n 1, 1) := by decide +kernel
theorem dX12_loose_1 : decode cX12_loose 1 = .ok (.iconst 1, 1) := by decide +kernel
theorem dX12_loose_2 : decode cX12_loose 2 = .ok (.bipush 60, 2) := by decide +kernel
theorem dX12_loose_4 : decode cX12_loose 4 = .ok (.invokestatic 38, 3) := by decide +kernel
theorem dX12_loose_7 : decode cX12_loose 7 = .ok (.ifCond .ne 10, 3) := by decide +kernel
theorem dX12_loose_10 : decode cX12_loose 10 = .ok (.aload_n 0, 1) := by decide +kernel
theorem dX12_loose_11 : decode cX12_loose 11 = .ok (.ldc 50, 2) := by decide +kernel
theorem dX12_loose_13 : decode cX12_loose 13 = .ok (.invokevirtual 51, 3) := by decide +kernel
theorem dX12_loose_16 : decode cX12_loose 16 = .ok (.ireturn, 1) := by decide +kernel
theorem dX12_loose_17 : decode cX12_loose 17 = .ok (.aload_n 0, 1) := by decide +kernel
theorem dX12_loose_18 : decode cX12_loose 18 = .ok (.getfield 7, 3) := by decide +kernel
theorem dX12_loose_21 : decode cX12_loose 21 = .ok (.iconst 0, 1) := by decide +kernel
theorem dX12_loose_22 : decode cX12_loose 22 = .ok (.iaload, 1) := by decide +kernel
theorem dX12_loose_23 : decode cX12_loose 23 = .ok (.iload_n 1, 1) := by decide +kernel
theorem dX12_loose_24 : decode cX12_loose 24 = .ok (.iadd, 1) := by decide +kernel
theorem dX12_loose_25 : decode cX12_loose 25 = .ok (.ldc 174, 2) := by decide +kernel
theorem dX12_loose_27 : decode cX12_loose 27 = .ok (.if_icmp .le 10, 3) := by decide +kernel
theorem dX12_loose_30 : decode cX12_loose 30 = .ok (.aload_n 0, 1) := by decide +kernel
theorem dX12_loose_31 : decode cX12_loose 31 = .ok (.ldc 161, 2) := by decide +kernel
theorem dX12_loose_33 : decode cX12_loose 33 = .ok (.invokevirtual 51, 3) := by decide +kernel
theorem dX12_loose_36 : decode cX12_loose 36 = .ok (.ireturn, 1) := by decide +kernel
theorem dX12_loose_37 : decode cX12_loose 37 = .ok (.iconst 0, 1) := by decide +kernel
theorem dX12_loose_38 : decode cX12_loose 38 = .ok (.istore_n 2, 1) := by decide +kernel
theorem dX12_loose_39 : decode cX12_loose 39 = .ok (.iconst 0, 1) := by decide +kernel
theorem dX12_loose_40 : decode cX12_loose 40 = .ok (.istore_n 3, 1) := by decide +kernel
theorem dX12_loose_41 : decode cX12_loose 41 = .ok (.iload_n 3, 1) := by decide +kernel
theorem dX12_loose_42 : decode cX12_loose 42 = .ok (.iload_n 1, 1) := by decide +kernel
theorem dX12_loose_43 : decode cX12_loose 43 = .ok (.if_icmp .ge 79, 3) := by decide +kernel
theorem dX12_loose_46 : decode cX12_loose 46 = .ok (.aload_n 0, 1) := by decide +kernel
theorem dX12_loose_47 : decode cX12_loose 47 = .ok (.iconst 4, 1) := by decide +kernel
theorem dX12_loose_48 : decode cX12_loose 48 = .ok (.invokevirtual 158, 3) := by decide +kernel
theorem dX12_loose_51 : decode cX12_loose 51 = .ok (.istore 4, 2) := by decide +kernel
theorem dX12_loose_53 : decode cX12_loose 53 = .ok (.aload_n 0, 1) := by decide +kernel
theorem dX12_loose_54 : decode cX12_loose 54 = .ok (.getfield 7, 3) := by decide +kernel
theorem dX12_loose_57 : decode cX12_loose 57 = .ok (.iconst 2, 1) := by decide +kernel
theorem dX12_loose_58 : decode cX12_loose 58 = .ok (.iaload, 1) := by decide +kernel
theorem dX12_loose_59 : decode cX12_loose 59 = .ok (.ifCond .le 47, 3) := by decide +kernel
theorem dX12_loose_62 : decode cX12_loose 62 = .ok (.iload 4, 2) := by decide +kernel
theorem dX12_loose_64 : decode cX12_loose 64 = .ok (.ifCond .ne 42, 3) := by decide +kernel
theorem dX12_loose_67 : decode cX12_loose 67 = .ok (.aload_n 0, 1) := by decide +kernel
theorem dX12_loose_68 : decode cX12_loose 68 = .ok (.aload_n 0, 1) := by decide +kernel
theorem dX12_loose_69 : decode cX12_loose 69 = .ok (.getfield 7, 3) := by decide +kernel
theorem dX12_loose_72 : decode cX12_loose 72 = .ok (.iconst 2, 1) := by decide +kernel
theorem dX12_loose_73 : decode cX12_loose 73 = .ok (.iaload, 1) := by decide +kernel
theorem dX12_loose_74 : decode cX12_loose 74 = .ok (.invokevirtual 158, 3) := by decide +kernel
theorem dX12_loose_77 : decode cX12_loose 77 = .ok (.istore 5, 2) := by decide +kernel
theorem dX12_loose_79 : decode cX12_loose 79 = .ok (.aload_n 0, 1) := by decide +kernel
theorem dX12_loose_80 : decode cX12_loose 80 = .ok (.iload 5, 2) := by decide +kernel
theorem dX12_loose_82 : decode cX12_loose 82 = .ok (.iconst 4, 1) := by decide +kernel
theorem dX12_loose_83 : decode cX12_loose 83 = .ok (.invokevirtual 64, 3) := by decide +kernel
theorem dX12_loose_86 : decode cX12_loose 86 = .ok (.ifCond .ne 20, 3) := by decide +kernel
theorem dX12_loose_89 : decode cX12_loose 89 = .ok (.iload_n 2, 1) := by decide +kernel
theorem dX12_loose_90 : decode cX12_loose 90 = .ok (.aload_n 0, 1) := by decide +kernel
theorem dX12_loose_91 : decode cX12_loose 91 = .ok (.iload 5, 2) := by decide +kernel
theorem dX12_loose_93 : decode cX12_loose 93 = .ok (.invokevirtual 162, 3) := by decide +kernel
theorem dX12_loose_96 : decode cX12_loose 96 = .ok (.ifCond .ge 7, 3) := by decide +kernel
theorem dX12_loose_99 : decode cX12_loose 99 = .ok (.iconst 0, 1) := by decide +kernel
theorem dX12_loose_100 : decode cX12_loose 100 = .ok (.goto 4, 3) := by decide +kernel
theorem dX12_loose_103 : decode cX12_loose 103 = .ok (.iconst 1, 1) := by decide +kernel
theorem dX12_loose_104 : decode cX12_loose 104 = .ok (.iadd, 1) := by decide +kernel
theorem dX12_loose_105 : decode cX12_loose 105 = .ok (.istore_n 2, 1) := by decide +kernel
theorem dX12_loose_106 : decode cX12_loose 106 = .ok (.aload_n 0, 1) := by decide +kernel
theorem dX12_loose_107 : decode cX12_loose 107 = .ok (.getfield 7, 3) := by decide +kernel
theorem dX12_loose_110 : decode cX12_loose 110 = .ok (.iconst 0, 1) := by decide +kernel
theorem dX12_loose_111 : decode cX12_loose 111 = .ok (.dup2, 1) := by decide +kernel
theorem dX12_loose_112 : decode cX12_loose 112 = .ok (.iaload, 1) := by decide +kernel
theorem dX12_loose_113 : decode cX12_loose 113 = .ok (.iconst 1, 1) := by decide +kernel
theorem dX12_loose_114 : decode cX12_loose 114 = .ok (.iadd, 1) := by decide +kernel
theorem dX12_loose_115 : decode cX12_loose 115 = .ok (.iastore, 1) := by decide +kernel
theorem dX12_loose_116 : decode cX12_loose 116 = .ok (.iinc 3 1, 3) := by decide +kernel
theorem dX12_loose_119 : decode cX12_loose 119 = .ok (.goto (-78), 3) := by decide +kernel
theorem dX12_loose_122 : decode cX12_loose 122 = .ok (.iload_n 2, 1) := by decide +kernel
theorem dX12_loose_123 : decode cX12_loose 123 = .ok (.ireturn, 1) := by decide +kernel
theorem dX12_backAt_0 : decode cX12_backAt 0 = .ok (.aload_n 0, 1) := by decide +kernel
theorem dX12_backAt_1 : decode cX12_backAt 1 = .ok (.iload_n 1, 1) := by decide +kernel
theorem dX12_backAt_2 : decode cX12_backAt 2 = .ok (.iconst 2, 1) := by decide +kernel
theorem dX12_backAt_3 : decode cX12_backAt 3 = .ok (.invokevirtual 64, 3) := by decide +kernel
theorem dX12_backAt_6 : decode cX12_backAt 6 = .ok (.istore_n 3, 1) := by decide +kernel
theorem dX12_backAt_7 : decode cX12_backAt 7 = .ok (.iload_n 2, 1) := by decide +kernel
theorem dX12_backAt_8 : decode cX12_backAt 8 = .ok (.iconst 2, 1) := by decide +kernel
theorem dX12_backAt_9 : decode cX12_backAt 9 = .ok (.iload_n 3, 1) := by decide +kernel
theorem dX12_backAt_10 : decode cX12_backAt 10 = .ok (.imul, 1) := by decide +kernel
theorem dX12_backAt_11 : decode cX12_backAt 11 = .ok (.iadd, 1) := by decide +kernel
theorem dX12_backAt_12 : decode cX12_backAt 12 = .ok (.istore 4, 2) := by decide +kernel
theorem dX12_backAt_14 : decode cX12_backAt 14 = .ok (.iload_n 2, 1) := by decide +kernel
theorem dX12_backAt_15 : decode cX12_backAt 15 = .ok (.aload_n 0, 1) := by decide +kernel
theorem dX12_backAt_16 : decode cX12_backAt 16 = .ok (.iload_n 1, 1) := by decide +kernel
theorem dX12_backAt_17 : decode cX12_backAt 17 = .ok (.iload_n 2, 1) := by decide +kernel
theorem dX12_backAt_18 : decode cX12_backAt 18 = .ok (.invokevirtual 67, 3) := by decide +kernel
theorem dX12_backAt_21 : decode cX12_backAt 21 = .ok (.iadd, 1) := by decide +kernel
theorem dX12_backAt_22 : decode cX12_backAt 22 = .ok (.iload_n 3, 1) := by decide +kernel
theorem dX12_backAt_23 : decode cX12_backAt 23 = .ok (.iadd, 1) := by decide +kernel
theorem dX12_backAt_24 : decode cX12_backAt 24 = .ok (.istore 5, 2) := by decide +kernel
theorem dX12_backAt_26 : decode cX12_backAt 26 = .ok (.iload 4, 2) := by decide +kernel
theorem dX12_backAt_28 : decode cX12_backAt 28 = .ok (.iload 5, 2) := by decide +kernel
theorem dX12_backAt_30 : decode cX12_backAt 30 = .ok (.if_icmp .le 8, 3) := by decide +kernel
theorem dX12_backAt_33 : decode cX12_backAt 33 = .ok (.iload 4, 2) := by decide +kernel
theorem dX12_backAt_35 : decode cX12_backAt 35 = .ok (.goto 5, 3) := by decide +kernel
theorem dX12_backAt_38 : decode cX12_backAt 38 = .ok (.iload 5, 2) := by decide +kernel
theorem dX12_backAt_40 : decode cX12_backAt 40 = .ok (.ireturn, 1) := by decide +kernel
theorem dX12_getsInAt_0 : decode cX12_getsInAt 0 = .ok (.aload_n 0, 1) := by decide +kernel
theorem dX12_getsInAt_1 : decode cX12_getsInAt 1 = .ok (.iload_n 1, 1) := by decide +kernel
theorem dX12_getsInAt_2 : decode cX12_getsInAt 2 = .ok (.iload_n 2, 1) := by decide +kernel
theorem dX12_getsInAt_3 : decode cX12_getsInAt 3 = .ok (.invokevirtual 175, 3) := by decide +kernel
theorem dX12_getsInAt_6 : decode cX12_getsInAt 6 = .ok (.istore_n 3, 1) := by decide +kernel
theorem dX12_getsInAt_7 : decode cX12_getsInAt 7 = .ok (.iload_n 3, 1) := by decide +kernel
theorem dX12_getsInAt_8 : decode cX12_getsInAt 8 = .ok (.aload_n 0, 1) := by decide +kernel
theorem dX12_getsInAt_9 : decode cX12_getsInAt 9 = .ok (.getfield 7, 3) := by decide +kernel
theorem dX12_getsInAt_12 : decode cX12_getsInAt 12 = .ok (.bipush 14, 2) := by decide +kernel
theorem dX12_getsInAt_14 : decode cX12_getsInAt 14 = .ok (.iaload, 1) := by decide +kernel
theorem dX12_getsInAt_15 : decode cX12_getsInAt 15 = .ok (.if_icmp .lt 48, 3) := by decide +kernel
theorem dX12_getsInAt_18 : decode cX12_getsInAt 18 = .ok (.iload_n 3, 1) := by decide +kernel
theorem dX12_getsInAt_19 : decode cX12_getsInAt 19 = .ok (.iconst 2, 1) := by decide +kernel
theorem dX12_getsInAt_20 : decode cX12_getsInAt 20 = .ok (.iadd, 1) := by decide +kernel
theorem dX12_getsInAt_21 : decode cX12_getsInAt 21 = .ok (.iload_n 2, 1) := by decide +kernel
theorem dX12_getsInAt_22 : decode cX12_getsInAt 22 = .ok (.aload_n 0, 1) := by decide +kernel
theorem dX12_getsInAt_23 : decode cX12_getsInAt 23 = .ok (.iload_n 1, 1) := by decide +kernel
theorem dX12_getsInAt_24 : decode cX12_getsInAt 24 = .ok (.invokevirtual 70, 3) := by decide +kernel
theorem dX12_getsInAt_27 : decode cX12_getsInAt 27 = .ok (.iadd, 1) := by decide +kernel
theorem dX12_getsInAt_28 : decode cX12_getsInAt 28 = .ok (.if_icmp .gt 35, 3) := by decide +kernel
theorem dX12_getsInAt_31 : decode cX12_getsInAt 31 = .ok (.aload_n 0, 1) := by decide +kernel
theorem dX12_getsInAt_32 : decode cX12_getsInAt 32 = .ok (.iconst 1, 1) := by decide +kernel
theorem dX12_getsInAt_33 : decode cX12_getsInAt 33 = .ok (.aload_n 0, 1) := by decide +kernel
theorem dX12_getsInAt_34 : decode cX12_getsInAt 34 = .ok (.iload_n 1, 1) := by decide +kernel
theorem dX12_getsInAt_35 : decode cX12_getsInAt 35 = .ok (.iconst 2, 1) := by decide +kernel
theorem dX12_getsInAt_36 : decode cX12_getsInAt 36 = .ok (.invokevirtual 64, 3) := by decide +kernel
theorem dX12_getsInAt_39 : decode cX12_getsInAt 39 = .ok (.aload_n 0, 1) := by decide +kernel
theorem dX12_getsInAt_40 : decode cX12_getsInAt 40 = .ok (.getfield 7, 3) := by decide +kernel
theorem dX12_getsInAt_43 : decode cX12_getsInAt 43 = .ok (.bipush 8, 2) := by decide +kernel
theorem dX12_getsInAt_45 : decode cX12_getsInAt 45 = .ok (.iaload, 1) := by decide +kernel
theorem dX12_getsInAt_46 : decode cX12_getsInAt 46 = .ok (.aload_n 0, 1) := by decide +kernel
theorem dX12_getsInAt_47 : decode cX12_getsInAt 47 = .ok (.getfield 7, 3) := by decide +kernel
theorem dX12_getsInAt_50 : decode cX12_getsInAt 50 = .ok (.bipush 13, 2) := by decide +kernel
theorem dX12_getsInAt_52 : decode cX12_getsInAt 52 = .ok (.iaload, 1) := by decide +kernel
theorem dX12_getsInAt_53 : decode cX12_getsInAt 53 = .ok (.invokevirtual 145, 3) := by decide +kernel
theorem dX12_getsInAt_56 : decode cX12_getsInAt 56 = .ok (.ifCond .ne 7, 3) := by decide +kernel
theorem dX12_getsInAt_59 : decode cX12_getsInAt 59 = .ok (.iconst 1, 1) := by decide +kernel
theorem dX12_getsInAt_60 : decode cX12_getsInAt 60 = .ok (.goto 4, 3) := by decide +kernel
theorem dX12_getsInAt_63 : decode cX12_getsInAt 63 = .ok (.iconst 0, 1) := by decide +kernel
theorem dX12_getsInAt_64 : decode cX12_getsInAt 64 = .ok (.ireturn, 1) := by decide +kernel
theorem dX12_takes_0 : decode cX12_takes 0 = .ok (.aload_n 0, 1) := by decide +kernel
theorem dX12_takes_1 : decode cX12_takes 1 = .ok (.iload_n 1, 1) := by decide +kernel
theorem dX12_takes_2 : decode cX12_takes 2 = .ok (.aload_n 0, 1) := by decide +kernel
theorem dX12_takes_3 : decode cX12_takes 3 = .ok (.getfield 7, 3) := by decide +kernel
theorem dX12_takes_6 : decode cX12_takes 6 = .ok (.iconst 0, 1) := by decide +kernel
theorem dX12_takes_7 : decode cX12_takes 7 = .ok (.iaload, 1) := by decide +kernel
theorem dX12_takes_8 : decode cX12_takes 8 = .ok (.invokevirtual 175, 3) := by decide +kernel
theorem dX12_takes_11 : decode cX12_takes 11 = .ok (.iconst 2, 1) := by decide +kernel
theorem dX12_takes_12 : decode cX12_takes 12 = .ok (.iadd, 1) := by decide +kernel
theorem dX12_takes_13 : decode cX12_takes 13 = .ok (.aload_n 0, 1) := by decide +kernel
theorem dX12_takes_14 : decode cX12_takes 14 = .ok (.getfield 7, 3) := by decide +kernel
theorem dX12_takes_17 : decode cX12_takes 17 = .ok (.iconst 0, 1) := by decide +kernel
theorem dX12_takes_18 : decode cX12_takes 18 = .ok (.iaload, 1) := by decide +kernel
theorem dX12_takes_19 : decode cX12_takes 19 = .ok (.isub, 1) := by decide +kernel
theorem dX12_takes_20 : decode cX12_takes 20 = .ok (.ireturn, 1) := by decide +kernel
theorem dX12_fetched_0 : decode cX12_fetched 0 = .ok (.aload_n 0, 1) := by decide +kernel
theorem dX12_fetched_1 : decode cX12_fetched 1 = .ok (.iload_n 1, 1) := by decide +kernel
theorem dX12_fetched_2 : decode cX12_fetched 2 = .ok (.invokevirtual 60, 3) := by decide +kernel
theorem dX12_fetched_5 : decode cX12_fetched 5 = .ok (.ifCond .eq 12, 3) := by decide +kernel
theorem dX12_fetched_8 : decode cX12_fetched 8 = .ok (.iload_n 2, 1) := by decide +kernel
theorem dX12_fetched_9 : decode cX12_fetched 9 = .ok (.iconst 0, 1) := by decide +kernel
theorem dX12_fetched_10 : decode cX12_fetched 10 = .ok (.iconst 1, 1) := by decide +kernel
theorem dX12_fetched_11 : decode cX12_fetched 11 = .ok (.invokestatic 38, 3) := by decide +kernel
theorem dX12_fetched_14 : decode cX12_fetched 14 = .ok (.ifCond .ne 10, 3) := by decide +kernel
theorem dX12_fetched_17 : decode cX12_fetched 17 = .ok (.aload_n 0, 1) := by decide +kernel
theorem dX12_fetched_18 : decode cX12_fetched 18 = .ok (.ldc 50, 2) := by decide +kernel
theorem dX12_fetched_20 : decode cX12_fetched 20 = .ok (.invokevirtual 51, 3) := by decide +kernel
theorem dX12_fetched_23 : decode cX12_fetched 23 = .ok (.ireturn, 1) := by decide +kernel
theorem dX12_fetched_24 : decode cX12_fetched 24 = .ok (.aload_n 0, 1) := by decide +kernel
theorem dX12_fetched_25 : decode cX12_fetched 25 = .ok (.iload_n 1, 1) := by decide +kernel
theorem dX12_fetched_26 : decode cX12_fetched 26 = .ok (.iconst 4, 1) := by decide +kernel
theorem dX12_fetched_27 : decode cX12_fetched 27 = .ok (.invokevirtual 64, 3) := by decide +kernel
theorem dX12_fetched_30 : decode cX12_fetched 30 = .ok (.iconst 1, 1) := by decide +kernel
theorem dX12_fetched_31 : decode cX12_fetched 31 = .ok (.if_icmp .ne 10, 3) := by decide +kernel
theorem dX12_fetched_34 : decode cX12_fetched 34 = .ok (.aload_n 0, 1) := by decide +kernel
theorem dX12_fetched_35 : decode cX12_fetched 35 = .ok (.ldc 161, 2) := by decide +kernel
theorem dX12_fetched_37 : decode cX12_fetched 37 = .ok (.invokevirtual 51, 3) := by decide +kernel
theorem dX12_fetched_40 : decode cX12_fetched 40 = .ok (.ireturn, 1) := by decide +kernel
theorem dX12_fetched_41 : decode cX12_fetched 41 = .ok (.iload_n 2, 1) := by decide +kernel
theorem dX12_fetched_42 : decode cX12_fetched 42 = .ok (.iconst 1, 1) := by decide +kernel
theorem dX12_fetched_43 : decode cX12_fetched 43 = .ok (.if_icmp .ne 11, 3) := by decide +kernel
theorem dX12_fetched_46 : decode cX12_fetched 46 = .ok (.aload_n 0, 1) := by decide +kernel
theorem dX12_fetched_47 : decode cX12_fetched 47 = .ok (.iload_n 1, 1) := by decide +kernel
theorem dX12_fetched_48 : decode cX12_fetched 48 = .ok (.invokevirtual 178, 3) := by decide +kernel
theorem dX12_fetched_51 : decode cX12_fetched 51 = .ok (.goto 22, 3) := by decide +kernel
theorem dX12_fetched_54 : decode cX12_fetched 54 = .ok (.aload_n 0, 1) := by decide +kernel
theorem dX12_fetched_55 : decode cX12_fetched 55 = .ok (.iload_n 1, 1) := by decide +kernel
theorem dX12_fetched_56 : decode cX12_fetched 56 = .ok (.aload_n 0, 1) := by decide +kernel
theorem dX12_fetched_57 : decode cX12_fetched 57 = .ok (.getfield 7, 3) := by decide +kernel
theorem dX12_fetched_60 : decode cX12_fetched 60 = .ok (.iconst 0, 1) := by decide +kernel
theorem dX12_fetched_61 : decode cX12_fetched 61 = .ok (.iaload, 1) := by decide +kernel
theorem dX12_fetched_62 : decode cX12_fetched 62 = .ok (.invokevirtual 181, 3) := by decide +kernel
theorem dX12_fetched_65 : decode cX12_fetched 65 = .ok (.ifCond .eq 7, 3) := by decide +kernel
theorem dX12_fetched_68 : decode cX12_fetched 68 = .ok (.iconst 1, 1) := by decide +kernel
theorem dX12_fetched_69 : decode cX12_fetched 69 = .ok (.goto 4, 3) := by decide +kernel
theorem dX12_fetched_72 : decode cX12_fetched 72 = .ok (.iconst 0, 1) := by decide +kernel
theorem dX12_fetched_73 : decode cX12_fetched 73 = .ok (.ireturn, 1) := by decide +kernel
theorem dX12_holdFor_0 : decode cX12_holdFor 0 = .ok (.aload_n 0, 1) := by decide +kernel
theorem dX12_holdFor_1 : decode cX12_holdFor 1 = .ok (.iload_n 1, 1) := by decide +kernel
theorem dX12_holdFor_2 : decode cX12_holdFor 2 = .ok (.invokevirtual 60, 3) := by decide +kernel
theorem dX12_holdFor_5 : decode cX12_holdFor 5 = .ok (.ifCond .ne 10, 3) := by decide +kernel
theorem dX12_holdFor_8 : decode cX12_holdFor 8 = .ok (.aload_n 0, 1) := by decide +kernel
theorem dX12_holdFor_9 : decode cX12_holdFor 9 = .ok (.ldc 50, 2) := by decide +kernel
theorem dX12_holdFor_11 : decode cX12_holdFor 11 = .ok (.invokevirtual 51, 3) := by decide +kernel
theorem dX12_holdFor_14 : decode cX12_holdFor 14 = .ok (.ireturn, 1) := by decide +kernel
theorem dX12_holdFor_15 : decode cX12_holdFor 15 = .ok (.aload_n 0, 1) := by decide +kernel
theorem dX12_holdFor_16 : decode cX12_holdFor 16 = .ok (.iload_n 1, 1) := by decide +kernel
theorem dX12_holdFor_17 : decode cX12_holdFor 17 = .ok (.iconst 4, 1) := by decide +kernel
theorem dX12_holdFor_18 : decode cX12_holdFor 18 = .ok (.invokevirtual 64, 3) := by decide +kernel
theorem dX12_holdFor_21 : decode cX12_holdFor 21 = .ok (.iconst 1, 1) := by decide +kernel
theorem dX12_holdFor_22 : decode cX12_holdFor 22 = .ok (.if_icmp .ne 10, 3) := by decide +kernel
theorem dX12_holdFor_25 : decode cX12_holdFor 25 = .ok (.aload_n 0, 1) := by decide +kernel
theorem dX12_holdFor_26 : decode cX12_holdFor 26 = .ok (.ldc 161, 2) := by decide +kernel
theorem dX12_holdFor_28 : decode cX12_holdFor 28 = .ok (.invokevirtual 51, 3) := by decide +kernel
theorem dX12_holdFor_31 : decode cX12_holdFor 31 = .ok (.ireturn, 1) := by decide +kernel
theorem dX12_holdFor_32 : decode cX12_holdFor 32 = .ok (.aload_n 0, 1) := by decide +kernel
theorem dX12_holdFor_33 : decode cX12_holdFor 33 = .ok (.getfield 7, 3) := by decide +kernel
theorem dX12_holdFor_36 : decode cX12_holdFor 36 = .ok (.bipush 9, 2) := by decide +kernel
theorem dX12_holdFor_38 : decode cX12_holdFor 38 = .ok (.iaload, 1) := by decide +kernel
theorem dX12_holdFor_39 : decode cX12_holdFor 39 = .ok (.istore_n 2, 1) := by decide +kernel
theorem dX12_holdFor_40 : decode cX12_holdFor 40 = .ok (.iconst 1, 1) := by decide +kernel
theorem dX12_holdFor_41 : decode cX12_holdFor 41 = .ok (.istore_n 3, 1) := by decide +kernel
theorem dX12_holdFor_42 : decode cX12_holdFor 42 = .ok (.aload_n 0, 1) := by decide +kernel
theorem dX12_holdFor_43 : decode cX12_holdFor 43 = .ok (.getfield 7, 3) := by decide +kernel
theorem dX12_holdFor_46 : decode cX12_holdFor 46 = .ok (.bipush 9, 2) := by decide +kernel
theorem dX12_holdFor_48 : decode cX12_holdFor 48 = .ok (.iload_n 3, 1) := by decide +kernel
theorem dX12_holdFor_49 : decode cX12_holdFor 49 = .ok (.iastore, 1) := by decide +kernel
theorem dX12_holdFor_50 : decode cX12_holdFor 50 = .ok (.iload_n 3, 1) := by decide +kernel
theorem dX12_holdFor_51 : decode cX12_holdFor 51 = .ok (.sipush 300, 3) := by decide +kernel
theorem dX12_holdFor_54 : decode cX12_holdFor 54 = .ok (.if_icmp .gt 31, 3) := by decide +kernel
theorem dX12_holdFor_57 : decode cX12_holdFor 57 = .ok (.aload_n 0, 1) := by decide +kernel
theorem dX12_holdFor_58 : decode cX12_holdFor 58 = .ok (.iload_n 1, 1) := by decide +kernel
theorem dX12_holdFor_59 : decode cX12_holdFor 59 = .ok (.aload_n 0, 1) := by decide +kernel
theorem dX12_holdFor_60 : decode cX12_holdFor 60 = .ok (.getfield 7, 3) := by decide +kernel
theorem dX12_holdFor_63 : decode cX12_holdFor 63 = .ok (.iconst 0, 1) := by decide +kernel
theorem dX12_holdFor_64 : decode cX12_holdFor 64 = .ok (.iaload, 1) := by decide +kernel
theorem dX12_holdFor_65 : decode cX12_holdFor 65 = .ok (.invokevirtual 181, 3) := by decide +kernel
theorem dX12_holdFor_68 : decode cX12_holdFor 68 = .ok (.ifCond .ne 17, 3) := by decide +kernel
theorem dX12_holdFor_71 : decode cX12_holdFor 71 = .ok (.iinc 3 1, 3) := by decide +kernel
theorem dX12_holdFor_74 : decode cX12_holdFor 74 = .ok (.aload_n 0, 1) := by decide +kernel
theorem dX12_holdFor_75 : decode cX12_holdFor 75 = .ok (.getfield 7, 3) := by decide +kernel
theorem dX12_holdFor_78 : decode cX12_holdFor 78 = .ok (.bipush 9, 2) := by decide +kernel
theorem dX12_holdFor_80 : decode cX12_holdFor 80 = .ok (.iload_n 3, 1) := by decide +kernel
theorem dX12_holdFor_81 : decode cX12_holdFor 81 = .ok (.iastore, 1) := by decide +kernel
theorem dX12_holdFor_82 : decode cX12_holdFor 82 = .ok (.goto (-32), 3) := by decide +kernel
theorem dX12_holdFor_85 : decode cX12_holdFor 85 = .ok (.aload_n 0, 1) := by decide +kernel
theorem dX12_holdFor_86 : decode cX12_holdFor 86 = .ok (.getfield 7, 3) := by decide +kernel
theorem dX12_holdFor_89 : decode cX12_holdFor 89 = .ok (.bipush 9, 2) := by decide +kernel
theorem dX12_holdFor_91 : decode cX12_holdFor 91 = .ok (.iload_n 2, 1) := by decide +kernel
theorem dX12_holdFor_92 : decode cX12_holdFor 92 = .ok (.iastore, 1) := by decide +kernel
theorem dX12_holdFor_93 : decode cX12_holdFor 93 = .ok (.iload_n 3, 1) := by decide +kernel
theorem dX12_holdFor_94 : decode cX12_holdFor 94 = .ok (.sipush 300, 3) := by decide +kernel
theorem dX12_holdFor_97 : decode cX12_holdFor 97 = .ok (.if_icmp .le 12, 3) := by decide +kernel
theorem dX12_holdFor_100 : decode cX12_holdFor 100 = .ok (.aload_n 0, 1) := by decide +kernel
theorem dX12_holdFor_101 : decode cX12_holdFor 101 = .ok (.ldc 184, 2) := by decide +kernel
theorem dX12_holdFor_103 : decode cX12_holdFor 103 = .ok (.invokevirtual 51, 3) := by decide +kernel
theorem dX12_holdFor_106 : decode cX12_holdFor 106 = .ok (.goto 4, 3) := by decide +kernel
theorem dX12_holdFor_109 : decode cX12_holdFor 109 = .ok (.iload_n 3, 1) := by decide +kernel
theorem dX12_holdFor_110 : decode cX12_holdFor 110 = .ok (.ireturn, 1) := by decide +kernel
theorem dX12_fastest_0 : decode cX12_fastest 0 = .ok (.iload_n 1, 1) := by decide +kernel
theorem dX12_fastest_1 : decode cX12_fastest 1 = .ok (.iconst 0, 1) := by decide +kernel
theorem dX12_fastest_2 : decode cX12_fastest 2 = .ok (.iconst 1, 1) := by decide +kernel
theorem dX12_fastest_3 : decode cX12_fastest 3 = .ok (.invokestatic 38, 3) := by decide +kernel
theorem dX12_fastest_6 : decode cX12_fastest 6 = .ok (.ifCond .ne 10, 3) := by decide +kernel
theorem dX12_fastest_9 : decode cX12_fastest 9 = .ok (.aload_n 0, 1) := by decide +kernel
theorem dX12_fastest_10 : decode cX12_fastest 10 = .ok (.ldc 50, 2) := by decide +kernel
theorem dX12_fastest_12 : decode cX12_fastest 12 = .ok (.invokevirtual 51, 3) := by decide +kernel
theorem dX12_fastest_15 : decode cX12_fastest 15 = .ok (.ireturn, 1) := by decide +kernel
theorem dX12_fastest_16 : decode cX12_fastest 16 = .ok (.iconst (-1), 1) := by decide +kernel
theorem dX12_fastest_17 : decode cX12_fastest 17 = .ok (.istore_n 2, 1) := by decide +kernel
theorem dX12_fastest_18 : decode cX12_fastest 18 = .ok (.iconst 0, 1) := by decide +kernel
theorem dX12_fastest_19 : decode cX12_fastest 19 = .ok (.istore_n 3, 1) := by decide +kernel
theorem dX12_fastest_20 : decode cX12_fastest 20 = .ok (.iconst 0, 1) := by decide +kernel
theorem dX12_fastest_21 : decode cX12_fastest 21 = .ok (.istore 4, 2) := by decide +kernel
theorem dX12_fastest_23 : decode cX12_fastest 23 = .ok (.iload 4, 2) := by decide +kernel
theorem dX12_fastest_25 : decode cX12_fastest 25 = .ok (.aload_n 0, 1) := by decide +kernel
theorem dX12_fastest_26 : decode cX12_fastest 26 = .ok (.getfield 7, 3) := by decide +kernel
theorem dX12_fastest_29 : decode cX12_fastest 29 = .ok (.iconst 2, 1) := by decide +kernel
theorem dX12_fastest_30 : decode cX12_fastest 30 = .ok (.iaload, 1) := by decide +kernel
theorem dX12_fastest_31 : decode cX12_fastest 31 = .ok (.if_icmp .ge 58, 3) := by decide +kernel
theorem dX12_fastest_34 : decode cX12_fastest 34 = .ok (.aload_n 0, 1) := by decide +kernel
theorem dX12_fastest_35 : decode cX12_fastest 35 = .ok (.iload 4, 2) := by decide +kernel
theorem dX12_fastest_37 : decode cX12_fastest 37 = .ok (.iconst 4, 1) := by decide +kernel
theorem dX12_fastest_38 : decode cX12_fastest 38 = .ok (.invokevirtual 64, 3) := by decide +kernel
theorem dX12_fastest_41 : decode cX12_fastest 41 = .ok (.ifCond .ne 42, 3) := by decide +kernel
theorem dX12_fastest_44 : decode cX12_fastest 44 = .ok (.aload_n 0, 1) := by decide +kernel
theorem dX12_fastest_45 : decode cX12_fastest 45 = .ok (.iload 4, 2) := by decide +kernel
theorem dX12_fastest_47 : decode cX12_fastest 47 = .ok (.aload_n 0, 1) := by decide +kernel
theorem dX12_fastest_48 : decode cX12_fastest 48 = .ok (.getfield 7, 3) := by decide +kernel
theorem dX12_fastest_51 : decode cX12_fastest 51 = .ok (.iconst 0, 1) := by decide +kernel
theorem dX12_fastest_52 : decode cX12_fastest 52 = .ok (.iaload, 1) := by decide +kernel
theorem dX12_fastest_53 : decode cX12_fastest 53 = .ok (.invokevirtual 181, 3) := by decide +kernel
theorem dX12_fastest_56 : decode cX12_fastest 56 = .ok (.ifCond .eq 27, 3) := by decide +kernel
theorem dX12_fastest_59 : decode cX12_fastest 59 = .ok (.iload_n 2, 1) := by decide +kernel
theorem dX12_fastest_60 : decode cX12_fastest 60 = .ok (.ifCond .lt 13, 3) := by decide +kernel
theorem dX12_fastest_63 : decode cX12_fastest 63 = .ok (.aload_n 0, 1) := by decide +kernel
theorem dX12_fastest_64 : decode cX12_fastest 64 = .ok (.iload 4, 2) := by decide +kernel
theorem dX12_fastest_66 : decode cX12_fastest 66 = .ok (.invokevirtual 178, 3) := by decide +kernel
theorem dX12_fastest_69 : decode cX12_fastest 69 = .ok (.iload_n 3, 1) := by decide +kernel
theorem dX12_fastest_70 : decode cX12_fastest 70 = .ok (.if_icmp .ge 13, 3) := by decide +kernel
theorem dX12_fastest_73 : decode cX12_fastest 73 = .ok (.iload 4, 2) := by decide +kernel
theorem dX12_fastest_75 : decode cX12_fastest 75 = .ok (.istore_n 2, 1) := by decide +kernel
theorem dX12_fastest_76 : decode cX12_fastest 76 = .ok (.aload_n 0, 1) := by decide +kernel
theorem dX12_fastest_77 : decode cX12_fastest 77 = .ok (.iload 4, 2) := by decide +kernel
theorem dX12_fastest_79 : decode cX12_fastest 79 = .ok (.invokevirtual 178, 3) := by decide +kernel
theorem dX12_fastest_82 : decode cX12_fastest 82 = .ok (.istore_n 3, 1) := by decide +kernel
theorem dX12_fastest_83 : decode cX12_fastest 83 = .ok (.iinc 4 1, 3) := by decide +kernel
theorem dX12_fastest_86 : decode cX12_fastest 86 = .ok (.goto (-63), 3) := by decide +kernel
theorem dX12_fastest_89 : decode cX12_fastest 89 = .ok (.iload_n 2, 1) := by decide +kernel
theorem dX12_fastest_90 : decode cX12_fastest 90 = .ok (.ifCond .ge 10, 3) := by decide +kernel
theorem dX12_fastest_93 : decode cX12_fastest 93 = .ok (.aload_n 0, 1) := by decide +kernel
theorem dX12_fastest_94 : decode cX12_fastest 94 = .ok (.ldc 184, 2) := by decide +kernel
theorem dX12_fastest_96 : decode cX12_fastest 96 = .ok (.invokevirtual 51, 3) := by decide +kernel
theorem dX12_fastest_99 : decode cX12_fastest 99 = .ok (.ireturn, 1) := by decide +kernel
theorem dX12_fastest_100 : decode cX12_fastest 100 = .ok (.iload_n 1, 1) := by decide +kernel
theorem dX12_fastest_101 : decode cX12_fastest 101 = .ok (.ifCond .ne 7, 3) := by decide +kernel
theorem dX12_fastest_104 : decode cX12_fastest 104 = .ok (.iload_n 2, 1) := by decide +kernel
theorem dX12_fastest_105 : decode cX12_fastest 105 = .ok (.goto 4, 3) := by decide +kernel
theorem dX12_fastest_108 : decode cX12_fastest 108 = .ok (.iload_n 3, 1) := by decide +kernel
theorem dX12_fastest_109 : decode cX12_fastest 109 = .ok (.ireturn, 1) := by decide +kernel
theorem dX12_figuresFor_0 : decode cX12_figuresFor 0 = .ok (.iload_n 1, 1) := by decide +kernel
theorem dX12_figuresFor_1 : decode cX12_figuresFor 1 = .ok (.iconst 1, 1) := by decide +kernel
theorem dX12_figuresFor_2 : decode cX12_figuresFor 2 = .ok (.ldc 174, 2) := by decide +kernel
theorem dX12_figuresFor_4 : decode cX12_figuresFor 4 = .ok (.invokestatic 38, 3) := by decide +kernel
theorem dX12_figuresFor_7 : decode cX12_figuresFor 7 = .ok (.ifCond .ne 10, 3) := by decide +kernel
theorem dX12_figuresFor_10 : decode cX12_figuresFor 10 = .ok (.aload_n 0, 1) := by decide +kernel
theorem dX12_figuresFor_11 : decode cX12_figuresFor 11 = .ok (.ldc 50, 2) := by decide +kernel
theorem dX12_figuresFor_13 : decode cX12_figuresFor 13 = .ok (.invokevirtual 51, 3) := by decide +kernel
theorem dX12_figuresFor_16 : decode cX12_figuresFor 16 = .ok (.ireturn, 1) := by decide +kernel
theorem dX12_figuresFor_17 : decode cX12_figuresFor 17 = .ok (.bipush 10, 2) := by decide +kernel
theorem dX12_figuresFor_19 : decode cX12_figuresFor 19 = .ok (.istore_n 2, 1) := by decide +kernel
theorem dX12_figuresFor_20 : decode cX12_figuresFor 20 = .ok (.iconst 1, 1) := by decide +kernel
theorem dX12_figuresFor_21 : decode cX12_figuresFor 21 = .ok (.istore_n 3, 1) := by decide +kernel
theorem dX12_figuresFor_22 : decode cX12_figuresFor 22 = .ok (.iload_n 3, 1) := by decide +kernel
theorem dX12_figuresFor_23 : decode cX12_figuresFor 23 = .ok (.bipush 6, 2) := by decide +kernel
theorem dX12_figuresFor_25 : decode cX12_figuresFor 25 = .ok (.if_icmp .gt 27, 3) := by decide +kernel
theorem dX12_figuresFor_28 : decode cX12_figuresFor 28 = .ok (.aload_n 0, 1) := by decide +kernel
theorem dX12_figuresFor_29 : decode cX12_figuresFor 29 = .ok (.getfield 7, 3) := by decide +kernel
theorem dX12_figuresFor_32 : decode cX12_figuresFor 32 = .ok (.bipush 10, 2) := by decide +kernel
theorem dX12_figuresFor_34 : decode cX12_figuresFor 34 = .ok (.iaload, 1) := by decide +kernel
theorem dX12_figuresFor_35 : decode cX12_figuresFor 35 = .ok (.iload_n 1, 1) := by decide +kernel
theorem dX12_figuresFor_36 : decode cX12_figuresFor 36 = .ok (.imul, 1) := by decide +kernel
theorem dX12_figuresFor_37 : decode cX12_figuresFor 37 = .ok (.iload_n 2, 1) := by decide +kernel
theorem dX12_figuresFor_38 : decode cX12_figuresFor 38 = .ok (.if_icmp .le 14, 3) := by decide +kernel
theorem dX12_figuresFor_41 : decode cX12_figuresFor 41 = .ok (.iload_n 2, 1) := by decide +kernel
theorem dX12_figuresFor_42 : decode cX12_figuresFor 42 = .ok (.bipush 10, 2) := by decide +kernel
theorem dX12_figuresFor_44 : decode cX12_figuresFor 44 = .ok (.imul, 1) := by decide +kernel
theorem dX12_figuresFor_45 : decode cX12_figuresFor 45 = .ok (.istore_n 2, 1) := by decide +kernel
theorem dX12_figuresFor_46 : decode cX12_figuresFor 46 = .ok (.iinc 3 1, 3) := by decide +kernel
theorem dX12_figuresFor_49 : decode cX12_figuresFor 49 = .ok (.goto (-27), 3) := by decide +kernel
theorem dX12_figuresFor_52 : decode cX12_figuresFor 52 = .ok (.iload_n 3, 1) := by decide +kernel
theorem dX12_figuresFor_53 : decode cX12_figuresFor 53 = .ok (.bipush 6, 2) := by decide +kernel
theorem dX12_figuresFor_55 : decode cX12_figuresFor 55 = .ok (.if_icmp .le 12, 3) := by decide +kernel
theorem dX12_figuresFor_58 : decode cX12_figuresFor 58 = .ok (.aload_n 0, 1) := by decide +kernel
theorem dX12_figuresFor_59 : decode cX12_figuresFor 59 = .ok (.ldc 184, 2) := by decide +kernel
theorem dX12_figuresFor_61 : decode cX12_figuresFor 61 = .ok (.invokevirtual 51, 3) := by decide +kernel
theorem dX12_figuresFor_64 : decode cX12_figuresFor 64 = .ok (.goto 4, 3) := by decide +kernel
theorem dX12_figuresFor_67 : decode cX12_figuresFor 67 = .ok (.iload_n 3, 1) := by decide +kernel
theorem dX12_figuresFor_68 : decode cX12_figuresFor 68 = .ok (.ireturn, 1) := by decide +kernel
theorem dX12_counting_0 : decode cX12_counting 0 = .ok (.iconst 0, 1) := by decide +kernel
theorem dX12_counting_1 : decode cX12_counting 1 = .ok (.istore_n 1, 1) := by decide +kernel
theorem dX12_counting_2 : decode cX12_counting 2 = .ok (.iconst 0, 1) := by decide +kernel
theorem dX12_counting_3 : decode cX12_counting 3 = .ok (.istore_n 2, 1) := by decide +kernel
theorem dX12_counting_4 : decode cX12_counting 4 = .ok (.iload_n 2, 1) := by decide +kernel
theorem dX12_counting_5 : decode cX12_counting 5 = .ok (.aload_n 0, 1) := by decide +kernel
theorem dX12_counting_6 : decode cX12_counting 6 = .ok (.getfield 7, 3) := by decide +kernel
theorem dX12_counting_9 : decode cX12_counting 9 = .ok (.bipush 7, 2) := by decide +kernel
theorem dX12_counting_11 : decode cX12_counting 11 = .ok (.iaload, 1) := by decide +kernel
theorem dX12_counting_12 : decode cX12_counting 12 = .ok (.if_icmp .ge 27, 3) := by decide +kernel
theorem dX12_counting_15 : decode cX12_counting 15 = .ok (.iload_n 1, 1) := by decide +kernel
theorem dX12_counting_16 : decode cX12_counting 16 = .ok (.aload_n 0, 1) := by decide +kernel
theorem dX12_counting_17 : decode cX12_counting 17 = .ok (.iload_n 2, 1) := by decide +kernel
theorem dX12_counting_18 : decode cX12_counting 18 = .ok (.invokevirtual 171, 3) := by decide +kernel
theorem dX12_counting_21 : decode cX12_counting 21 = .ok (.ifCond .eq 9, 3) := by decide +kernel
theorem dX12_counting_24 : decode cX12_counting 24 = .ok (.iconst 1, 1) := by decide +kernel
theorem dX12_counting_25 : decode cX12_counting 25 = .ok (.iload_n 2, 1) := by decide +kernel
theorem dX12_counting_26 : decode cX12_counting 26 = .ok (.ishl, 1) := by decide +kernel
theorem dX12_counting_27 : decode cX12_counting 27 = .ok (.goto 4, 3) := by decide +kernel
theorem dX12_counting_30 : decode cX12_counting 30 = .ok (.iconst 0, 1) := by decide +kernel
theorem dX12_counting_31 : decode cX12_counting 31 = .ok (.ior, 1) := by decide +kernel
theorem dX12_counting_32 : decode cX12_counting 32 = .ok (.istore_n 1, 1) := by decide +kernel
theorem dX12_counting_33 : decode cX12_counting 33 = .ok (.iinc 2 1, 3) := by decide +kernel
theorem dX12_counting_36 : decode cX12_counting 36 = .ok (.goto (-32), 3) := by decide +kernel
theorem dX12_counting_39 : decode cX12_counting 39 = .ok (.iload_n 1, 1) := by decide +kernel
theorem dX12_counting_40 : decode cX12_counting 40 = .ok (.ireturn, 1) := by decide +kernel
theorem dX12_crossed_0 : decode cX12_crossed 0 = .ok (.iconst 0, 1) := by decide +kernel
theorem dX12_crossed_1 : decode cX12_crossed 1 = .ok (.istore_n 1, 1) := by decide +kernel
theorem dX12_crossed_2 : decode cX12_crossed 2 = .ok (.iconst 0, 1) := by decide +kernel
theorem dX12_crossed_3 : decode cX12_crossed 3 = .ok (.istore_n 2, 1) := by decide +kernel
theorem dX12_crossed_4 : decode cX12_crossed 4 = .ok (.iload_n 2, 1) := by decide +kernel
theorem dX12_crossed_5 : decode cX12_crossed 5 = .ok (.aload_n 0, 1) := by decide +kernel
theorem dX12_crossed_6 : decode cX12_crossed 6 = .ok (.getfield 7, 3) := by decide +kernel
theorem dX12_crossed_9 : decode cX12_crossed 9 = .ok (.bipush 7, 2) := by decide +kernel
theorem dX12_crossed_11 : decode cX12_crossed 11 = .ok (.iaload, 1) := by decide +kernel
theorem dX12_crossed_12 : decode cX12_crossed 12 = .ok (.if_icmp .ge 66, 3) := by decide +kernel
theorem dX12_crossed_15 : decode cX12_crossed 15 = .ok (.iconst 0, 1) := by decide +kernel
theorem dX12_crossed_16 : decode cX12_crossed 16 = .ok (.istore_n 3, 1) := by decide +kernel
theorem dX12_crossed_17 : decode cX12_crossed 17 = .ok (.iload_n 3, 1) := by decide +kernel
theorem dX12_crossed_18 : decode cX12_crossed 18 = .ok (.aload_n 0, 1) := by decide +kernel
theorem dX12_crossed_19 : decode cX12_crossed 19 = .ok (.getfield 7, 3) := by decide +kernel
theorem dX12_crossed_22 : decode cX12_crossed 22 = .ok (.bipush 7, 2) := by decide +kernel
theorem dX12_crossed_24 : decode cX12_crossed 24 = .ok (.iaload, 1) := by decide +kernel
theorem dX12_crossed_25 : decode cX12_crossed 25 = .ok (.if_icmp .ge 47, 3) := by decide +kernel
theorem dX12_crossed_28 : decode cX12_crossed 28 = .ok (.iload_n 1, 1) := by decide +kernel
theorem dX12_crossed_29 : decode cX12_crossed 29 = .ok (.aload_n 0, 1) := by decide +kernel
theorem dX12_crossed_30 : decode cX12_crossed 30 = .ok (.iload_n 2, 1) := by decide +kernel
theorem dX12_crossed_31 : decode cX12_crossed 31 = .ok (.iconst 2, 1) := by decide +kernel
theorem dX12_crossed_32 : decode cX12_crossed 32 = .ok (.invokevirtual 165, 3) := by decide +kernel
theorem dX12_crossed_35 : decode cX12_crossed 35 = .ok (.aload_n 0, 1) := by decide +kernel
theorem dX12_crossed_36 : decode cX12_crossed 36 = .ok (.iload_n 3, 1) := by decide +kernel
theorem dX12_crossed_37 : decode cX12_crossed 37 = .ok (.iconst 2, 1) := by decide +kernel
theorem dX12_crossed_38 : decode cX12_crossed 38 = .ok (.invokevirtual 165, 3) := by decide +kernel
theorem dX12_crossed_41 : decode cX12_crossed 41 = .ok (.if_icmp .ge 22, 3) := by decide +kernel
theorem dX12_crossed_44 : decode cX12_crossed 44 = .ok (.aload_n 0, 1) := by decide +kernel
theorem dX12_crossed_45 : decode cX12_crossed 45 = .ok (.iload_n 2, 1) := by decide +kernel
theorem dX12_crossed_46 : decode cX12_crossed 46 = .ok (.iconst 3, 1) := by decide +kernel
theorem dX12_crossed_47 : decode cX12_crossed 47 = .ok (.invokevirtual 165, 3) := by decide +kernel
theorem dX12_crossed_50 : decode cX12_crossed 50 = .ok (.aload_n 0, 1) := by decide +kernel
theorem dX12_crossed_51 : decode cX12_crossed 51 = .ok (.iload_n 3, 1) := by decide +kernel
theorem dX12_crossed_52 : decode cX12_crossed 52 = .ok (.iconst 3, 1) := by decide +kernel
theorem dX12_crossed_53 : decode cX12_crossed 53 = .ok (.invokevirtual 165, 3) := by decide +kernel
theorem dX12_crossed_56 : decode cX12_crossed 56 = .ok (.if_icmp .le 7, 3) := by decide +kernel
theorem dX12_crossed_59 : decode cX12_crossed 59 = .ok (.iconst 1, 1) := by decide +kernel
theorem dX12_crossed_60 : decode cX12_crossed 60 = .ok (.goto 4, 3) := by decide +kernel
theorem dX12_crossed_63 : decode cX12_crossed 63 = .ok (.iconst 0, 1) := by decide +kernel
theorem dX12_crossed_64 : decode cX12_crossed 64 = .ok (.iadd, 1) := by decide +kernel
theorem dX12_crossed_65 : decode cX12_crossed 65 = .ok (.istore_n 1, 1) := by decide +kernel
theorem dX12_crossed_66 : decode cX12_crossed 66 = .ok (.iinc 3 1, 3) := by decide +kernel
theorem dX12_crossed_69 : decode cX12_crossed 69 = .ok (.goto (-52), 3) := by decide +kernel
theorem dX12_crossed_72 : decode cX12_crossed 72 = .ok (.iinc 2 1, 3) := by decide +kernel
theorem dX12_crossed_75 : decode cX12_crossed 75 = .ok (.goto (-71), 3) := by decide +kernel
theorem dX12_crossed_78 : decode cX12_crossed 78 = .ok (.iload_n 1, 1) := by decide +kernel
theorem dX12_crossed_79 : decode cX12_crossed 79 = .ok (.ireturn, 1) := by decide +kernel
theorem dX12_leftBut_0 : decode cX12_leftBut 0 = .ok (.iconst 0, 1) := by decide +kernel
theorem dX12_leftBut_1 : decode cX12_leftBut 1 = .ok (.istore_n 2, 1) := by decide +kernel
theorem dX12_leftBut_2 : decode cX12_leftBut 2 = .ok (.iconst 0, 1) := by decide +kernel
theorem dX12_leftBut_3 : decode cX12_leftBut 3 = .ok (.istore_n 3, 1) := by decide +kernel
theorem dX12_leftBut_4 : decode cX12_leftBut 4 = .ok (.iload_n 3, 1) := by decide +kernel
theorem dX12_leftBut_5 : decode cX12_leftBut 5 = .ok (.aload_n 0, 1) := by decide +kernel
theorem dX12_leftBut_6 : decode cX12_leftBut 6 = .ok (.getfield 7, 3) := by decide +kernel
theorem dX12_leftBut_9 : decode cX12_leftBut 9 = .ok (.iconst 2, 1) := by decide +kernel
theorem dX12_leftBut_10 : decode cX12_leftBut 10 = .ok (.iaload, 1) := by decide +kernel
theorem dX12_leftBut_11 : decode cX12_leftBut 11 = .ok (.if_icmp .ge 39, 3) := by decide +kernel
theorem dX12_leftBut_14 : decode cX12_leftBut 14 = .ok (.iload_n 2, 1) := by decide +kernel
theorem dX12_leftBut_15 : decode cX12_leftBut 15 = .ok (.aload_n 0, 1) := by decide +kernel
theorem dX12_leftBut_16 : decode cX12_leftBut 16 = .ok (.iload_n 3, 1) := by decide +kernel
theorem dX12_leftBut_17 : decode cX12_leftBut 17 = .ok (.iconst 4, 1) := by decide +kernel
theorem dX12_leftBut_18 : decode cX12_leftBut 18 = .ok (.invokevirtual 64, 3) := by decide +kernel
theorem dX12_leftBut_21 : decode cX12_leftBut 21 = .ok (.ifCond .ne 20, 3) := by decide +kernel
theorem dX12_leftBut_24 : decode cX12_leftBut 24 = .ok (.iload_n 1, 1) := by decide +kernel
theorem dX12_leftBut_25 : decode cX12_leftBut 25 = .ok (.aload_n 0, 1) := by decide +kernel
theorem dX12_leftBut_26 : decode cX12_leftBut 26 = .ok (.iload_n 3, 1) := by decide +kernel
theorem dX12_leftBut_27 : decode cX12_leftBut 27 = .ok (.iconst 3, 1) := by decide +kernel
theorem dX12_leftBut_28 : decode cX12_leftBut 28 = .ok (.invokevirtual 64, 3) := by decide +kernel
theorem dX12_leftBut_31 : decode cX12_leftBut 31 = .ok (.ishr, 1) := by decide +kernel
theorem dX12_leftBut_32 : decode cX12_leftBut 32 = .ok (.iconst 1, 1) := by decide +kernel
theorem dX12_leftBut_33 : decode cX12_leftBut 33 = .ok (.iand, 1) := by decide +kernel
theorem dX12_leftBut_34 : decode cX12_leftBut 34 = .ok (.ifCond .ne 7, 3) := by decide +kernel
theorem dX12_leftBut_37 : decode cX12_leftBut 37 = .ok (.iconst 1, 1) := by decide +kernel
theorem dX12_leftBut_38 : decode cX12_leftBut 38 = .ok (.goto 4, 3) := by decide +kernel
theorem dX12_leftBut_41 : decode cX12_leftBut 41 = .ok (.iconst 0, 1) := by decide +kernel
theorem dX12_leftBut_42 : decode cX12_leftBut 42 = .ok (.iadd, 1) := by decide +kernel
theorem dX12_leftBut_43 : decode cX12_leftBut 43 = .ok (.istore_n 2, 1) := by decide +kernel
theorem dX12_leftBut_44 : decode cX12_leftBut 44 = .ok (.iinc 3 1, 3) := by decide +kernel
theorem dX12_leftBut_47 : decode cX12_leftBut 47 = .ok (.goto (-43), 3) := by decide +kernel
theorem dX12_leftBut_50 : decode cX12_leftBut 50 = .ok (.iload_n 2, 1) := by decide +kernel
theorem dX12_leftBut_51 : decode cX12_leftBut 51 = .ok (.ireturn, 1) := by decide +kernel
theorem dX12_atOnce_0 : decode cX12_atOnce 0 = .ok (.iload_n 1, 1) := by decide +kernel
theorem dX12_atOnce_1 : decode cX12_atOnce 1 = .ok (.iconst 0, 1) := by decide +kernel
theorem dX12_atOnce_2 : decode cX12_atOnce 2 = .ok (.bipush 6, 2) := by decide +kernel
theorem dX12_atOnce_4 : decode cX12_atOnce 4 = .ok (.invokestatic 38, 3) := by decide +kernel
theorem dX12_atOnce_7 : decode cX12_atOnce 7 = .ok (.ifCond .eq 12, 3) := by decide +kernel
theorem dX12_atOnce_10 : decode cX12_atOnce 10 = .ok (.iload_n 2, 1) := by decide +kernel
theorem dX12_atOnce_11 : decode cX12_atOnce 11 = .ok (.iconst 0, 1) := by decide +kernel
theorem dX12_atOnce_12 : decode cX12_atOnce 12 = .ok (.iconst 1, 1) := by decide +kernel
theorem dX12_atOnce_13 : decode cX12_atOnce 13 = .ok (.invokestatic 38, 3) := by decide +kernel
theorem dX12_atOnce_16 : decode cX12_atOnce 16 = .ok (.ifCond .ne 10, 3) := by decide +kernel
theorem dX12_atOnce_19 : decode cX12_atOnce 19 = .ok (.aload_n 0, 1) := by decide +kernel
theorem dX12_atOnce_20 : decode cX12_atOnce 20 = .ok (.ldc 50, 2) := by decide +kernel
theorem dX12_atOnce_22 : decode cX12_atOnce 22 = .ok (.invokevirtual 51, 3) := by decide +kernel
theorem dX12_atOnce_25 : decode cX12_atOnce 25 = .ok (.ireturn, 1) := by decide +kernel
theorem dX12_atOnce_26 : decode cX12_atOnce 26 = .ok (.bipush 63, 2) := by decide +kernel
theorem dX12_atOnce_28 : decode cX12_atOnce 28 = .ok (.istore_n 3, 1) := by decide +kernel
theorem dX12_atOnce_29 : decode cX12_atOnce 29 = .ok (.iload_n 3, 1) := by decide +kernel
theorem dX12_atOnce_30 : decode cX12_atOnce 30 = .ok (.istore 4, 2) := by decide +kernel
theorem dX12_atOnce_32 : decode cX12_atOnce 32 = .ok (.iload 4, 2) := by decide +kernel
theorem dX12_atOnce_34 : decode cX12_atOnce 34 = .ok (.ifCond .lt 38, 3) := by decide +kernel
theorem dX12_atOnce_37 : decode cX12_atOnce 37 = .ok (.aload_n 0, 1) := by decide +kernel
theorem dX12_atOnce_38 : decode cX12_atOnce 38 = .ok (.iload 4, 2) := by decide +kernel
theorem dX12_atOnce_40 : decode cX12_atOnce 40 = .ok (.invokevirtual 185, 3) := by decide +kernel
theorem dX12_atOnce_43 : decode cX12_atOnce 43 = .ok (.iload_n 1, 1) := by decide +kernel
theorem dX12_atOnce_44 : decode cX12_atOnce 44 = .ok (.if_icmp .gt 20, 3) := by decide +kernel
theorem dX12_atOnce_47 : decode cX12_atOnce 47 = .ok (.iload 4, 2) := by decide +kernel
theorem dX12_atOnce_49 : decode cX12_atOnce 49 = .ok (.invokestatic 188, 3) := by decide +kernel
theorem dX12_atOnce_52 : decode cX12_atOnce 52 = .ok (.iload_n 3, 1) := by decide +kernel
theorem dX12_atOnce_53 : decode cX12_atOnce 53 = .ok (.invokestatic 188, 3) := by decide +kernel
theorem dX12_atOnce_56 : decode cX12_atOnce 56 = .ok (.if_icmp .gt 8, 3) := by decide +kernel
theorem dX12_atOnce_59 : decode cX12_atOnce 59 = .ok (.iload 4, 2) := by decide +kernel
theorem dX12_atOnce_61 : decode cX12_atOnce 61 = .ok (.goto 4, 3) := by decide +kernel
theorem dX12_atOnce_64 : decode cX12_atOnce 64 = .ok (.iload_n 3, 1) := by decide +kernel
theorem dX12_atOnce_65 : decode cX12_atOnce 65 = .ok (.istore_n 3, 1) := by decide +kernel
theorem dX12_atOnce_66 : decode cX12_atOnce 66 = .ok (.iinc 4 (-1), 3) := by decide +kernel
theorem dX12_atOnce_69 : decode cX12_atOnce 69 = .ok (.goto (-37), 3) := by decide +kernel
theorem dX12_atOnce_72 : decode cX12_atOnce 72 = .ok (.iload_n 2, 1) := by decide +kernel
theorem dX12_atOnce_73 : decode cX12_atOnce 73 = .ok (.ifCond .ne 10, 3) := by decide +kernel
theorem dX12_atOnce_76 : decode cX12_atOnce 76 = .ok (.iload_n 3, 1) := by decide +kernel
theorem dX12_atOnce_77 : decode cX12_atOnce 77 = .ok (.invokestatic 188, 3) := by decide +kernel
theorem dX12_atOnce_80 : decode cX12_atOnce 80 = .ok (.goto 4, 3) := by decide +kernel
theorem dX12_atOnce_83 : decode cX12_atOnce 83 = .ok (.iload_n 3, 1) := by decide +kernel
theorem dX12_atOnce_84 : decode cX12_atOnce 84 = .ok (.ireturn, 1) := by decide +kernel
theorem dX12_together_0 : decode cX12_together 0 = .ok (.iconst 0, 1) := by decide +kernel
theorem dX12_together_1 : decode cX12_together 1 = .ok (.istore_n 1, 1) := by decide +kernel
theorem dX12_together_2 : decode cX12_together 2 = .ok (.iconst 0, 1) := by decide +kernel
theorem dX12_together_3 : decode cX12_together 3 = .ok (.istore_n 2, 1) := by decide +kernel
theorem dX12_together_4 : decode cX12_together 4 = .ok (.iconst 0, 1) := by decide +kernel
theorem dX12_together_5 : decode cX12_together 5 = .ok (.istore_n 3, 1) := by decide +kernel
theorem dX12_together_6 : decode cX12_together 6 = .ok (.iload_n 3, 1) := by decide +kernel
theorem dX12_together_7 : decode cX12_together 7 = .ok (.aload_n 0, 1) := by decide +kernel
theorem dX12_together_8 : decode cX12_together 8 = .ok (.getfield 7, 3) := by decide +kernel
theorem dX12_together_11 : decode cX12_together 11 = .ok (.iconst 2, 1) := by decide +kernel
theorem dX12_together_12 : decode cX12_together 12 = .ok (.iaload, 1) := by decide +kernel
theorem dX12_together_13 : decode cX12_together 13 = .ok (.if_icmp .ge 44, 3) := by decide +kernel
theorem dX12_together_16 : decode cX12_together 16 = .ok (.aload_n 0, 1) := by decide +kernel
theorem dX12_together_17 : decode cX12_together 17 = .ok (.iload_n 3, 1) := by decide +kernel
theorem dX12_together_18 : decode cX12_together 18 = .ok (.iconst 4, 1) := by decide +kernel
theorem dX12_together_19 : decode cX12_together 19 = .ok (.invokevirtual 64, 3) := by decide +kernel
theorem dX12_together_22 : decode cX12_together 22 = .ok (.ifCond .ne 14, 3) := by decide +kernel
theorem dX12_together_25 : decode cX12_together 25 = .ok (.iconst 1, 1) := by decide +kernel
theorem dX12_together_26 : decode cX12_together 26 = .ok (.aload_n 0, 1) := by decide +kernel
theorem dX12_together_27 : decode cX12_together 27 = .ok (.iload_n 3, 1) := by decide +kernel
theorem dX12_together_28 : decode cX12_together 28 = .ok (.iconst 3, 1) := by decide +kernel
theorem dX12_together_29 : decode cX12_together 29 = .ok (.invokevirtual 64, 3) := by decide +kernel
theorem dX12_together_32 : decode cX12_together 32 = .ok (.ishl, 1) := by decide +kernel
theorem dX12_together_33 : decode cX12_together 33 = .ok (.goto 4, 3) := by decide +kernel
theorem dX12_together_36 : decode cX12_together 36 = .ok (.iconst 0, 1) := by decide +kernel
theorem dX12_together_37 : decode cX12_together 37 = .ok (.istore 4, 2) := by decide +kernel
theorem dX12_together_39 : decode cX12_together 39 = .ok (.iload_n 2, 1) := by decide +kernel
theorem dX12_together_40 : decode cX12_together 40 = .ok (.iload_n 1, 1) := by decide +kernel
theorem dX12_together_41 : decode cX12_together 41 = .ok (.iload 4, 2) := by decide +kernel
theorem dX12_together_43 : decode cX12_together 43 = .ok (.iand, 1) := by decide +kernel
theorem dX12_together_44 : decode cX12_together 44 = .ok (.ior, 1) := by decide +kernel
theorem dX12_together_45 : decode cX12_together 45 = .ok (.istore_n 2, 1) := by decide +kernel
theorem dX12_together_46 : decode cX12_together 46 = .ok (.iload_n 1, 1) := by decide +kernel
theorem dX12_together_47 : decode cX12_together 47 = .ok (.iload 4, 2) := by decide +kernel
theorem dX12_together_49 : decode cX12_together 49 = .ok (.ior, 1) := by decide +kernel
theorem dX12_together_50 : decode cX12_together 50 = .ok (.istore_n 1, 1) := by decide +kernel
theorem dX12_together_51 : decode cX12_together 51 = .ok (.iinc 3 1, 3) := by decide +kernel
theorem dX12_together_54 : decode cX12_together 54 = .ok (.goto (-48), 3) := by decide +kernel
theorem dX12_together_57 : decode cX12_together 57 = .ok (.iload_n 2, 1) := by decide +kernel
theorem dX12_together_58 : decode cX12_together 58 = .ok (.ireturn, 1) := by decide +kernel
theorem dX12_waitFor_0 : decode cX12_waitFor 0 = .ok (.iconst (-1), 1) := by decide +kernel
theorem dX12_waitFor_1 : decode cX12_waitFor 1 = .ok (.istore_n 1, 1) := by decide +kernel
theorem dX12_waitFor_2 : decode cX12_waitFor 2 = .ok (.iconst 0, 1) := by decide +kernel
theorem dX12_waitFor_3 : decode cX12_waitFor 3 = .ok (.istore_n 2, 1) := by decide +kernel
theorem dX12_waitFor_4 : decode cX12_waitFor 4 = .ok (.iload_n 2, 1) := by decide +kernel
theorem dX12_waitFor_5 : decode cX12_waitFor 5 = .ok (.aload_n 0, 1) := by decide +kernel
theorem dX12_waitFor_6 : decode cX12_waitFor 6 = .ok (.getfield 7, 3) := by decide +kernel
theorem dX12_waitFor_9 : decode cX12_waitFor 9 = .ok (.bipush 7, 2) := by decide +kernel
theorem dX12_waitFor_11 : decode cX12_waitFor 11 = .ok (.iaload, 1) := by decide +kernel
theorem dX12_waitFor_12 : decode cX12_waitFor 12 = .ok (.if_icmp .ge 47, 3) := by decide +kernel
theorem dX12_waitFor_15 : decode cX12_waitFor 15 = .ok (.aload_n 0, 1) := by decide +kernel
theorem dX12_waitFor_16 : decode cX12_waitFor 16 = .ok (.iload_n 2, 1) := by decide +kernel
theorem dX12_waitFor_17 : decode cX12_waitFor 17 = .ok (.iconst 3, 1) := by decide +kernel
theorem dX12_waitFor_18 : decode cX12_waitFor 18 = .ok (.invokevirtual 165, 3) := by decide +kernel
theorem dX12_waitFor_21 : decode cX12_waitFor 21 = .ok (.aload_n 0, 1) := by decide +kernel
theorem dX12_waitFor_22 : decode cX12_waitFor 22 = .ok (.getfield 7, 3) := by decide +kernel
theorem dX12_waitFor_25 : decode cX12_waitFor 25 = .ok (.iconst 0, 1) := by decide +kernel
theorem dX12_waitFor_26 : decode cX12_waitFor 26 = .ok (.iaload, 1) := by decide +kernel
theorem dX12_waitFor_27 : decode cX12_waitFor 27 = .ok (.isub, 1) := by decide +kernel
theorem dX12_waitFor_28 : decode cX12_waitFor 28 = .ok (.istore_n 3, 1) := by decide +kernel
theorem dX12_waitFor_29 : decode cX12_waitFor 29 = .ok (.aload_n 0, 1) := by decide +kernel
theorem dX12_waitFor_30 : decode cX12_waitFor 30 = .ok (.iload_n 2, 1) := by decide +kernel
theorem dX12_waitFor_31 : decode cX12_waitFor 31 = .ok (.iconst 5, 1) := by decide +kernel
theorem dX12_waitFor_32 : decode cX12_waitFor 32 = .ok (.invokevirtual 165, 3) := by decide +kernel
theorem dX12_waitFor_35 : decode cX12_waitFor 35 = .ok (.ifCond .ne 18, 3) := by decide +kernel
theorem dX12_waitFor_38 : decode cX12_waitFor 38 = .ok (.iload_n 3, 1) := by decide +kernel
theorem dX12_waitFor_39 : decode cX12_waitFor 39 = .ok (.ifCond .le 14, 3) := by decide +kernel
theorem dX12_waitFor_42 : decode cX12_waitFor 42 = .ok (.iload_n 1, 1) := by decide +kernel
theorem dX12_waitFor_43 : decode cX12_waitFor 43 = .ok (.ifCond .lt 8, 3) := by decide +kernel
theorem dX12_waitFor_46 : decode cX12_waitFor 46 = .ok (.iload_n 3, 1) := by decide +kernel
theorem dX12_waitFor_47 : decode cX12_waitFor 47 = .ok (.iload_n 1, 1) := by decide +kernel
theorem dX12_waitFor_48 : decode cX12_waitFor 48 = .ok (.if_icmp .ge 5, 3) := by decide +kernel
theorem dX12_waitFor_51 : decode cX12_waitFor 51 = .ok (.iload_n 3, 1) := by decide +kernel
theorem dX12_waitFor_52 : decode cX12_waitFor 52 = .ok (.istore_n 1, 1) := by decide +kernel
theorem dX12_waitFor_53 : decode cX12_waitFor 53 = .ok (.iinc 2 1, 3) := by decide +kernel
theorem dX12_waitFor_56 : decode cX12_waitFor 56 = .ok (.goto (-52), 3) := by decide +kernel
theorem dX12_waitFor_59 : decode cX12_waitFor 59 = .ok (.iload_n 1, 1) := by decide +kernel
theorem dX12_waitFor_60 : decode cX12_waitFor 60 = .ok (.ifCond .ge 12, 3) := by decide +kernel
theorem dX12_waitFor_63 : decode cX12_waitFor 63 = .ok (.aload_n 0, 1) := by decide +kernel
theorem dX12_waitFor_64 : decode cX12_waitFor 64 = .ok (.ldc 184, 2) := by decide +kernel
theorem dX12_waitFor_66 : decode cX12_waitFor 66 = .ok (.invokevirtual 51, 3) := by decide +kernel
theorem dX12_waitFor_69 : decode cX12_waitFor 69 = .ok (.goto 4, 3) := by decide +kernel
theorem dX12_waitFor_72 : decode cX12_waitFor 72 = .ok (.iload_n 1, 1) := by decide +kernel
theorem dX12_waitFor_73 : decode cX12_waitFor 73 = .ok (.ireturn, 1) := by decide +kernel
theorem dX12_isSheet_0 : decode cX12_isSheet 0 = .ok (.iload_n 0, 1) := by decide +kernel
theorem dX12_isSheet_1 : decode cX12_isSheet 1 = .ok (.iconst 0, 1) := by decide +kernel
theorem dX12_isSheet_2 : decode cX12_isSheet 2 = .ok (.iconst 3, 1) := by decide +kernel
theorem dX12_isSheet_3 : decode cX12_isSheet 3 = .ok (.invokestatic 38, 3) := by decide +kernel
theorem dX12_isSheet_6 : decode cX12_isSheet 6 = .ok (.ireturn, 1) := by decide +kernel
theorem dX12_which_0 : decode cX12_which 0 = .ok (.iload_n 1, 1) := by decide +kernel
theorem dX12_which_1 : decode cX12_which 1 = .ok (.invokestatic 191, 3) := by decide +kernel
theorem dX12_which_4 : decode cX12_which 4 = .ok (.ifCond .ne 10, 3) := by decide +kernel
theorem dX12_which_7 : decode cX12_which 7 = .ok (.aload_n 0, 1) := by decide +kernel
theorem dX12_which_8 : decode cX12_which 8 = .ok (.ldc 50, 2) := by decide +kernel
theorem dX12_which_10 : decode cX12_which 10 = .ok (.invokevirtual 51, 3) := by decide +kernel
theorem dX12_which_13 : decode cX12_which 13 = .ok (.ireturn, 1) := by decide +kernel
theorem dX12_which_14 : decode cX12_which 14 = .ok (.aload_n 0, 1) := by decide +kernel
theorem dX12_which_15 : decode cX12_which 15 = .ok (.getfield 22, 3) := by decide +kernel
theorem dX12_which_18 : decode cX12_which 18 = .ok (.iload_n 1, 1) := by decide +kernel
theorem dX12_which_19 : decode cX12_which 19 = .ok (.iaload, 1) := by decide +kernel
theorem dX12_which_20 : decode cX12_which 20 = .ok (.ifCond .ne 10, 3) := by decide +kernel
theorem dX12_which_23 : decode cX12_which 23 = .ok (.aload_n 0, 1) := by decide +kernel
theorem dX12_which_24 : decode cX12_which 24 = .ok (.ldc 184, 2) := by decide +kernel
theorem dX12_which_26 : decode cX12_which 26 = .ok (.invokevirtual 51, 3) := by decide +kernel
theorem dX12_which_29 : decode cX12_which 29 = .ok (.ireturn, 1) := by decide +kernel
theorem dX12_which_30 : decode cX12_which 30 = .ok (.iconst 0, 1) := by decide +kernel
theorem dX12_which_31 : decode cX12_which 31 = .ok (.istore_n 2, 1) := by decide +kernel
theorem dX12_which_32 : decode cX12_which 32 = .ok (.iconst 0, 1) := by decide +kernel
theorem dX12_which_33 : decode cX12_which 33 = .ok (.istore_n 3, 1) := by decide +kernel
theorem dX12_which_34 : decode cX12_which 34 = .ok (.iload_n 3, 1) := by decide +kernel
theorem dX12_which_35 : decode cX12_which 35 = .ok (.aload_n 0, 1) := by decide +kernel
theorem dX12_which_36 : decode cX12_which 36 = .ok (.getfield 7, 3) := by decide +kernel
theorem dX12_which_39 : decode cX12_which 39 = .ok (.iconst 2, 1) := by decide +kernel
theorem dX12_which_40 : decode cX12_which 40 = .ok (.iaload, 1) := by decide +kernel
theorem dX12_which_41 : decode cX12_which 41 = .ok (.if_icmp .ge 101, 3) := by decide +kernel
theorem dX12_which_44 : decode cX12_which 44 = .ok (.aload_n 0, 1) := by decide +kernel
theorem dX12_which_45 : decode cX12_which 45 = .ok (.iload_n 3, 1) := by decide +kernel
theorem dX12_which_46 : decode cX12_which 46 = .ok (.iconst 4, 1) := by decide +kernel
theorem dX12_which_47 : decode cX12_which 47 = .ok (.invokevirtual 64, 3) := by decide +kernel
theorem dX12_which_50 : decode cX12_which 50 = .ok (.ifCond .ne 7, 3) := by decide +kernel
theorem dX12_which_53 : decode cX12_which 53 = .ok (.iconst 1, 1) := by decide +kernel
theorem dX12_which_54 : decode cX12_which 54 = .ok (.goto 4, 3) := by decide +kernel
theorem dX12_which_57 : decode cX12_which 57 = .ok (.iconst 0, 1) := by decide +kernel
theorem dX12_which_58 : decode cX12_which 58 = .ok (.istore 4, 2) := by decide +kernel
theorem dX12_which_60 : decode cX12_which 60 = .ok (.iconst 0, 1) := by decide +kernel
theorem dX12_which_61 : decode cX12_which 61 = .ok (.istore 5, 2) := by decide +kernel
theorem dX12_which_63 : decode cX12_which 63 = .ok (.iload 5, 2) := by decide +kernel
theorem dX12_which_65 : decode cX12_which 65 = .ok (.aload_n 0, 1) := by decide +kernel
theorem dX12_which_66 : decode cX12_which 66 = .ok (.getfield 25, 3) := by decide +kernel
theorem dX12_which_69 : decode cX12_which 69 = .ok (.iload_n 1, 1) := by decide +kernel
theorem dX12_which_70 : decode cX12_which 70 = .ok (.iaload, 1) := by decide +kernel
theorem dX12_which_71 : decode cX12_which 71 = .ok (.if_icmp .ge 50, 3) := by decide +kernel
theorem dX12_which_74 : decode cX12_which 74 = .ok (.iload 4, 2) := by decide +kernel
theorem dX12_which_76 : decode cX12_which 76 = .ok (.ifCond .eq 45, 3) := by decide +kernel
theorem dX12_which_79 : decode cX12_which 79 = .ok (.aload_n 0, 1) := by decide +kernel
theorem dX12_which_80 : decode cX12_which 80 = .ok (.iload_n 3, 1) := by decide +kernel
theorem dX12_which_81 : decode cX12_which 81 = .ok (.aload_n 0, 1) := by decide +kernel
theorem dX12_which_82 : decode cX12_which 82 = .ok (.getfield 7, 3) := by decide +kernel
theorem dX12_which_85 : decode cX12_which 85 = .ok (.iconst 0, 1) := by decide +kernel
theorem dX12_which_86 : decode cX12_which 86 = .ok (.iaload, 1) := by decide +kernel
theorem dX12_which_87 : decode cX12_which 87 = .ok (.iload 5, 2) := by decide +kernel
theorem dX12_which_89 : decode cX12_which 89 = .ok (.iadd, 1) := by decide +kernel
theorem dX12_which_90 : decode cX12_which 90 = .ok (.invokevirtual 67, 3) := by decide +kernel
theorem dX12_which_93 : decode cX12_which 93 = .ok (.aload_n 0, 1) := by decide +kernel
theorem dX12_which_94 : decode cX12_which 94 = .ok (.getfield 28, 3) := by decide +kernel
theorem dX12_which_97 : decode cX12_which 97 = .ok (.bipush 40, 2) := by decide +kernel
theorem dX12_which_99 : decode cX12_which 99 = .ok (.iload_n 1, 1) := by decide +kernel
theorem dX12_which_100 : decode cX12_which 100 = .ok (.imul, 1) := by decide +kernel
theorem dX12_which_101 : decode cX12_which 101 = .ok (.iload 5, 2) := by decide +kernel
theorem dX12_which_103 : decode cX12_which 103 = .ok (.iadd, 1) := by decide +kernel
theorem dX12_which_104 : decode cX12_which 104 = .ok (.iaload, 1) := by decide +kernel
theorem dX12_which_105 : decode cX12_which 105 = .ok (.if_icmp .ne 7, 3) := by decide +kernel
theorem dX12_which_108 : decode cX12_which 108 = .ok (.iconst 1, 1) := by decide +kernel
theorem dX12_which_109 : decode cX12_which 109 = .ok (.goto 4, 3) := by decide +kernel
theorem dX12_which_112 : decode cX12_which 112 = .ok (.iconst 0, 1) := by decide +kernel
theorem dX12_which_113 : decode cX12_which 113 = .ok (.istore 4, 2) := by decide +kernel
theorem dX12_which_115 : decode cX12_which 115 = .ok (.iinc 5 1, 3) := by decide +kernel
theorem dX12_which_118 : decode cX12_which 118 = .ok (.goto (-55), 3) := by decide +kernel
theorem dX12_which_121 : decode cX12_which 121 = .ok (.iload_n 2, 1) := by decide +kernel
theorem dX12_which_122 : decode cX12_which 122 = .ok (.iload 4, 2) := by decide +kernel
theorem dX12_which_124 : decode cX12_which 124 = .ok (.ifCond .eq 9, 3) := by decide +kernel
theorem dX12_which_127 : decode cX12_which 127 = .ok (.iconst 1, 1) := by decide +kernel
theorem dX12_which_128 : decode cX12_which 128 = .ok (.iload_n 3, 1) := by decide +kernel
theorem dX12_which_129 : decode cX12_which 129 = .ok (.ishl, 1) := by decide +kernel
theorem dX12_which_130 : decode cX12_which 130 = .ok (.goto 4, 3) := by decide +kernel
theorem dX12_which_133 : decode cX12_which 133 = .ok (.iconst 0, 1) := by decide +kernel
theorem dX12_which_134 : decode cX12_which 134 = .ok (.ior, 1) := by decide +kernel
theorem dX12_which_135 : decode cX12_which 135 = .ok (.istore_n 2, 1) := by decide +kernel
theorem dX12_which_136 : decode cX12_which 136 = .ok (.iinc 3 1, 3) := by decide +kernel
theorem dX12_which_139 : decode cX12_which 139 = .ok (.goto (-105), 3) := by decide +kernel
theorem dX12_which_142 : decode cX12_which 142 = .ok (.iload_n 2, 1) := by decide +kernel
theorem dX12_which_143 : decode cX12_which 143 = .ok (.ireturn, 1) := by decide +kernel
theorem dX12_divisor_0 : decode cX12_divisor 0 = .ok (.iload_n 0, 1) := by decide +kernel
theorem dX12_divisor_1 : decode cX12_divisor 1 = .ok (.istore_n 2, 1) := by decide +kernel
theorem dX12_divisor_2 : decode cX12_divisor 2 = .ok (.iload_n 1, 1) := by decide +kernel
theorem dX12_divisor_3 : decode cX12_divisor 3 = .ok (.istore_n 3, 1) := by decide +kernel
theorem dX12_divisor_4 : decode cX12_divisor 4 = .ok (.iload_n 3, 1) := by decide +kernel
theorem dX12_divisor_5 : decode cX12_divisor 5 = .ok (.ifCond .eq 16, 3) := by decide +kernel
theorem dX12_divisor_8 : decode cX12_divisor 8 = .ok (.iload_n 2, 1) := by decide +kernel
theorem dX12_divisor_9 : decode cX12_divisor 9 = .ok (.iload_n 3, 1) := by decide +kernel
theorem dX12_divisor_10 : decode cX12_divisor 10 = .ok (.irem, 1) := by decide +kernel
theorem dX12_divisor_11 : decode cX12_divisor 11 = .ok (.istore 4, 2) := by decide +kernel
theorem dX12_divisor_13 : decode cX12_divisor 13 = .ok (.iload_n 3, 1) := by decide +kernel
theorem dX12_divisor_14 : decode cX12_divisor 14 = .ok (.istore_n 2, 1) := by decide +kernel
theorem dX12_divisor_15 : decode cX12_divisor 15 = .ok (.iload 4, 2) := by decide +kernel
theorem dX12_divisor_17 : decode cX12_divisor 17 = .ok (.istore_n 3, 1) := by decide +kernel
theorem dX12_divisor_18 : decode cX12_divisor 18 = .ok (.goto (-14), 3) := by decide +kernel
theorem dX12_divisor_21 : decode cX12_divisor 21 = .ok (.iload_n 2, 1) := by decide +kernel
theorem dX12_divisor_22 : decode cX12_divisor 22 = .ok (.ireturn, 1) := by decide +kernel
theorem dX12_guess_0 : decode cX12_guess 0 = .ok (.iload_n 1, 1) := by decide +kernel
theorem dX12_guess_1 : decode cX12_guess 1 = .ok (.iconst 0, 1) := by decide +kernel
theorem dX12_guess_2 : decode cX12_guess 2 = .ok (.iconst 1, 1) := by decide +kernel
theorem dX12_guess_3 : decode cX12_guess 3 = .ok (.invokestatic 38, 3) := by decide +kernel
theorem dX12_guess_6 : decode cX12_guess 6 = .ok (.ifCond .ne 10, 3) := by decide +kernel
theorem dX12_guess_9 : decode cX12_guess 9 = .ok (.aload_n 0, 1) := by decide +kernel
theorem dX12_guess_10 : decode cX12_guess 10 = .ok (.ldc 50, 2) := by decide +kernel
theorem dX12_guess_12 : decode cX12_guess 12 = .ok (.invokevirtual 51, 3) := by decide +kernel
theorem dX12_guess_15 : decode cX12_guess 15 = .ok (.ireturn, 1) := by decide +kernel
theorem dX12_guess_16 : decode cX12_guess 16 = .ok (.aload_n 0, 1) := by decide +kernel
theorem dX12_guess_17 : decode cX12_guess 17 = .ok (.getfield 7, 3) := by decide +kernel
theorem dX12_guess_20 : decode cX12_guess 20 = .ok (.bipush 10, 2) := by decide +kernel
theorem dX12_guess_22 : decode cX12_guess 22 = .ok (.iaload, 1) := by decide +kernel
theorem dX12_guess_23 : decode cX12_guess 23 = .ok (.aload_n 0, 1) := by decide +kernel
theorem dX12_guess_24 : decode cX12_guess 24 = .ok (.invokevirtual 155, 3) := by decide +kernel
theorem dX12_guess_27 : decode cX12_guess 27 = .ok (.invokestatic 194, 3) := by decide +kernel
theorem dX12_guess_30 : decode cX12_guess 30 = .ok (.istore_n 2, 1) := by decide +kernel
theorem dX12_guess_31 : decode cX12_guess 31 = .ok (.iload_n 1, 1) := by decide +kernel
theorem dX12_guess_32 : decode cX12_guess 32 = .ok (.ifCond .ne 15, 3) := by decide +kernel
theorem dX12_guess_35 : decode cX12_guess 35 = .ok (.aload_n 0, 1) := by decide +kernel
theorem dX12_guess_36 : decode cX12_guess 36 = .ok (.getfield 7, 3) := by decide +kernel
theorem dX12_guess_39 : decode cX12_guess 39 = .ok (.bipush 10, 2) := by decide +kernel
theorem dX12_guess_41 : decode cX12_guess 41 = .ok (.iaload, 1) := by decide +kernel
theorem dX12_guess_42 : decode cX12_guess 42 = .ok (.iload_n 2, 1) := by decide +kernel
theorem dX12_guess_43 : decode cX12_guess 43 = .ok (.idiv, 1) := by decide +kernel
theorem dX12_guess_44 : decode cX12_guess 44 = .ok (.goto 9, 3) := by decide +kernel
theorem dX12_guess_47 : decode cX12_guess 47 = .ok (.aload_n 0, 1) := by decide +kernel
theorem dX12_guess_48 : decode cX12_guess 48 = .ok (.invokevirtual 155, 3) := by decide +kernel
theorem dX12_guess_51 : decode cX12_guess 51 = .ok (.iload_n 2, 1) := by decide +kernel
theorem dX12_guess_52 : decode cX12_guess 52 = .ok (.idiv, 1) := by decide +kernel
theorem dX12_guess_53 : decode cX12_guess 53 = .ok (.ireturn, 1) := by decide +kernel
theorem dX12_odds_0 : decode cX12_odds 0 = .ok (.aload_n 0, 1) := by decide +kernel
theorem dX12_odds_1 : decode cX12_odds 1 = .ok (.iload_n 1, 1) := by decide +kernel
theorem dX12_odds_2 : decode cX12_odds 2 = .ok (.invokevirtual 60, 3) := by decide +kernel
theorem dX12_odds_5 : decode cX12_odds 5 = .ok (.ifCond .eq 12, 3) := by decide +kernel
theorem dX12_odds_8 : decode cX12_odds 8 = .ok (.iload_n 2, 1) := by decide +kernel
theorem dX12_odds_9 : decode cX12_odds 9 = .ok (.iconst 0, 1) := by decide +kernel
theorem dX12_odds_10 : decode cX12_odds 10 = .ok (.iconst 1, 1) := by decide +kernel
theorem dX12_odds_11 : decode cX12_odds 11 = .ok (.invokestatic 38, 3) := by decide +kernel
theorem dX12_odds_14 : decode cX12_odds 14 = .ok (.ifCond .ne 10, 3) := by decide +kernel
theorem dX12_odds_17 : decode cX12_odds 17 = .ok (.aload_n 0, 1) := by decide +kernel
theorem dX12_odds_18 : decode cX12_odds 18 = .ok (.ldc 50, 2) := by decide +kernel
theorem dX12_odds_20 : decode cX12_odds 20 = .ok (.invokevirtual 51, 3) := by decide +kernel
theorem dX12_odds_23 : decode cX12_odds 23 = .ok (.ireturn, 1) := by decide +kernel
theorem dX12_odds_24 : decode cX12_odds 24 = .ok (.aload_n 0, 1) := by decide +kernel
theorem dX12_odds_25 : decode cX12_odds 25 = .ok (.iload_n 1, 1) := by decide +kernel
theorem dX12_odds_26 : decode cX12_odds 26 = .ok (.iconst 4, 1) := by decide +kernel
theorem dX12_odds_27 : decode cX12_odds 27 = .ok (.invokevirtual 64, 3) := by decide +kernel
theorem dX12_odds_30 : decode cX12_odds 30 = .ok (.iconst 1, 1) := by decide +kernel
theorem dX12_odds_31 : decode cX12_odds 31 = .ok (.if_icmp .ne 10, 3) := by decide +kernel
theorem dX12_odds_34 : decode cX12_odds 34 = .ok (.aload_n 0, 1) := by decide +kernel
theorem dX12_odds_35 : decode cX12_odds 35 = .ok (.ldc 161, 2) := by decide +kernel
theorem dX12_odds_37 : decode cX12_odds 37 = .ok (.invokevirtual 51, 3) := by decide +kernel
theorem dX12_odds_40 : decode cX12_odds 40 = .ok (.ireturn, 1) := by decide +kernel
theorem dX12_odds_41 : decode cX12_odds 41 = .ok (.iconst 0, 1) := by decide +kernel
theorem dX12_odds_42 : decode cX12_odds 42 = .ok (.istore_n 3, 1) := by decide +kernel
theorem dX12_odds_43 : decode cX12_odds 43 = .ok (.aload_n 0, 1) := by decide +kernel
theorem dX12_odds_44 : decode cX12_odds 44 = .ok (.getfield 7, 3) := by decide +kernel
theorem dX12_odds_47 : decode cX12_odds 47 = .ok (.iconst 0, 1) := by decide +kernel
theorem dX12_odds_48 : decode cX12_odds 48 = .ok (.iaload, 1) := by decide +kernel
theorem dX12_odds_49 : decode cX12_odds 49 = .ok (.aload_n 0, 1) := by decide +kernel
theorem dX12_odds_50 : decode cX12_odds 50 = .ok (.getfield 7, 3) := by decide +kernel
theorem dX12_odds_53 : decode cX12_odds 53 = .ok (.iconst 0, 1) := by decide +kernel
theorem dX12_odds_54 : decode cX12_odds 54 = .ok (.iaload, 1) := by decide +kernel
theorem dX12_odds_55 : decode cX12_odds 55 = .ok (.bipush 60, 2) := by decide +kernel
theorem dX12_odds_57 : decode cX12_odds 57 = .ok (.irem, 1) := by decide +kernel
theorem dX12_odds_58 : decode cX12_odds 58 = .ok (.isub, 1) := by decide +kernel
theorem dX12_odds_59 : decode cX12_odds 59 = .ok (.istore 4, 2) := by decide +kernel
theorem dX12_odds_61 : decode cX12_odds 61 = .ok (.iconst 0, 1) := by decide +kernel
theorem dX12_odds_62 : decode cX12_odds 62 = .ok (.istore 5, 2) := by decide +kernel
theorem dX12_odds_64 : decode cX12_odds 64 = .ok (.iload 5, 2) := by decide +kernel
theorem dX12_odds_66 : decode cX12_odds 66 = .ok (.bipush 60, 2) := by decide +kernel
theorem dX12_odds_68 : decode cX12_odds 68 = .ok (.if_icmp .ge 30, 3) := by decide +kernel
theorem dX12_odds_71 : decode cX12_odds 71 = .ok (.iload_n 3, 1) := by decide +kernel
theorem dX12_odds_72 : decode cX12_odds 72 = .ok (.aload_n 0, 1) := by decide +kernel
theorem dX12_odds_73 : decode cX12_odds 73 = .ok (.iload_n 1, 1) := by decide +kernel
theorem dX12_odds_74 : decode cX12_odds 74 = .ok (.iload 4, 2) := by decide +kernel
theorem dX12_odds_76 : decode cX12_odds 76 = .ok (.iload 5, 2) := by decide +kernel
theorem dX12_odds_78 : decode cX12_odds 78 = .ok (.iadd, 1) := by decide +kernel
theorem dX12_odds_79 : decode cX12_odds 79 = .ok (.invokevirtual 181, 3) := by decide +kernel
theorem dX12_odds_82 : decode cX12_odds 82 = .ok (.ifCond .eq 7, 3) := by decide +kernel
theorem dX12_odds_85 : decode cX12_odds 85 = .ok (.iconst 1, 1) := by decide +kernel
theorem dX12_odds_86 : decode cX12_odds 86 = .ok (.goto 4, 3) := by decide +kernel
theorem dX12_odds_89 : decode cX12_odds 89 = .ok (.iconst 0, 1) := by decide +kernel
theorem dX12_odds_90 : decode cX12_odds 90 = .ok (.iadd, 1) := by decide +kernel
theorem dX12_odds_91 : decode cX12_odds 91 = .ok (.istore_n 3, 1) := by decide +kernel
theorem dX12_odds_92 : decode cX12_odds 92 = .ok (.iinc 5 1, 3) := by decide +kernel
theorem dX12_odds_95 : decode cX12_odds 95 = .ok (.goto (-31), 3) := by decide +kernel
theorem dX12_odds_98 : decode cX12_odds 98 = .ok (.iload_n 3, 1) := by decide +kernel
theorem dX12_odds_99 : decode cX12_odds 99 = .ok (.bipush 60, 2) := by decide +kernel
theorem dX12_odds_101 : decode cX12_odds 101 = .ok (.invokestatic 194, 3) := by decide +kernel
theorem dX12_odds_104 : decode cX12_odds 104 = .ok (.istore 5, 2) := by decide +kernel
theorem dX12_odds_106 : decode cX12_odds 106 = .ok (.iload_n 2, 1) := by decide +kernel
theorem dX12_odds_107 : decode cX12_odds 107 = .ok (.ifCond .ne 10, 3) := by decide +kernel
theorem dX12_odds_110 : decode cX12_odds 110 = .ok (.iload_n 3, 1) := by decide +kernel
theorem dX12_odds_111 : decode cX12_odds 111 = .ok (.iload 5, 2) := by decide +kernel
theorem dX12_odds_113 : decode cX12_odds 113 = .ok (.idiv, 1) := by decide +kernel
theorem dX12_odds_114 : decode cX12_odds 114 = .ok (.goto 8, 3) := by decide +kernel
theorem dX12_odds_117 : decode cX12_odds 117 = .ok (.bipush 60, 2) := by decide +kernel
theorem dX12_odds_119 : decode cX12_odds 119 = .ok (.iload 5, 2) := by decide +kernel
theorem dX12_odds_121 : decode cX12_odds 121 = .ok (.idiv, 1) := by decide +kernel
theorem dX12_odds_122 : decode cX12_odds 122 = .ok (.ireturn, 1) := by decide +kernel
theorem dX12_seed_0 : decode cX12_seed 0 = .ok (.aload_n 0, 1) := by decide +kernel
theorem dX12_seed_1 : decode cX12_seed 1 = .ok (.getfield 7, 3) := by decide +kernel
theorem dX12_seed_4 : decode cX12_seed 4 = .ok (.iconst 1, 1) := by decide +kernel
theorem dX12_seed_5 : decode cX12_seed 5 = .ok (.iaload, 1) := by decide +kernel
theorem dX12_seed_6 : decode cX12_seed 6 = .ok (.istore_n 2, 1) := by decide +kernel
theorem dX12_seed_7 : decode cX12_seed 7 = .ok (.aload_n 0, 1) := by decide +kernel
theorem dX12_seed_8 : decode cX12_seed 8 = .ok (.getfield 7, 3) := by decide +kernel
theorem dX12_seed_11 : decode cX12_seed 11 = .ok (.iconst 1, 1) := by decide +kernel
theorem dX12_seed_12 : decode cX12_seed 12 = .ok (.iload_n 1, 1) := by decide +kernel
theorem dX12_seed_13 : decode cX12_seed 13 = .ok (.iastore, 1) := by decide +kernel
theorem dX12_seed_14 : decode cX12_seed 14 = .ok (.iload_n 2, 1) := by decide +kernel
theorem dX12_seed_15 : decode cX12_seed 15 = .ok (.ireturn, 1) := by decide +kernel
theorem dX12_ran_0 : decode cX12_ran 0 = .ok (.aload_n 0, 1) := by decide +kernel
theorem dX12_ran_1 : decode cX12_ran 1 = .ok (.getfield 197, 3) := by decide +kernel
theorem dX12_ran_4 : decode cX12_ran 4 = .ok (.bipush 40, 2) := by decide +kernel
theorem dX12_ran_6 : decode cX12_ran 6 = .ok (.if_icmp .ge 23, 3) := by decide +kernel
theorem dX12_ran_9 : decode cX12_ran 9 = .ok (.aload_n 0, 1) := by decide +kernel
theorem dX12_ran_10 : decode cX12_ran 10 = .ok (.getfield 34, 3) := by decide +kernel
theorem dX12_ran_13 : decode cX12_ran 13 = .ok (.aload_n 0, 1) := by decide +kernel
theorem dX12_ran_14 : decode cX12_ran 14 = .ok (.getfield 197, 3) := by decide +kernel
theorem dX12_ran_17 : decode cX12_ran 17 = .ok (.iload_n 1, 1) := by decide +kernel
theorem dX12_ran_18 : decode cX12_ran 18 = .ok (.iastore, 1) := by decide +kernel
theorem dX12_ran_19 : decode cX12_ran 19 = .ok (.aload_n 0, 1) := by decide +kernel
theorem dX12_ran_20 : decode cX12_ran 20 = .ok (.dup, 1) := by decide +kernel
theorem dX12_ran_21 : decode cX12_ran 21 = .ok (.getfield 197, 3) := by decide +kernel
theorem dX12_ran_24 : decode cX12_ran 24 = .ok (.iconst 1, 1) := by decide +kernel
theorem dX12_ran_25 : decode cX12_ran 25 = .ok (.iadd, 1) := by decide +kernel
theorem dX12_ran_26 : decode cX12_ran 26 = .ok (.putfield 197, 3) := by decide +kernel
theorem dX12_ran_29 : decode cX12_ran 29 = .ok (.return_, 1) := by decide +kernel
theorem dX12_sendsIn_0 : decode cX12_sendsIn 0 = .ok (.iload_n 1, 1) := by decide +kernel
theorem dX12_sendsIn_1 : decode cX12_sendsIn 1 = .ok (.ifCond .ne 16, 3) := by decide +kernel
theorem dX12_sendsIn_4 : decode cX12_sendsIn 4 = .ok (.aload_n 0, 1) := by decide +kernel
theorem dX12_sendsIn_5 : decode cX12_sendsIn 5 = .ok (.bipush 10, 2) := by decide +kernel
theorem dX12_sendsIn_7 : decode cX12_sendsIn 7 = .ok (.invokevirtual 200, 3) := by decide +kernel
theorem dX12_sendsIn_10 : decode cX12_sendsIn 10 = .ok (.iload_n 2, 1) := by decide +kernel
theorem dX12_sendsIn_11 : decode cX12_sendsIn 11 = .ok (.aload_n 0, 1) := by decide +kernel
theorem dX12_sendsIn_12 : decode cX12_sendsIn 12 = .ok (.getfield 204, 3) := by decide +kernel
theorem dX12_sendsIn_15 : decode cX12_sendsIn 15 = .ok (.iadd, 1) := by decide +kernel
theorem dX12_sendsIn_16 : decode cX12_sendsIn 16 = .ok (.ireturn, 1) := by decide +kernel
theorem dX12_sendsIn_17 : decode cX12_sendsIn 17 = .ok (.iload_n 1, 1) := by decide +kernel
theorem dX12_sendsIn_18 : decode cX12_sendsIn 18 = .ok (.iconst 1, 1) := by decide +kernel
theorem dX12_sendsIn_19 : decode cX12_sendsIn 19 = .ok (.if_icmp .ne 18, 3) := by decide +kernel
theorem dX12_sendsIn_22 : decode cX12_sendsIn 22 = .ok (.aload_n 0, 1) := by decide +kernel
theorem dX12_sendsIn_23 : decode cX12_sendsIn 23 = .ok (.bipush 20, 2) := by decide +kernel
theorem dX12_sendsIn_25 : decode cX12_sendsIn 25 = .ok (.invokevirtual 200, 3) := by decide +kernel
theorem dX12_sendsIn_28 : decode cX12_sendsIn 28 = .ok (.aload_n 0, 1) := by decide +kernel
theorem dX12_sendsIn_29 : decode cX12_sendsIn 29 = .ok (.iconst 0, 1) := by decide +kernel
theorem dX12_sendsIn_30 : decode cX12_sendsIn 30 = .ok (.iload_n 2, 1) := by decide +kernel
theorem dX12_sendsIn_31 : decode cX12_sendsIn 31 = .ok (.invokevirtual 207, 3) := by decide +kernel
theorem dX12_sendsIn_34 : decode cX12_sendsIn 34 = .ok (.iconst 3, 1) := by decide +kernel
theorem dX12_sendsIn_35 : decode cX12_sendsIn 35 = .ok (.imul, 1) := by decide +kernel
theorem dX12_sendsIn_36 : decode cX12_sendsIn 36 = .ok (.ireturn, 1) := by decide +kernel
theorem dX12_sendsIn_37 : decode cX12_sendsIn 37 = .ok (.aload_n 0, 1) := by decide +kernel
theorem dX12_sendsIn_38 : decode cX12_sendsIn 38 = .ok (.iload_n 1, 1) := by decide +kernel
theorem dX12_sendsIn_39 : decode cX12_sendsIn 39 = .ok (.invokestatic 73, 3) := by decide +kernel
theorem dX12_sendsIn_42 : decode cX12_sendsIn 42 = .ok (.iload_n 2, 1) := by decide +kernel
theorem dX12_sendsIn_43 : decode cX12_sendsIn 43 = .ok (.invokevirtual 207, 3) := by decide +kernel
theorem dX12_sendsIn_46 : decode cX12_sendsIn 46 = .ok (.ireturn, 1) := by decide +kernel
theorem dX12_shutsIn_0 : decode cX12_shutsIn 0 = .ok (.iload_n 1, 1) := by decide +kernel
theorem dX12_shutsIn_1 : decode cX12_shutsIn 1 = .ok (.ifCond .ne 16, 3) := by decide +kernel
theorem dX12_shutsIn_4 : decode cX12_shutsIn 4 = .ok (.aload_n 0, 1) := by decide +kernel
theorem dX12_shutsIn_5 : decode cX12_shutsIn 5 = .ok (.bipush 12, 2) := by decide +kernel
theorem dX12_shutsIn_7 : decode cX12_shutsIn 7 = .ok (.invokevirtual 200, 3) := by decide +kernel
theorem dX12_shutsIn_10 : decode cX12_shutsIn 10 = .ok (.iload_n 2, 1) := by decide +kernel
theorem dX12_shutsIn_11 : decode cX12_shutsIn 11 = .ok (.aload_n 0, 1) := by decide +kernel
theorem dX12_shutsIn_12 : decode cX12_shutsIn 12 = .ok (.getfield 210, 3) := by decide +kernel
theorem dX12_shutsIn_15 : decode cX12_shutsIn 15 = .ok (.isub, 1) := by decide +kernel
theorem dX12_shutsIn_16 : decode cX12_shutsIn 16 = .ok (.ireturn, 1) := by decide +kernel
theorem dX12_shutsIn_17 : decode cX12_shutsIn 17 = .ok (.iload_n 1, 1) := by decide +kernel
theorem dX12_shutsIn_18 : decode cX12_shutsIn 18 = .ok (.iconst 3, 1) := by decide +kernel
theorem dX12_shutsIn_19 : decode cX12_shutsIn 19 = .ok (.if_icmp .ne 17, 3) := by decide +kernel
theorem dX12_shutsIn_22 : decode cX12_shutsIn 22 = .ok (.aload_n 0, 1) := by decide +kernel
theorem dX12_shutsIn_23 : decode cX12_shutsIn 23 = .ok (.bipush 40, 2) := by decide +kernel
theorem dX12_shutsIn_25 : decode cX12_shutsIn 25 = .ok (.invokevirtual 200, 3) := by decide +kernel
theorem dX12_shutsIn_28 : decode cX12_shutsIn 28 = .ok (.aload_n 0, 1) := by decide +kernel
theorem dX12_shutsIn_29 : decode cX12_shutsIn 29 = .ok (.iconst 0, 1) := by decide +kernel
theorem dX12_shutsIn_30 : decode cX12_shutsIn 30 = .ok (.iload_n 2, 1) := by decide +kernel
theorem dX12_shutsIn_31 : decode cX12_shutsIn 31 = .ok (.invokevirtual 213, 3) := by decide +kernel
theorem dX12_shutsIn_34 : decode cX12_shutsIn 34 = .ok (.ineg, 1) := by decide +kernel
theorem dX12_shutsIn_35 : decode cX12_shutsIn 35 = .ok (.ireturn, 1) := by decide +kernel
theorem dX12_shutsIn_36 : decode cX12_shutsIn 36 = .ok (.iload_n 1, 1) := by decide +kernel
theorem dX12_shutsIn_37 : decode cX12_shutsIn 37 = .ok (.bipush 6, 2) := by decide +kernel
theorem dX12_shutsIn_39 : decode cX12_shutsIn 39 = .ok (.if_icmp .ne 21, 3) := by decide +kernel
theorem dX12_shutsIn_42 : decode cX12_shutsIn 42 = .ok (.aload_n 0, 1) := by decide +kernel
theorem dX12_shutsIn_43 : decode cX12_shutsIn 43 = .ok (.bipush 70, 2) := by decide +kernel
theorem dX12_shutsIn_45 : decode cX12_shutsIn 45 = .ok (.invokevirtual 200, 3) := by decide +kernel
theorem dX12_shutsIn_48 : decode cX12_shutsIn 48 = .ok (.aload_n 0, 1) := by decide +kernel
theorem dX12_shutsIn_49 : decode cX12_shutsIn 49 = .ok (.iconst 3, 1) := by decide +kernel
theorem dX12_shutsIn_50 : decode cX12_shutsIn 50 = .ok (.iload_n 2, 1) := by decide +kernel
theorem dX12_shutsIn_51 : decode cX12_shutsIn 51 = .ok (.invokevirtual 213, 3) := by decide +kernel
theorem dX12_shutsIn_54 : decode cX12_shutsIn 54 = .ok (.aload_n 0, 1) := by decide +kernel
theorem dX12_shutsIn_55 : decode cX12_shutsIn 55 = .ok (.getfield 204, 3) := by decide +kernel
theorem dX12_shutsIn_58 : decode cX12_shutsIn 58 = .ok (.ixor, 1) := by decide +kernel
theorem dX12_shutsIn_59 : decode cX12_shutsIn 59 = .ok (.ireturn, 1) := by decide +kernel
theorem dX12_shutsIn_60 : decode cX12_shutsIn 60 = .ok (.aload_n 0, 1) := by decide +kernel
theorem dX12_shutsIn_61 : decode cX12_shutsIn 61 = .ok (.iload_n 1, 1) := by decide +kernel
theorem dX12_shutsIn_62 : decode cX12_shutsIn 62 = .ok (.invokestatic 73, 3) := by decide +kernel
theorem dX12_shutsIn_65 : decode cX12_shutsIn 65 = .ok (.iload_n 2, 1) := by decide +kernel
theorem dX12_shutsIn_66 : decode cX12_shutsIn 66 = .ok (.invokevirtual 213, 3) := by decide +kernel
theorem dX12_shutsIn_69 : decode cX12_shutsIn 69 = .ok (.ireturn, 1) := by decide +kernel
theorem dX12_holdsIn_0 : decode cX12_holdsIn 0 = .ok (.iload_n 1, 1) := by decide +kernel
theorem dX12_holdsIn_1 : decode cX12_holdsIn 1 = .ok (.ifCond .ne 21, 3) := by decide +kernel
theorem dX12_holdsIn_4 : decode cX12_holdsIn 4 = .ok (.aload_n 0, 1) := by decide +kernel
theorem dX12_holdsIn_5 : decode cX12_holdsIn 5 = .ok (.bipush 11, 2) := by decide +kernel
theorem dX12_holdsIn_7 : decode cX12_holdsIn 7 = .ok (.invokevirtual 200, 3) := by decide +kernel
theorem dX12_holdsIn_10 : decode cX12_holdsIn 10 = .ok (.aload_n 0, 1) := by decide +kernel
theorem dX12_holdsIn_11 : decode cX12_holdsIn 11 = .ok (.aload_n 0, 1) := by decide +kernel
theorem dX12_holdsIn_12 : decode cX12_holdsIn 12 = .ok (.getfield 216, 3) := by decide +kernel
theorem dX12_holdsIn_15 : decode cX12_holdsIn 15 = .ok (.iload_n 2, 1) := by decide +kernel
theorem dX12_holdsIn_16 : decode cX12_holdsIn 16 = .ok (.invokevirtual 207, 3) := by decide +kernel
theorem dX12_holdsIn_19 : decode cX12_holdsIn 19 = .ok (.iconst 2, 1) := by decide +kernel
theorem dX12_holdsIn_20 : decode cX12_holdsIn 20 = .ok (.imul, 1) := by decide +kernel
theorem dX12_holdsIn_21 : decode cX12_holdsIn 21 = .ok (.ireturn, 1) := by decide +kernel
theorem dX12_holdsIn_22 : decode cX12_holdsIn 22 = .ok (.iload_n 1, 1) := by decide +kernel
theorem dX12_holdsIn_23 : decode cX12_holdsIn 23 = .ok (.iconst 2, 1) := by decide +kernel
theorem dX12_holdsIn_24 : decode cX12_holdsIn 24 = .ok (.if_icmp .ne 28, 3) := by decide +kernel
theorem dX12_holdsIn_27 : decode cX12_holdsIn 27 = .ok (.aload_n 0, 1) := by decide +kernel
theorem dX12_holdsIn_28 : decode cX12_holdsIn 28 = .ok (.bipush 30, 2) := by decide +kernel
theorem dX12_holdsIn_30 : decode cX12_holdsIn 30 = .ok (.invokevirtual 200, 3) := by decide +kernel
theorem dX12_holdsIn_33 : decode cX12_holdsIn 33 = .ok (.aload_n 0, 1) := by decide +kernel
theorem dX12_holdsIn_34 : decode cX12_holdsIn 34 = .ok (.iconst 0, 1) := by decide +kernel
theorem dX12_holdsIn_35 : decode cX12_holdsIn 35 = .ok (.iload_n 2, 1) := by decide +kernel
theorem dX12_holdsIn_36 : decode cX12_holdsIn 36 = .ok (.invokevirtual 219, 3) := by decide +kernel
theorem dX12_holdsIn_39 : decode cX12_holdsIn 39 = .ok (.istore_n 3, 1) := by decide +kernel
theorem dX12_holdsIn_40 : decode cX12_holdsIn 40 = .ok (.iload_n 3, 1) := by decide +kernel
theorem dX12_holdsIn_41 : decode cX12_holdsIn 41 = .ok (.aload_n 0, 1) := by decide +kernel
theorem dX12_holdsIn_42 : decode cX12_holdsIn 42 = .ok (.aload_n 0, 1) := by decide +kernel
theorem dX12_holdsIn_43 : decode cX12_holdsIn 43 = .ok (.getfield 216, 3) := by decide +kernel
theorem dX12_holdsIn_46 : decode cX12_holdsIn 46 = .ok (.iconst 1, 1) := by decide +kernel
theorem dX12_holdsIn_47 : decode cX12_holdsIn 47 = .ok (.invokevirtual 213, 3) := by decide +kernel
theorem dX12_holdsIn_50 : decode cX12_holdsIn 50 = .ok (.isub, 1) := by decide +kernel
theorem dX12_holdsIn_51 : decode cX12_holdsIn 51 = .ok (.ireturn, 1) := by decide +kernel
theorem dX12_holdsIn_52 : decode cX12_holdsIn 52 = .ok (.iload_n 1, 1) := by decide +kernel
theorem dX12_holdsIn_53 : decode cX12_holdsIn 53 = .ok (.iconst 5, 1) := by decide +kernel
theorem dX12_holdsIn_54 : decode cX12_holdsIn 54 = .ok (.if_icmp .ne 18, 3) := by decide +kernel
theorem dX12_holdsIn_57 : decode cX12_holdsIn 57 = .ok (.aload_n 0, 1) := by decide +kernel
theorem dX12_holdsIn_58 : decode cX12_holdsIn 58 = .ok (.bipush 60, 2) := by decide +kernel
theorem dX12_holdsIn_60 : decode cX12_holdsIn 60 = .ok (.invokevirtual 200, 3) := by decide +kernel
theorem dX12_holdsIn_63 : decode cX12_holdsIn 63 = .ok (.aload_n 0, 1) := by decide +kernel
theorem dX12_holdsIn_64 : decode cX12_holdsIn 64 = .ok (.iconst 2, 1) := by decide +kernel
theorem dX12_holdsIn_65 : decode cX12_holdsIn 65 = .ok (.iload_n 2, 1) := by decide +kernel
theorem dX12_holdsIn_66 : decode cX12_holdsIn 66 = .ok (.iconst 1, 1) := by decide +kernel
theorem dX12_holdsIn_67 : decode cX12_holdsIn 67 = .ok (.iadd, 1) := by decide +kernel
theorem dX12_holdsIn_68 : decode cX12_holdsIn 68 = .ok (.invokevirtual 219, 3) := by decide +kernel
theorem dX12_holdsIn_71 : decode cX12_holdsIn 71 = .ok (.ireturn, 1) := by decide +kernel
theorem dX12_holdsIn_72 : decode cX12_holdsIn 72 = .ok (.aload_n 0, 1) := by decide +kernel
theorem dX12_holdsIn_73 : decode cX12_holdsIn 73 = .ok (.iload_n 1, 1) := by decide +kernel
theorem dX12_holdsIn_74 : decode cX12_holdsIn 74 = .ok (.invokestatic 73, 3) := by decide +kernel
theorem dX12_holdsIn_77 : decode cX12_holdsIn 77 = .ok (.iload_n 2, 1) := by decide +kernel
theorem dX12_holdsIn_78 : decode cX12_holdsIn 78 = .ok (.invokevirtual 219, 3) := by decide +kernel
theorem dX12_holdsIn_81 : decode cX12_holdsIn 81 = .ok (.ireturn, 1) := by decide +kernel
theorem dX12_tellsIn_0 : decode cX12_tellsIn 0 = .ok (.iload_n 1, 1) := by decide +kernel
theorem dX12_tellsIn_1 : decode cX12_tellsIn 1 = .ok (.ifCond .ne 31, 3) := by decide +kernel
theorem dX12_tellsIn_4 : decode cX12_tellsIn 4 = .ok (.aload_n 0, 1) := by decide +kernel
theorem dX12_tellsIn_5 : decode cX12_tellsIn 5 = .ok (.bipush 13, 2) := by decide +kernel
theorem dX12_tellsIn_7 : decode cX12_tellsIn 7 = .ok (.invokevirtual 200, 3) := by decide +kernel
theorem dX12_tellsIn_10 : decode cX12_tellsIn 10 = .ok (.aload_n 0, 1) := by decide +kernel
theorem dX12_tellsIn_11 : decode cX12_tellsIn 11 = .ok (.aload_n 0, 1) := by decide +kernel
theorem dX12_tellsIn_12 : decode cX12_tellsIn 12 = .ok (.getfield 216, 3) := by decide +kernel
theorem dX12_tellsIn_15 : decode cX12_tellsIn 15 = .ok (.iload_n 2, 1) := by decide +kernel
theorem dX12_tellsIn_16 : decode cX12_tellsIn 16 = .ok (.invokevirtual 219, 3) := by decide +kernel
theorem dX12_tellsIn_19 : decode cX12_tellsIn 19 = .ok (.istore_n 3, 1) := by decide +kernel
theorem dX12_tellsIn_20 : decode cX12_tellsIn 20 = .ok (.iload_n 3, 1) := by decide +kernel
theorem dX12_tellsIn_21 : decode cX12_tellsIn 21 = .ok (.aload_n 0, 1) := by decide +kernel
theorem dX12_tellsIn_22 : decode cX12_tellsIn 22 = .ok (.aload_n 0, 1) := by decide +kernel
theorem dX12_tellsIn_23 : decode cX12_tellsIn 23 = .ok (.getfield 216, 3) := by decide +kernel
theorem dX12_tellsIn_26 : decode cX12_tellsIn 26 = .ok (.iload_n 2, 1) := by decide +kernel
theorem dX12_tellsIn_27 : decode cX12_tellsIn 27 = .ok (.invokevirtual 213, 3) := by decide +kernel
theorem dX12_tellsIn_30 : decode cX12_tellsIn 30 = .ok (.ixor, 1) := by decide +kernel
theorem dX12_tellsIn_31 : decode cX12_tellsIn 31 = .ok (.ireturn, 1) := by decide +kernel
theorem dX12_tellsIn_32 : decode cX12_tellsIn 32 = .ok (.iload_n 1, 1) := by decide +kernel
theorem dX12_tellsIn_33 : decode cX12_tellsIn 33 = .ok (.iconst 4, 1) := by decide +kernel
theorem dX12_tellsIn_34 : decode cX12_tellsIn 34 = .ok (.if_icmp .ne 28, 3) := by decide +kernel
theorem dX12_tellsIn_37 : decode cX12_tellsIn 37 = .ok (.aload_n 0, 1) := by decide +kernel
theorem dX12_tellsIn_38 : decode cX12_tellsIn 38 = .ok (.bipush 50, 2) := by decide +kernel
theorem dX12_tellsIn_40 : decode cX12_tellsIn 40 = .ok (.invokevirtual 200, 3) := by decide +kernel
theorem dX12_tellsIn_43 : decode cX12_tellsIn 43 = .ok (.aload_n 0, 1) := by decide +kernel
theorem dX12_tellsIn_44 : decode cX12_tellsIn 44 = .ok (.iconst 1, 1) := by decide +kernel
theorem dX12_tellsIn_45 : decode cX12_tellsIn 45 = .ok (.iload_n 2, 1) := by decide +kernel
theorem dX12_tellsIn_46 : decode cX12_tellsIn 46 = .ok (.invokevirtual 222, 3) := by decide +kernel
theorem dX12_tellsIn_49 : decode cX12_tellsIn 49 = .ok (.istore_n 3, 1) := by decide +kernel
theorem dX12_tellsIn_50 : decode cX12_tellsIn 50 = .ok (.iload_n 3, 1) := by decide +kernel
theorem dX12_tellsIn_51 : decode cX12_tellsIn 51 = .ok (.aload_n 0, 1) := by decide +kernel
theorem dX12_tellsIn_52 : decode cX12_tellsIn 52 = .ok (.aload_n 0, 1) := by decide +kernel
theorem dX12_tellsIn_53 : decode cX12_tellsIn 53 = .ok (.getfield 216, 3) := by decide +kernel
theorem dX12_tellsIn_56 : decode cX12_tellsIn 56 = .ok (.iconst 2, 1) := by decide +kernel
theorem dX12_tellsIn_57 : decode cX12_tellsIn 57 = .ok (.invokevirtual 207, 3) := by decide +kernel
theorem dX12_tellsIn_60 : decode cX12_tellsIn 60 = .ok (.isub, 1) := by decide +kernel
theorem dX12_tellsIn_61 : decode cX12_tellsIn 61 = .ok (.ireturn, 1) := by decide +kernel
theorem dX12_tellsIn_62 : decode cX12_tellsIn 62 = .ok (.iload_n 1, 1) := by decide +kernel
theorem dX12_tellsIn_63 : decode cX12_tellsIn 63 = .ok (.bipush 6, 2) := by decide +kernel
theorem dX12_tellsIn_65 : decode cX12_tellsIn 65 = .ok (.if_icmp .ne 28, 3) := by decide +kernel
theorem dX12_tellsIn_68 : decode cX12_tellsIn 68 = .ok (.aload_n 0, 1) := by decide +kernel
theorem dX12_tellsIn_69 : decode cX12_tellsIn 69 = .ok (.bipush 71, 2) := by decide +kernel
theorem dX12_tellsIn_71 : decode cX12_tellsIn 71 = .ok (.invokevirtual 200, 3) := by decide +kernel
theorem dX12_tellsIn_74 : decode cX12_tellsIn 74 = .ok (.aload_n 0, 1) := by decide +kernel
theorem dX12_tellsIn_75 : decode cX12_tellsIn 75 = .ok (.aload_n 0, 1) := by decide +kernel
theorem dX12_tellsIn_76 : decode cX12_tellsIn 76 = .ok (.getfield 216, 3) := by decide +kernel
theorem dX12_tellsIn_79 : decode cX12_tellsIn 79 = .ok (.iload_n 2, 1) := by decide +kernel
theorem dX12_tellsIn_80 : decode cX12_tellsIn 80 = .ok (.invokevirtual 219, 3) := by decide +kernel
theorem dX12_tellsIn_83 : decode cX12_tellsIn 83 = .ok (.istore_n 3, 1) := by decide +kernel
theorem dX12_tellsIn_84 : decode cX12_tellsIn 84 = .ok (.iload_n 3, 1) := by decide +kernel
theorem dX12_tellsIn_85 : decode cX12_tellsIn 85 = .ok (.aload_n 0, 1) := by decide +kernel
theorem dX12_tellsIn_86 : decode cX12_tellsIn 86 = .ok (.iconst 3, 1) := by decide +kernel
theorem dX12_tellsIn_87 : decode cX12_tellsIn 87 = .ok (.iload_n 2, 1) := by decide +kernel
theorem dX12_tellsIn_88 : decode cX12_tellsIn 88 = .ok (.invokevirtual 222, 3) := by decide +kernel
theorem dX12_tellsIn_91 : decode cX12_tellsIn 91 = .ok (.isub, 1) := by decide +kernel
theorem dX12_tellsIn_92 : decode cX12_tellsIn 92 = .ok (.ireturn, 1) := by decide +kernel
theorem dX12_tellsIn_93 : decode cX12_tellsIn 93 = .ok (.aload_n 0, 1) := by decide +kernel
theorem dX12_tellsIn_94 : decode cX12_tellsIn 94 = .ok (.iload_n 1, 1) := by decide +kernel
theorem dX12_tellsIn_95 : decode cX12_tellsIn 95 = .ok (.invokestatic 73, 3) := by decide +kernel
theorem dX12_tellsIn_98 : decode cX12_tellsIn 98 = .ok (.iload_n 2, 1) := by decide +kernel
theorem dX12_tellsIn_99 : decode cX12_tellsIn 99 = .ok (.invokevirtual 222, 3) := by decide +kernel
theorem dX12_tellsIn_102 : decode cX12_tellsIn 102 = .ok (.ireturn, 1) := by decide +kernel
theorem dX12_voice_0 : decode cX12_voice 0 = .ok (.aload_n 0, 1) := by decide +kernel
theorem dX12_voice_1 : decode cX12_voice 1 = .ok (.iload_n 1, 1) := by decide +kernel
theorem dX12_voice_2 : decode cX12_voice 2 = .ok (.invokevirtual 60, 3) := by decide +kernel
theorem dX12_voice_5 : decode cX12_voice 5 = .ok (.ifCond .eq 12, 3) := by decide +kernel
theorem dX12_voice_8 : decode cX12_voice 8 = .ok (.iload_n 2, 1) := by decide +kernel
theorem dX12_voice_9 : decode cX12_voice 9 = .ok (.iconst 0, 1) := by decide +kernel
theorem dX12_voice_10 : decode cX12_voice 10 = .ok (.iconst 3, 1) := by decide +kernel
theorem dX12_voice_11 : decode cX12_voice 11 = .ok (.invokestatic 38, 3) := by decide +kernel
theorem dX12_voice_14 : decode cX12_voice 14 = .ok (.ifCond .ne 10, 3) := by decide +kernel
theorem dX12_voice_17 : decode cX12_voice 17 = .ok (.aload_n 0, 1) := by decide +kernel
theorem dX12_voice_18 : decode cX12_voice 18 = .ok (.ldc 50, 2) := by decide +kernel
theorem dX12_voice_20 : decode cX12_voice 20 = .ok (.invokevirtual 51, 3) := by decide +kernel
theorem dX12_voice_23 : decode cX12_voice 23 = .ok (.ireturn, 1) := by decide +kernel
theorem dX12_voice_24 : decode cX12_voice 24 = .ok (.aload_n 0, 1) := by decide +kernel
theorem dX12_voice_25 : decode cX12_voice 25 = .ok (.iconst 0, 1) := by decide +kernel
theorem dX12_voice_26 : decode cX12_voice 26 = .ok (.putfield 197, 3) := by decide +kernel
theorem dX12_voice_29 : decode cX12_voice 29 = .ok (.aload_n 0, 1) := by decide +kernel
theorem dX12_voice_30 : decode cX12_voice 30 = .ok (.aload_n 0, 1) := by decide +kernel
theorem dX12_voice_31 : decode cX12_voice 31 = .ok (.iload_n 1, 1) := by decide +kernel
theorem dX12_voice_32 : decode cX12_voice 32 = .ok (.iconst 0, 1) := by decide +kernel
theorem dX12_voice_33 : decode cX12_voice 33 = .ok (.invokevirtual 64, 3) := by decide +kernel
theorem dX12_voice_36 : decode cX12_voice 36 = .ok (.putfield 216, 3) := by decide +kernel
theorem dX12_voice_39 : decode cX12_voice 39 = .ok (.aload_n 0, 1) := by decide +kernel
theorem dX12_voice_40 : decode cX12_voice 40 = .ok (.iload_n 1, 1) := by decide +kernel
theorem dX12_voice_41 : decode cX12_voice 41 = .ok (.putfield 204, 3) := by decide +kernel
theorem dX12_voice_44 : decode cX12_voice 44 = .ok (.aload_n 0, 1) := by decide +kernel
theorem dX12_voice_45 : decode cX12_voice 45 = .ok (.aload_n 0, 1) := by decide +kernel
theorem dX12_voice_46 : decode cX12_voice 46 = .ok (.iload_n 1, 1) := by decide +kernel
theorem dX12_voice_47 : decode cX12_voice 47 = .ok (.iconst 1, 1) := by decide +kernel
theorem dX12_voice_48 : decode cX12_voice 48 = .ok (.invokevirtual 64, 3) := by decide +kernel
theorem dX12_voice_51 : decode cX12_voice 51 = .ok (.putfield 210, 3) := by decide +kernel
theorem dX12_voice_54 : decode cX12_voice 54 = .ok (.iload_n 2, 1) := by decide +kernel
theorem dX12_voice_55 : decode cX12_voice 55 = .ok (.tableswitch 55 0 2 #[25, 35, 45], 25) := by decide +kernel
theorem dX12_voice_80 : decode cX12_voice 80 = .ok (.aload_n 0, 1) := by decide +kernel
theorem dX12_voice_81 : decode cX12_voice 81 = .ok (.aload_n 0, 1) := by decide +kernel
theorem dX12_voice_82 : decode cX12_voice 82 = .ok (.getfield 216, 3) := by decide +kernel
theorem dX12_voice_85 : decode cX12_voice 85 = .ok (.iload_n 3, 1) := by decide +kernel
theorem dX12_voice_86 : decode cX12_voice 86 = .ok (.invokevirtual 207, 3) := by decide +kernel
theorem dX12_voice_89 : decode cX12_voice 89 = .ok (.ireturn, 1) := by decide +kernel
theorem dX12_voice_90 : decode cX12_voice 90 = .ok (.aload_n 0, 1) := by decide +kernel
theorem dX12_voice_91 : decode cX12_voice 91 = .ok (.aload_n 0, 1) := by decide +kernel
theorem dX12_voice_92 : decode cX12_voice 92 = .ok (.getfield 216, 3) := by decide +kernel
theorem dX12_voice_95 : decode cX12_voice 95 = .ok (.iload_n 3, 1) := by decide +kernel
theorem dX12_voice_96 : decode cX12_voice 96 = .ok (.invokevirtual 219, 3) := by decide +kernel
theorem dX12_voice_99 : decode cX12_voice 99 = .ok (.ireturn, 1) := by decide +kernel
theorem dX12_voice_100 : decode cX12_voice 100 = .ok (.aload_n 0, 1) := by decide +kernel
theorem dX12_voice_101 : decode cX12_voice 101 = .ok (.aload_n 0, 1) := by decide +kernel
theorem dX12_voice_102 : decode cX12_voice 102 = .ok (.getfield 216, 3) := by decide +kernel
theorem dX12_voice_105 : decode cX12_voice 105 = .ok (.iload_n 3, 1) := by decide +kernel
theorem dX12_voice_106 : decode cX12_voice 106 = .ok (.invokevirtual 213, 3) := by decide +kernel
theorem dX12_voice_109 : decode cX12_voice 109 = .ok (.ireturn, 1) := by decide +kernel
theorem dX12_voice_110 : decode cX12_voice 110 = .ok (.aload_n 0, 1) := by decide +kernel
theorem dX12_voice_111 : decode cX12_voice 111 = .ok (.aload_n 0, 1) := by decide +kernel
theorem dX12_voice_112 : decode cX12_voice 112 = .ok (.getfield 216, 3) := by decide +kernel
theorem dX12_voice_115 : decode cX12_voice 115 = .ok (.iload_n 3, 1) := by decide +kernel
theorem dX12_voice_116 : decode cX12_voice 116 = .ok (.invokevirtual 222, 3) := by decide +kernel
theorem dX12_voice_119 : decode cX12_voice 119 = .ok (.ireturn, 1) := by decide +kernel
theorem dX12_trace_0 : decode cX12_trace 0 = .ok (.iload_n 1, 1) := by decide +kernel
theorem dX12_trace_1 : decode cX12_trace 1 = .ok (.iconst 0, 1) := by decide +kernel
theorem dX12_trace_2 : decode cX12_trace 2 = .ok (.aload_n 0, 1) := by decide +kernel
theorem dX12_trace_3 : decode cX12_trace 3 = .ok (.getfield 197, 3) := by decide +kernel
theorem dX12_trace_6 : decode cX12_trace 6 = .ok (.iconst 1, 1) := by decide +kernel
theorem dX12_trace_7 : decode cX12_trace 7 = .ok (.isub, 1) := by decide +kernel
theorem dX12_trace_8 : decode cX12_trace 8 = .ok (.invokestatic 38, 3) := by decide +kernel
theorem dX12_trace_11 : decode cX12_trace 11 = .ok (.ifCond .eq 12, 3) := by decide +kernel
theorem dX12_trace_14 : decode cX12_trace 14 = .ok (.aload_n 0, 1) := by decide +kernel
theorem dX12_trace_15 : decode cX12_trace 15 = .ok (.getfield 34, 3) := by decide +kernel
theorem dX12_trace_18 : decode cX12_trace 18 = .ok (.iload_n 1, 1) := by decide +kernel
theorem dX12_trace_19 : decode cX12_trace 19 = .ok (.iaload, 1) := by decide +kernel
theorem dX12_trace_20 : decode cX12_trace 20 = .ok (.goto 9, 3) := by decide +kernel
theorem dX12_trace_23 : decode cX12_trace 23 = .ok (.aload_n 0, 1) := by decide +kernel
theorem dX12_trace_24 : decode cX12_trace 24 = .ok (.ldc 184, 2) := by decide +kernel
theorem dX12_trace_26 : decode cX12_trace 26 = .ok (.invokevirtual 51, 3) := by decide +kernel
theorem dX12_trace_29 : decode cX12_trace 29 = .ok (.ireturn, 1) := by decide +kernel
theorem dX12_narrow_0 : decode cX12_narrow 0 = .ok (.iload_n 0, 1) := by decide +kernel
theorem dX12_narrow_1 : decode cX12_narrow 1 = .ok (.bipush 8, 2) := by decide +kernel
theorem dX12_narrow_3 : decode cX12_narrow 3 = .ok (.if_icmp .ne 8, 3) := by decide +kernel
theorem dX12_narrow_6 : decode cX12_narrow 6 = .ok (.iload_n 1, 1) := by decide +kernel
theorem dX12_narrow_7 : decode cX12_narrow 7 = .ok (.i2b, 1) := by decide +kernel
theorem dX12_narrow_8 : decode cX12_narrow 8 = .ok (.goto 15, 3) := by decide +kernel
theorem dX12_narrow_11 : decode cX12_narrow 11 = .ok (.iload_n 0, 1) := by decide +kernel
theorem dX12_narrow_12 : decode cX12_narrow 12 = .ok (.bipush 16, 2) := by decide +kernel
theorem dX12_narrow_14 : decode cX12_narrow 14 = .ok (.if_icmp .ne 8, 3) := by decide +kernel
theorem dX12_narrow_17 : decode cX12_narrow 17 = .ok (.iload_n 1, 1) := by decide +kernel
theorem dX12_narrow_18 : decode cX12_narrow 18 = .ok (.i2s, 1) := by decide +kernel
theorem dX12_narrow_19 : decode cX12_narrow 19 = .ok (.goto 4, 3) := by decide +kernel
theorem dX12_narrow_22 : decode cX12_narrow 22 = .ok (.iload_n 1, 1) := by decide +kernel
theorem dX12_narrow_23 : decode cX12_narrow 23 = .ok (.ireturn, 1) := by decide +kernel
theorem dX12_sheet_0 : decode cX12_sheet 0 = .ok (.iload_n 1, 1) := by decide +kernel
theorem dX12_sheet_1 : decode cX12_sheet 1 = .ok (.invokestatic 191, 3) := by decide +kernel
theorem dX12_sheet_4 : decode cX12_sheet 4 = .ok (.ifCond .eq 25, 3) := by decide +kernel
theorem dX12_sheet_7 : decode cX12_sheet 7 = .ok (.iload_n 2, 1) := by decide +kernel
theorem dX12_sheet_8 : decode cX12_sheet 8 = .ok (.ifCond .eq 28, 3) := by decide +kernel
theorem dX12_sheet_11 : decode cX12_sheet 11 = .ok (.iload_n 2, 1) := by decide +kernel
theorem dX12_sheet_12 : decode cX12_sheet 12 = .ok (.bipush 8, 2) := by decide +kernel
theorem dX12_sheet_14 : decode cX12_sheet 14 = .ok (.if_icmp .eq 22, 3) := by decide +kernel
theorem dX12_sheet_17 : decode cX12_sheet 17 = .ok (.iload_n 2, 1) := by decide +kernel
theorem dX12_sheet_18 : decode cX12_sheet 18 = .ok (.bipush 16, 2) := by decide +kernel
theorem dX12_sheet_20 : decode cX12_sheet 20 = .ok (.if_icmp .eq 16, 3) := by decide +kernel
theorem dX12_sheet_23 : decode cX12_sheet 23 = .ok (.iload_n 2, 1) := by decide +kernel
theorem dX12_sheet_24 : decode cX12_sheet 24 = .ok (.bipush 32, 2) := by decide +kernel
theorem dX12_sheet_26 : decode cX12_sheet 26 = .ok (.if_icmp .eq 10, 3) := by decide +kernel
theorem dX12_sheet_29 : decode cX12_sheet 29 = .ok (.aload_n 0, 1) := by decide +kernel
theorem dX12_sheet_30 : decode cX12_sheet 30 = .ok (.ldc 50, 2) := by decide +kernel
theorem dX12_sheet_32 : decode cX12_sheet 32 = .ok (.invokevirtual 51, 3) := by decide +kernel
theorem dX12_sheet_35 : decode cX12_sheet 35 = .ok (.ireturn, 1) := by decide +kernel
theorem dX12_sheet_36 : decode cX12_sheet 36 = .ok (.iload_n 2, 1) := by decide +kernel
theorem dX12_sheet_37 : decode cX12_sheet 37 = .ok (.ifCond .eq 14, 3) := by decide +kernel
theorem dX12_sheet_40 : decode cX12_sheet 40 = .ok (.iload_n 3, 1) := by decide +kernel
theorem dX12_sheet_41 : decode cX12_sheet 41 = .ok (.ifCond .ge 10, 3) := by decide +kernel
theorem dX12_sheet_44 : decode cX12_sheet 44 = .ok (.aload_n 0, 1) := by decide +kernel
theorem dX12_sheet_45 : decode cX12_sheet 45 = .ok (.ldc 161, 2) := by decide +kernel
theorem dX12_sheet_47 : decode cX12_sheet 47 = .ok (.invokevirtual 51, 3) := by decide +kernel
theorem dX12_sheet_50 : decode cX12_sheet 50 = .ok (.ireturn, 1) := by decide +kernel
theorem dX12_sheet_51 : decode cX12_sheet 51 = .ok (.iload_n 2, 1) := by decide +kernel
theorem dX12_sheet_52 : decode cX12_sheet 52 = .ok (.ifCond .eq 16, 3) := by decide +kernel
theorem dX12_sheet_55 : decode cX12_sheet 55 = .ok (.iload_n 3, 1) := by decide +kernel
theorem dX12_sheet_56 : decode cX12_sheet 56 = .ok (.bipush 40, 2) := by decide +kernel
theorem dX12_sheet_58 : decode cX12_sheet 58 = .ok (.if_icmp .le 10, 3) := by decide +kernel
theorem dX12_sheet_61 : decode cX12_sheet 61 = .ok (.aload_n 0, 1) := by decide +kernel
theorem dX12_sheet_62 : decode cX12_sheet 62 = .ok (.ldc 50, 2) := by decide +kernel
theorem dX12_sheet_64 : decode cX12_sheet 64 = .ok (.invokevirtual 51, 3) := by decide +kernel
theorem dX12_sheet_67 : decode cX12_sheet 67 = .ok (.ireturn, 1) := by decide +kernel
theorem dX12_sheet_68 : decode cX12_sheet 68 = .ok (.aload_n 0, 1) := by decide +kernel
theorem dX12_sheet_69 : decode cX12_sheet 69 = .ok (.getfield 22, 3) := by decide +kernel
theorem dX12_sheet_72 : decode cX12_sheet 72 = .ok (.iload_n 1, 1) := by decide +kernel
theorem dX12_sheet_73 : decode cX12_sheet 73 = .ok (.iload_n 2, 1) := by decide +kernel
theorem dX12_sheet_74 : decode cX12_sheet 74 = .ok (.iastore, 1) := by decide +kernel
theorem dX12_sheet_75 : decode cX12_sheet 75 = .ok (.aload_n 0, 1) := by decide +kernel
theorem dX12_sheet_76 : decode cX12_sheet 76 = .ok (.getfield 25, 3) := by decide +kernel
theorem dX12_sheet_79 : decode cX12_sheet 79 = .ok (.iload_n 1, 1) := by decide +kernel
theorem dX12_sheet_80 : decode cX12_sheet 80 = .ok (.iload_n 2, 1) := by decide +kernel
theorem dX12_sheet_81 : decode cX12_sheet 81 = .ok (.ifCond .ne 7, 3) := by decide +kernel
theorem dX12_sheet_84 : decode cX12_sheet 84 = .ok (.iconst 0, 1) := by decide +kernel
theorem dX12_sheet_85 : decode cX12_sheet 85 = .ok (.goto 4, 3) := by decide +kernel
theorem dX12_sheet_88 : decode cX12_sheet 88 = .ok (.iload_n 3, 1) := by decide +kernel
theorem dX12_sheet_89 : decode cX12_sheet 89 = .ok (.iastore, 1) := by decide +kernel
theorem dX12_sheet_90 : decode cX12_sheet 90 = .ok (.iconst 0, 1) := by decide +kernel
theorem dX12_sheet_91 : decode cX12_sheet 91 = .ok (.istore 4, 2) := by decide +kernel
theorem dX12_sheet_93 : decode cX12_sheet 93 = .ok (.iload 4, 2) := by decide +kernel
theorem dX12_sheet_95 : decode cX12_sheet 95 = .ok (.bipush 40, 2) := by decide +kernel
theorem dX12_sheet_97 : decode cX12_sheet 97 = .ok (.if_icmp .ge 22, 3) := by decide +kernel
theorem dX12_sheet_100 : decode cX12_sheet 100 = .ok (.aload_n 0, 1) := by decide +kernel
theorem dX12_sheet_101 : decode cX12_sheet 101 = .ok (.getfield 28, 3) := by decide +kernel
theorem dX12_sheet_104 : decode cX12_sheet 104 = .ok (.bipush 40, 2) := by decide +kernel
theorem dX12_sheet_106 : decode cX12_sheet 106 = .ok (.iload_n 1, 1) := by decide +kernel
theorem dX12_sheet_107 : decode cX12_sheet 107 = .ok (.imul, 1) := by decide +kernel
theorem dX12_sheet_108 : decode cX12_sheet 108 = .ok (.iload 4, 2) := by decide +kernel
theorem dX12_sheet_110 : decode cX12_sheet 110 = .ok (.iadd, 1) := by decide +kernel
theorem dX12_sheet_111 : decode cX12_sheet 111 = .ok (.iconst 0, 1) := by decide +kernel
theorem dX12_sheet_112 : decode cX12_sheet 112 = .ok (.iastore, 1) := by decide +kernel
theorem dX12_sheet_113 : decode cX12_sheet 113 = .ok (.iinc 4 1, 3) := by decide +kernel
theorem dX12_sheet_116 : decode cX12_sheet 116 = .ok (.goto (-23), 3) := by decide +kernel
theorem dX12_sheet_119 : decode cX12_sheet 119 = .ok (.iconst 1, 1) := by decide +kernel
theorem dX12_sheet_120 : decode cX12_sheet 120 = .ok (.ireturn, 1) := by decide +kernel
theorem dX12_put_0 : decode cX12_put 0 = .ok (.iload_n 1, 1) := by decide +kernel
theorem dX12_put_1 : decode cX12_put 1 = .ok (.invokestatic 191, 3) := by decide +kernel
theorem dX12_put_4 : decode cX12_put 4 = .ok (.ifCond .ne 10, 3) := by decide +kernel
theorem dX12_put_7 : decode cX12_put 7 = .ok (.aload_n 0, 1) := by decide +kernel
theorem dX12_put_8 : decode cX12_put 8 = .ok (.ldc 50, 2) := by decide +kernel
theorem dX12_put_10 : decode cX12_put 10 = .ok (.invokevirtual 51, 3) := by decide +kernel
theorem dX12_put_13 : decode cX12_put 13 = .ok (.ireturn, 1) := by decide +kernel
theorem dX12_put_14 : decode cX12_put 14 = .ok (.aload_n 0, 1) := by decide +kernel
theorem dX12_put_15 : decode cX12_put 15 = .ok (.getfield 22, 3) := by decide +kernel
theorem dX12_put_18 : decode cX12_put 18 = .ok (.iload_n 1, 1) := by decide +kernel
theorem dX12_put_19 : decode cX12_put 19 = .ok (.iaload, 1) := by decide +kernel
theorem dX12_put_20 : decode cX12_put 20 = .ok (.ifCond .ne 10, 3) := by decide +kernel
theorem dX12_put_23 : decode cX12_put 23 = .ok (.aload_n 0, 1) := by decide +kernel
theorem dX12_put_24 : decode cX12_put 24 = .ok (.ldc 184, 2) := by decide +kernel
theorem dX12_put_26 : decode cX12_put 26 = .ok (.invokevirtual 51, 3) := by decide +kernel
theorem dX12_put_29 : decode cX12_put 29 = .ok (.ireturn, 1) := by decide +kernel
theorem dX12_put_30 : decode cX12_put 30 = .ok (.iload_n 2, 1) := by decide +kernel
theorem dX12_put_31 : decode cX12_put 31 = .ok (.iconst 0, 1) := by decide +kernel
theorem dX12_put_32 : decode cX12_put 32 = .ok (.aload_n 0, 1) := by decide +kernel
theorem dX12_put_33 : decode cX12_put 33 = .ok (.getfield 25, 3) := by decide +kernel
theorem dX12_put_36 : decode cX12_put 36 = .ok (.iload_n 1, 1) := by decide +kernel
theorem dX12_put_37 : decode cX12_put 37 = .ok (.iaload, 1) := by decide +kernel
theorem dX12_put_38 : decode cX12_put 38 = .ok (.iconst 1, 1) := by decide +kernel
theorem dX12_put_39 : decode cX12_put 39 = .ok (.isub, 1) := by decide +kernel
theorem dX12_put_40 : decode cX12_put 40 = .ok (.invokestatic 38, 3) := by decide +kernel
theorem dX12_put_43 : decode cX12_put 43 = .ok (.ifCond .ne 10, 3) := by decide +kernel
theorem dX12_put_46 : decode cX12_put 46 = .ok (.aload_n 0, 1) := by decide +kernel
theorem dX12_put_47 : decode cX12_put 47 = .ok (.ldc 50, 2) := by decide +kernel
theorem dX12_put_49 : decode cX12_put 49 = .ok (.invokevirtual 51, 3) := by decide +kernel
theorem dX12_put_52 : decode cX12_put 52 = .ok (.ireturn, 1) := by decide +kernel
theorem dX12_put_53 : decode cX12_put 53 = .ok (.aload_n 0, 1) := by decide +kernel
theorem dX12_put_54 : decode cX12_put 54 = .ok (.getfield 28, 3) := by decide +kernel
theorem dX12_put_57 : decode cX12_put 57 = .ok (.bipush 40, 2) := by decide +kernel
theorem dX12_put_59 : decode cX12_put 59 = .ok (.iload_n 1, 1) := by decide +kernel
theorem dX12_put_60 : decode cX12_put 60 = .ok (.imul, 1) := by decide +kernel
theorem dX12_put_61 : decode cX12_put 61 = .ok (.iload_n 2, 1) := by decide +kernel
theorem dX12_put_62 : decode cX12_put 62 = .ok (.iadd, 1) := by decide +kernel
theorem dX12_put_63 : decode cX12_put 63 = .ok (.aload_n 0, 1) := by decide +kernel
theorem dX12_put_64 : decode cX12_put 64 = .ok (.getfield 22, 3) := by decide +kernel
theorem dX12_put_67 : decode cX12_put 67 = .ok (.iload_n 1, 1) := by decide +kernel
theorem dX12_put_68 : decode cX12_put 68 = .ok (.iaload, 1) := by decide +kernel
theorem dX12_put_69 : decode cX12_put 69 = .ok (.iload_n 3, 1) := by decide +kernel
theorem dX12_put_70 : decode cX12_put 70 = .ok (.invokestatic 225, 3) := by decide +kernel
theorem dX12_put_73 : decode cX12_put 73 = .ok (.iastore, 1) := by decide +kernel
theorem dX12_put_74 : decode cX12_put 74 = .ok (.iconst 1, 1) := by decide +kernel
theorem dX12_put_75 : decode cX12_put 75 = .ok (.ireturn, 1) := by decide +kernel
theorem dX12_move_0 : decode cX12_move 0 = .ok (.iload_n 1, 1) := by decide +kernel
theorem dX12_move_1 : decode cX12_move 1 = .ok (.invokestatic 191, 3) := by decide +kernel
theorem dX12_move_4 : decode cX12_move 4 = .ok (.ifCond .eq 10, 3) := by decide +kernel
theorem dX12_move_7 : decode cX12_move 7 = .ok (.iload_n 3, 1) := by decide +kernel
theorem dX12_move_8 : decode cX12_move 8 = .ok (.invokestatic 191, 3) := by decide +kernel
theorem dX12_move_11 : decode cX12_move 11 = .ok (.ifCond .ne 10, 3) := by decide +kernel
theorem dX12_move_14 : decode cX12_move 14 = .ok (.aload_n 0, 1) := by decide +kernel
theorem dX12_move_15 : decode cX12_move 15 = .ok (.ldc 50, 2) := by decide +kernel
theorem dX12_move_17 : decode cX12_move 17 = .ok (.invokevirtual 51, 3) := by decide +kernel
theorem dX12_move_20 : decode cX12_move 20 = .ok (.ireturn, 1) := by decide +kernel
theorem dX12_move_21 : decode cX12_move 21 = .ok (.aload_n 0, 1) := by decide +kernel
theorem dX12_move_22 : decode cX12_move 22 = .ok (.getfield 22, 3) := by decide +kernel
theorem dX12_move_25 : decode cX12_move 25 = .ok (.iload_n 1, 1) := by decide +kernel
theorem dX12_move_26 : decode cX12_move 26 = .ok (.iaload, 1) := by decide +kernel
theorem dX12_move_27 : decode cX12_move 27 = .ok (.ifCond .eq 12, 3) := by decide +kernel
theorem dX12_move_30 : decode cX12_move 30 = .ok (.aload_n 0, 1) := by decide +kernel
theorem dX12_move_31 : decode cX12_move 31 = .ok (.getfield 22, 3) := by decide +kernel
theorem dX12_move_34 : decode cX12_move 34 = .ok (.iload_n 3, 1) := by decide +kernel
theorem dX12_move_35 : decode cX12_move 35 = .ok (.iaload, 1) := by decide +kernel
theorem dX12_move_36 : decode cX12_move 36 = .ok (.ifCond .ne 10, 3) := by decide +kernel
theorem dX12_move_39 : decode cX12_move 39 = .ok (.aload_n 0, 1) := by decide +kernel
theorem dX12_move_40 : decode cX12_move 40 = .ok (.ldc 184, 2) := by decide +kernel
theorem dX12_move_42 : decode cX12_move 42 = .ok (.invokevirtual 51, 3) := by decide +kernel
theorem dX12_move_45 : decode cX12_move 45 = .ok (.ireturn, 1) := by decide +kernel
theorem dX12_move_46 : decode cX12_move 46 = .ok (.aload_n 0, 1) := by decide +kernel
theorem dX12_move_47 : decode cX12_move 47 = .ok (.getfield 22, 3) := by decide +kernel
theorem dX12_move_50 : decode cX12_move 50 = .ok (.iload_n 1, 1) := by decide +kernel
theorem dX12_move_51 : decode cX12_move 51 = .ok (.iaload, 1) := by decide +kernel
theorem dX12_move_52 : decode cX12_move 52 = .ok (.aload_n 0, 1) := by decide +kernel
theorem dX12_move_53 : decode cX12_move 53 = .ok (.getfield 22, 3) := by decide +kernel
theorem dX12_move_56 : decode cX12_move 56 = .ok (.iload_n 3, 1) := by decide +kernel
theorem dX12_move_57 : decode cX12_move 57 = .ok (.iaload, 1) := by decide +kernel
theorem dX12_move_58 : decode cX12_move 58 = .ok (.if_icmp .eq 10, 3) := by decide +kernel
theorem dX12_move_61 : decode cX12_move 61 = .ok (.aload_n 0, 1) := by decide +kernel
theorem dX12_move_62 : decode cX12_move 62 = .ok (.ldc 76, 2) := by decide +kernel
theorem dX12_move_64 : decode cX12_move 64 = .ok (.invokevirtual 51, 3) := by decide +kernel
theorem dX12_move_67 : decode cX12_move 67 = .ok (.ireturn, 1) := by decide +kernel
theorem dX12_move_68 : decode cX12_move 68 = .ok (.iload 5, 2) := by decide +kernel
theorem dX12_move_70 : decode cX12_move 70 = .ok (.ifCond .lt 39, 3) := by decide +kernel
theorem dX12_move_73 : decode cX12_move 73 = .ok (.iload_n 2, 1) := by decide +kernel
theorem dX12_move_74 : decode cX12_move 74 = .ok (.ifCond .lt 35, 3) := by decide +kernel
theorem dX12_move_77 : decode cX12_move 77 = .ok (.iload 4, 2) := by decide +kernel
theorem dX12_move_79 : decode cX12_move 79 = .ok (.ifCond .lt 30, 3) := by decide +kernel
theorem dX12_move_82 : decode cX12_move 82 = .ok (.iload_n 2, 1) := by decide +kernel
theorem dX12_move_83 : decode cX12_move 83 = .ok (.aload_n 0, 1) := by decide +kernel
theorem dX12_move_84 : decode cX12_move 84 = .ok (.getfield 25, 3) := by decide +kernel
theorem dX12_move_87 : decode cX12_move 87 = .ok (.iload_n 1, 1) := by decide +kernel
theorem dX12_move_88 : decode cX12_move 88 = .ok (.iaload, 1) := by decide +kernel
theorem dX12_move_89 : decode cX12_move 89 = .ok (.iload 5, 2) := by decide +kernel
theorem dX12_move_91 : decode cX12_move 91 = .ok (.isub, 1) := by decide +kernel
theorem dX12_move_92 : decode cX12_move 92 = .ok (.if_icmp .gt 17, 3) := by decide +kernel
theorem dX12_move_95 : decode cX12_move 95 = .ok (.iload 4, 2) := by decide +kernel
theorem dX12_move_97 : decode cX12_move 97 = .ok (.aload_n 0, 1) := by decide +kernel
theorem dX12_move_98 : decode cX12_move 98 = .ok (.getfield 25, 3) := by decide +kernel
theorem dX12_move_101 : decode cX12_move 101 = .ok (.iload_n 3, 1) := by decide +kernel
theorem dX12_move_102 : decode cX12_move 102 = .ok (.iaload, 1) := by decide +kernel
theorem dX12_move_103 : decode cX12_move 103 = .ok (.iload 5, 2) := by decide +kernel
theorem dX12_move_105 : decode cX12_move 105 = .ok (.isub, 1) := by decide +kernel
theorem dX12_move_106 : decode cX12_move 106 = .ok (.if_icmp .le 10, 3) := by decide +kernel
theorem dX12_move_109 : decode cX12_move 109 = .ok (.aload_n 0, 1) := by decide +kernel
theorem dX12_move_110 : decode cX12_move 110 = .ok (.ldc 50, 2) := by decide +kernel
theorem dX12_move_112 : decode cX12_move 112 = .ok (.invokevirtual 51, 3) := by decide +kernel
theorem dX12_move_115 : decode cX12_move 115 = .ok (.ireturn, 1) := by decide +kernel
theorem dX12_move_116 : decode cX12_move 116 = .ok (.iconst 0, 1) := by decide +kernel
theorem dX12_move_117 : decode cX12_move 117 = .ok (.istore 6, 2) := by decide +kernel
theorem dX12_move_119 : decode cX12_move 119 = .ok (.iload 6, 2) := by decide +kernel
theorem dX12_move_121 : decode cX12_move 121 = .ok (.iload 5, 2) := by decide +kernel
theorem dX12_move_123 : decode cX12_move 123 = .ok (.if_icmp .ge 30, 3) := by decide +kernel
theorem dX12_move_126 : decode cX12_move 126 = .ok (.aload_n 0, 1) := by decide +kernel
theorem dX12_move_127 : decode cX12_move 127 = .ok (.getfield 31, 3) := by decide +kernel
theorem dX12_move_130 : decode cX12_move 130 = .ok (.iload 6, 2) := by decide +kernel
theorem dX12_move_132 : decode cX12_move 132 = .ok (.aload_n 0, 1) := by decide +kernel
theorem dX12_move_133 : decode cX12_move 133 = .ok (.getfield 28, 3) := by decide +kernel
theorem dX12_move_136 : decode cX12_move 136 = .ok (.bipush 40, 2) := by decide +kernel
theorem dX12_move_138 : decode cX12_move 138 = .ok (.iload_n 1, 1) := by decide +kernel
theorem dX12_move_139 : decode cX12_move 139 = .ok (.imul, 1) := by decide +kernel
theorem dX12_move_140 : decode cX12_move 140 = .ok (.iload_n 2, 1) := by decide +kernel
theorem dX12_move_141 : decode cX12_move 141 = .ok (.iadd, 1) := by decide +kernel
theorem dX12_move_142 : decode cX12_move 142 = .ok (.iload 6, 2) := by decide +kernel
theorem dX12_move_144 : decode cX12_move 144 = .ok (.iadd, 1) := by decide +kernel
theorem dX12_move_145 : decode cX12_move 145 = .ok (.iaload, 1) := by decide +kernel
theorem dX12_move_146 : decode cX12_move 146 = .ok (.iastore, 1) := by decide +kernel
theorem dX12_move_147 : decode cX12_move 147 = .ok (.iinc 6 1, 3) := by decide +kernel
theorem dX12_move_150 : decode cX12_move 150 = .ok (.goto (-31), 3) := by decide +kernel
theorem dX12_move_153 : decode cX12_move 153 = .ok (.iconst 0, 1) := by decide +kernel
theorem dX12_move_154 : decode cX12_move 154 = .ok (.istore 6, 2) := by decide +kernel
theorem dX12_move_156 : decode cX12_move 156 = .ok (.iload 6, 2) := by decide +kernel
theorem dX12_move_158 : decode cX12_move 158 = .ok (.iload 5, 2) := by decide +kernel
theorem dX12_move_160 : decode cX12_move 160 = .ok (.if_icmp .ge 31, 3) := by decide +kernel
theorem dX12_move_163 : decode cX12_move 163 = .ok (.aload_n 0, 1) := by decide +kernel
theorem dX12_move_164 : decode cX12_move 164 = .ok (.getfield 28, 3) := by decide +kernel
theorem dX12_move_167 : decode cX12_move 167 = .ok (.bipush 40, 2) := by decide +kernel
theorem dX12_move_169 : decode cX12_move 169 = .ok (.iload_n 3, 1) := by decide +kernel
theorem dX12_move_170 : decode cX12_move 170 = .ok (.imul, 1) := by decide +kernel
theorem dX12_move_171 : decode cX12_move 171 = .ok (.iload 4, 2) := by decide +kernel
theorem dX12_move_173 : decode cX12_move 173 = .ok (.iadd, 1) := by decide +kernel
theorem dX12_move_174 : decode cX12_move 174 = .ok (.iload 6, 2) := by decide +kernel
theorem dX12_move_176 : decode cX12_move 176 = .ok (.iadd, 1) := by decide +kernel
theorem dX12_move_177 : decode cX12_move 177 = .ok (.aload_n 0, 1) := by decide +kernel
theorem dX12_move_178 : decode cX12_move 178 = .ok (.getfield 31, 3) := by decide +kernel
theorem dX12_move_181 : decode cX12_move 181 = .ok (.iload 6, 2) := by decide +kernel
theorem dX12_move_183 : decode cX12_move 183 = .ok (.iaload, 1) := by decide +kernel
theorem dX12_move_184 : decode cX12_move 184 = .ok (.iastore, 1) := by decide +kernel
theorem dX12_move_185 : decode cX12_move 185 = .ok (.iinc 6 1, 3) := by decide +kernel
theorem dX12_move_188 : decode cX12_move 188 = .ok (.goto (-32), 3) := by decide +kernel
theorem dX12_move_191 : decode cX12_move 191 = .ok (.iload 5, 2) := by decide +kernel
theorem dX12_move_193 : decode cX12_move 193 = .ok (.ireturn, 1) := by decide +kernel
theorem dX12_fars_0 : decode cX12_fars 0 = .ok (.iload_n 1, 1) := by decide +kernel
theorem dX12_fars_1 : decode cX12_fars 1 = .ok (.invokestatic 191, 3) := by decide +kernel
theorem dX12_fars_4 : decode cX12_fars 4 = .ok (.ifCond .ne 10, 3) := by decide +kernel
theorem dX12_fars_7 : decode cX12_fars 7 = .ok (.aload_n 0, 1) := by decide +kernel
theorem dX12_fars_8 : decode cX12_fars 8 = .ok (.ldc 50, 2) := by decide +kernel
theorem dX12_fars_10 : decode cX12_fars 10 = .ok (.invokevirtual 51, 3) := by decide +kernel
theorem dX12_fars_13 : decode cX12_fars 13 = .ok (.ireturn, 1) := by decide +kernel
theorem dX12_fars_14 : decode cX12_fars 14 = .ok (.aload_n 0, 1) := by decide +kernel
theorem dX12_fars_15 : decode cX12_fars 15 = .ok (.getfield 22, 3) := by decide +kernel
theorem dX12_fars_18 : decode cX12_fars 18 = .ok (.iload_n 1, 1) := by decide +kernel
theorem dX12_fars_19 : decode cX12_fars 19 = .ok (.iaload, 1) := by decide +kernel
theorem dX12_fars_20 : decode cX12_fars 20 = .ok (.ifCond .ne 10, 3) := by decide +kernel
theorem dX12_fars_23 : decode cX12_fars 23 = .ok (.aload_n 0, 1) := by decide +kernel
theorem dX12_fars_24 : decode cX12_fars 24 = .ok (.ldc 184, 2) := by decide +kernel
theorem dX12_fars_26 : decode cX12_fars 26 = .ok (.invokevirtual 51, 3) := by decide +kernel
theorem dX12_fars_29 : decode cX12_fars 29 = .ok (.ireturn, 1) := by decide +kernel
theorem dX12_fars_30 : decode cX12_fars 30 = .ok (.iconst 0, 1) := by decide +kernel
theorem dX12_fars_31 : decode cX12_fars 31 = .ok (.istore_n 2, 1) := by decide +kernel
theorem dX12_fars_32 : decode cX12_fars 32 = .ok (.iload_n 2, 1) := by decide +kernel
theorem dX12_fars_33 : decode cX12_fars 33 = .ok (.aload_n 0, 1) := by decide +kernel
theorem dX12_fars_34 : decode cX12_fars 34 = .ok (.getfield 25, 3) := by decide +kernel
theorem dX12_fars_37 : decode cX12_fars 37 = .ok (.iload_n 1, 1) := by decide +kernel
theorem dX12_fars_38 : decode cX12_fars 38 = .ok (.iaload, 1) := by decide +kernel
theorem dX12_fars_39 : decode cX12_fars 39 = .ok (.if_icmp .ge 54, 3) := by decide +kernel
theorem dX12_fars_42 : decode cX12_fars 42 = .ok (.aload_n 0, 1) := by decide +kernel
theorem dX12_fars_43 : decode cX12_fars 43 = .ok (.iload_n 2, 1) := by decide +kernel
theorem dX12_fars_44 : decode cX12_fars 44 = .ok (.invokevirtual 60, 3) := by decide +kernel
theorem dX12_fars_47 : decode cX12_fars 47 = .ok (.ifCond .eq 46, 3) := by decide +kernel
theorem dX12_fars_50 : decode cX12_fars 50 = .ok (.aload_n 0, 1) := by decide +kernel
theorem dX12_fars_51 : decode cX12_fars 51 = .ok (.getfield 28, 3) := by decide +kernel
theorem dX12_fars_54 : decode cX12_fars 54 = .ok (.bipush 40, 2) := by decide +kernel
theorem dX12_fars_56 : decode cX12_fars 56 = .ok (.iload_n 1, 1) := by decide +kernel
theorem dX12_fars_57 : decode cX12_fars 57 = .ok (.imul, 1) := by decide +kernel
theorem dX12_fars_58 : decode cX12_fars 58 = .ok (.iload_n 2, 1) := by decide +kernel
theorem dX12_fars_59 : decode cX12_fars 59 = .ok (.iadd, 1) := by decide +kernel
theorem dX12_fars_60 : decode cX12_fars 60 = .ok (.iaload, 1) := by decide +kernel
theorem dX12_fars_61 : decode cX12_fars 61 = .ok (.iconst 0, 1) := by decide +kernel
theorem dX12_fars_62 : decode cX12_fars 62 = .ok (.bipush 99, 2) := by decide +kernel
theorem dX12_fars_64 : decode cX12_fars 64 = .ok (.invokestatic 38, 3) := by decide +kernel
theorem dX12_fars_67 : decode cX12_fars 67 = .ok (.ifCond .eq 26, 3) := by decide +kernel
theorem dX12_fars_70 : decode cX12_fars 70 = .ok (.aload_n 0, 1) := by decide +kernel
theorem dX12_fars_71 : decode cX12_fars 71 = .ok (.iload_n 2, 1) := by decide +kernel
theorem dX12_fars_72 : decode cX12_fars 72 = .ok (.iconst 2, 1) := by decide +kernel
theorem dX12_fars_73 : decode cX12_fars 73 = .ok (.aload_n 0, 1) := by decide +kernel
theorem dX12_fars_74 : decode cX12_fars 74 = .ok (.getfield 28, 3) := by decide +kernel
theorem dX12_fars_77 : decode cX12_fars 77 = .ok (.bipush 40, 2) := by decide +kernel
theorem dX12_fars_79 : decode cX12_fars 79 = .ok (.iload_n 1, 1) := by decide +kernel
theorem dX12_fars_80 : decode cX12_fars 80 = .ok (.imul, 1) := by decide +kernel
theorem dX12_fars_81 : decode cX12_fars 81 = .ok (.iload_n 2, 1) := by decide +kernel
theorem dX12_fars_82 : decode cX12_fars 82 = .ok (.iadd, 1) := by decide +kernel
theorem dX12_fars_83 : decode cX12_fars 83 = .ok (.iaload, 1) := by decide +kernel
theorem dX12_fars_84 : decode cX12_fars 84 = .ok (.invokevirtual 56, 3) := by decide +kernel
theorem dX12_fars_87 : decode cX12_fars 87 = .ok (.iinc 2 1, 3) := by decide +kernel
theorem dX12_fars_90 : decode cX12_fars 90 = .ok (.goto (-58), 3) := by decide +kernel
theorem dX12_fars_93 : decode cX12_fars 93 = .ok (.iload_n 2, 1) := by decide +kernel
theorem dX12_fars_94 : decode cX12_fars 94 = .ok (.ireturn, 1) := by decide +kernel
theorem dX12_judge_0 : decode cX12_judge 0 = .ok (.iload_n 1, 1) := by decide +kernel
theorem dX12_judge_1 : decode cX12_judge 1 = .ok (.invokestatic 191, 3) := by decide +kernel
theorem dX12_judge_4 : decode cX12_judge 4 = .ok (.ifCond .ne 10, 3) := by decide +kernel
theorem dX12_judge_7 : decode cX12_judge 7 = .ok (.aload_n 0, 1) := by decide +kernel
theorem dX12_judge_8 : decode cX12_judge 8 = .ok (.ldc 50, 2) := by decide +kernel
theorem dX12_judge_10 : decode cX12_judge 10 = .ok (.invokevirtual 51, 3) := by decide +kernel
theorem dX12_judge_13 : decode cX12_judge 13 = .ok (.ireturn, 1) := by decide +kernel
theorem dX12_judge_14 : decode cX12_judge 14 = .ok (.aload_n 0, 1) := by decide +kernel
theorem dX12_judge_15 : decode cX12_judge 15 = .ok (.getfield 22, 3) := by decide +kernel
theorem dX12_judge_18 : decode cX12_judge 18 = .ok (.iload_n 1, 1) := by decide +kernel
theorem dX12_judge_19 : decode cX12_judge 19 = .ok (.iaload, 1) := by decide +kernel
theorem dX12_judge_20 : decode cX12_judge 20 = .ok (.ifCond .ne 10, 3) := by decide +kernel
theorem dX12_judge_23 : decode cX12_judge 23 = .ok (.aload_n 0, 1) := by decide +kernel
theorem dX12_judge_24 : decode cX12_judge 24 = .ok (.ldc 184, 2) := by decide +kernel
theorem dX12_judge_26 : decode cX12_judge 26 = .ok (.invokevirtual 51, 3) := by decide +kernel
theorem dX12_judge_29 : decode cX12_judge 29 = .ok (.ireturn, 1) := by decide +kernel
theorem dX12_judge_30 : decode cX12_judge 30 = .ok (.iconst 0, 1) := by decide +kernel
theorem dX12_judge_31 : decode cX12_judge 31 = .ok (.istore_n 2, 1) := by decide +kernel
theorem dX12_judge_32 : decode cX12_judge 32 = .ok (.iload_n 2, 1) := by decide +kernel
theorem dX12_judge_33 : decode cX12_judge 33 = .ok (.aload_n 0, 1) := by decide +kernel
theorem dX12_judge_34 : decode cX12_judge 34 = .ok (.getfield 7, 3) := by decide +kernel
theorem dX12_judge_37 : decode cX12_judge 37 = .ok (.iconst 2, 1) := by decide +kernel
theorem dX12_judge_38 : decode cX12_judge 38 = .ok (.iaload, 1) := by decide +kernel
theorem dX12_judge_39 : decode cX12_judge 39 = .ok (.if_icmp .ge 39, 3) := by decide +kernel
theorem dX12_judge_42 : decode cX12_judge 42 = .ok (.iload_n 2, 1) := by decide +kernel
theorem dX12_judge_43 : decode cX12_judge 43 = .ok (.aload_n 0, 1) := by decide +kernel
theorem dX12_judge_44 : decode cX12_judge 44 = .ok (.getfield 25, 3) := by decide +kernel
theorem dX12_judge_47 : decode cX12_judge 47 = .ok (.iload_n 1, 1) := by decide +kernel
theorem dX12_judge_48 : decode cX12_judge 48 = .ok (.iaload, 1) := by decide +kernel
theorem dX12_judge_49 : decode cX12_judge 49 = .ok (.if_icmp .ge 29, 3) := by decide +kernel
theorem dX12_judge_52 : decode cX12_judge 52 = .ok (.aload_n 0, 1) := by decide +kernel
theorem dX12_judge_53 : decode cX12_judge 53 = .ok (.getfield 28, 3) := by decide +kernel
theorem dX12_judge_56 : decode cX12_judge 56 = .ok (.bipush 40, 2) := by decide +kernel
theorem dX12_judge_58 : decode cX12_judge 58 = .ok (.iload_n 1, 1) := by decide +kernel
theorem dX12_judge_59 : decode cX12_judge 59 = .ok (.imul, 1) := by decide +kernel
theorem dX12_judge_60 : decode cX12_judge 60 = .ok (.iload_n 2, 1) := by decide +kernel
theorem dX12_judge_61 : decode cX12_judge 61 = .ok (.iadd, 1) := by decide +kernel
theorem dX12_judge_62 : decode cX12_judge 62 = .ok (.iaload, 1) := by decide +kernel
theorem dX12_judge_63 : decode cX12_judge 63 = .ok (.aload_n 0, 1) := by decide +kernel
theorem dX12_judge_64 : decode cX12_judge 64 = .ok (.iload_n 2, 1) := by decide +kernel
theorem dX12_judge_65 : decode cX12_judge 65 = .ok (.iconst 3, 1) := by decide +kernel
theorem dX12_judge_66 : decode cX12_judge 66 = .ok (.invokevirtual 64, 3) := by decide +kernel
theorem dX12_judge_69 : decode cX12_judge 69 = .ok (.if_icmp .ne 9, 3) := by decide +kernel
theorem dX12_judge_72 : decode cX12_judge 72 = .ok (.iinc 2 1, 3) := by decide +kernel
theorem dX12_judge_75 : decode cX12_judge 75 = .ok (.goto (-43), 3) := by decide +kernel
theorem dX12_judge_78 : decode cX12_judge 78 = .ok (.iload_n 2, 1) := by decide +kernel
theorem dX12_judge_79 : decode cX12_judge 79 = .ok (.aload_n 0, 1) := by decide +kernel
theorem dX12_judge_80 : decode cX12_judge 80 = .ok (.getfield 7, 3) := by decide +kernel
theorem dX12_judge_83 : decode cX12_judge 83 = .ok (.iconst 2, 1) := by decide +kernel
theorem dX12_judge_84 : decode cX12_judge 84 = .ok (.iaload, 1) := by decide +kernel
theorem dX12_judge_85 : decode cX12_judge 85 = .ok (.if_icmp .ne 17, 3) := by decide +kernel
theorem dX12_judge_88 : decode cX12_judge 88 = .ok (.iload_n 2, 1) := by decide +kernel
theorem dX12_judge_89 : decode cX12_judge 89 = .ok (.aload_n 0, 1) := by decide +kernel
theorem dX12_judge_90 : decode cX12_judge 90 = .ok (.getfield 25, 3) := by decide +kernel
theorem dX12_judge_93 : decode cX12_judge 93 = .ok (.iload_n 1, 1) := by decide +kernel
theorem dX12_judge_94 : decode cX12_judge 94 = .ok (.iaload, 1) := by decide +kernel
theorem dX12_judge_95 : decode cX12_judge 95 = .ok (.if_icmp .ne 7, 3) := by decide +kernel
theorem dX12_judge_98 : decode cX12_judge 98 = .ok (.iconst (-1), 1) := by decide +kernel
theorem dX12_judge_99 : decode cX12_judge 99 = .ok (.goto 4, 3) := by decide +kernel
theorem dX12_judge_102 : decode cX12_judge 102 = .ok (.iload_n 2, 1) := by decide +kernel
theorem dX12_judge_103 : decode cX12_judge 103 = .ok (.ireturn, 1) := by decide +kernel
theorem dX12_image_0 : decode cX12_image 0 = .ok (.aload_n 0, 1) := by decide +kernel
theorem dX12_image_1 : decode cX12_image 1 = .ok (.aload_n 0, 1) := by decide +kernel
theorem dX12_image_2 : decode cX12_image 2 = .ok (.getfield 7, 3) := by decide +kernel
theorem dX12_image_5 : decode cX12_image 5 = .ok (.aload_n 0, 1) := by decide +kernel
theorem dX12_image_6 : decode cX12_image 6 = .ok (.getfield 13, 3) := by decide +kernel
theorem dX12_image_9 : decode cX12_image 9 = .ok (.invokevirtual 150, 3) := by decide +kernel
theorem dX12_image_12 : decode cX12_image 12 = .ok (.aload_n 0, 1) := by decide +kernel
theorem dX12_image_13 : decode cX12_image 13 = .ok (.iconst 1, 1) := by decide +kernel
theorem dX12_image_14 : decode cX12_image 14 = .ok (.putfield 228, 3) := by decide +kernel
theorem dX12_image_17 : decode cX12_image 17 = .ok (.aload_n 0, 1) := by decide +kernel
theorem dX12_image_18 : decode cX12_image 18 = .ok (.dup, 1) := by decide +kernel
theorem dX12_image_19 : decode cX12_image 19 = .ok (.getfield 231, 3) := by decide +kernel
theorem dX12_image_22 : decode cX12_image 22 = .ok (.iconst 1, 1) := by decide +kernel
theorem dX12_image_23 : decode cX12_image 23 = .ok (.iadd, 1) := by decide +kernel
theorem dX12_image_24 : decode cX12_image 24 = .ok (.putfield 231, 3) := by decide +kernel
theorem dX12_image_27 : decode cX12_image 27 = .ok (.aload_n 0, 1) := by decide +kernel
theorem dX12_image_28 : decode cX12_image 28 = .ok (.getfield 231, 3) := by decide +kernel
theorem dX12_image_31 : decode cX12_image 31 = .ok (.ireturn, 1) := by decide +kernel
theorem dX12_restore_0 : decode cX12_restore 0 = .ok (.aload_n 0, 1) := by decide +kernel
theorem dX12_restore_1 : decode cX12_restore 1 = .ok (.getfield 228, 3) := by decide +kernel
theorem dX12_restore_4 : decode cX12_restore 4 = .ok (.ifCond .ne 10, 3) := by decide +kernel
theorem dX12_restore_7 : decode cX12_restore 7 = .ok (.aload_n 0, 1) := by decide +kernel
theorem dX12_restore_8 : decode cX12_restore 8 = .ok (.ldc 184, 2) := by decide +kernel
theorem dX12_restore_10 : decode cX12_restore 10 = .ok (.invokevirtual 51, 3) := by decide +kernel
theorem dX12_restore_13 : decode cX12_restore 13 = .ok (.ireturn, 1) := by decide +kernel
theorem dX12_restore_14 : decode cX12_restore 14 = .ok (.aload_n 0, 1) := by decide +kernel
theorem dX12_restore_15 : decode cX12_restore 15 = .ok (.aload_n 0, 1) := by decide +kernel
theorem dX12_restore_16 : decode cX12_restore 16 = .ok (.getfield 13, 3) := by decide +kernel
theorem dX12_restore_19 : decode cX12_restore 19 = .ok (.aload_n 0, 1) := by decide +kernel
theorem dX12_restore_20 : decode cX12_restore 20 = .ok (.getfield 7, 3) := by decide +kernel
theorem dX12_restore_23 : decode cX12_restore 23 = .ok (.invokevirtual 150, 3) := by decide +kernel
theorem dX12_restore_26 : decode cX12_restore 26 = .ok (.aload_n 0, 1) := by decide +kernel
theorem dX12_restore_27 : decode cX12_restore 27 = .ok (.getfield 7, 3) := by decide +kernel
theorem dX12_restore_30 : decode cX12_restore 30 = .ok (.iconst 0, 1) := by decide +kernel
theorem dX12_restore_31 : decode cX12_restore 31 = .ok (.iaload, 1) := by decide +kernel
theorem dX12_restore_32 : decode cX12_restore 32 = .ok (.ireturn, 1) := by decide +kernel
theorem dX12_tell_0 : decode cX12_tell 0 = .ok (.aload_n 0, 1) := by decide +kernel
theorem dX12_tell_1 : decode cX12_tell 1 = .ok (.getfield 7, 3) := by decide +kernel
theorem dX12_tell_4 : decode cX12_tell 4 = .ok (.iconst 4, 1) := by decide +kernel
theorem dX12_tell_5 : decode cX12_tell 5 = .ok (.iaload, 1) := by decide +kernel
theorem dX12_tell_6 : decode cX12_tell 6 = .ok (.bipush 20, 2) := by decide +kernel
theorem dX12_tell_8 : decode cX12_tell 8 = .ok (.if_icmp .ne 10, 3) := by decide +kernel
theorem dX12_tell_11 : decode cX12_tell 11 = .ok (.aload_n 0, 1) := by decide +kernel
theorem dX12_tell_12 : decode cX12_tell 12 = .ok (.ldc 55, 2) := by decide +kernel
theorem dX12_tell_14 : decode cX12_tell 14 = .ok (.invokevirtual 51, 3) := by decide +kernel
theorem dX12_tell_17 : decode cX12_tell 17 = .ok (.ireturn, 1) := by decide +kernel
theorem dX12_tell_18 : decode cX12_tell 18 = .ok (.aload_n 0, 1) := by decide +kernel
theorem dX12_tell_19 : decode cX12_tell 19 = .ok (.getfield 7, 3) := by decide +kernel
theorem dX12_tell_22 : decode cX12_tell 22 = .ok (.sipush 156, 3) := by decide +kernel
theorem dX12_tell_25 : decode cX12_tell 25 = .ok (.aload_n 0, 1) := by decide +kernel
theorem dX12_tell_26 : decode cX12_tell 26 = .ok (.getfield 7, 3) := by decide +kernel
theorem dX12_tell_29 : decode cX12_tell 29 = .ok (.iconst 4, 1) := by decide +kernel
theorem dX12_tell_30 : decode cX12_tell 30 = .ok (.iaload, 1) := by decide +kernel
theorem dX12_tell_31 : decode cX12_tell 31 = .ok (.iadd, 1) := by decide +kernel
theorem dX12_tell_32 : decode cX12_tell 32 = .ok (.iload_n 1, 1) := by decide +kernel
theorem dX12_tell_33 : decode cX12_tell 33 = .ok (.iastore, 1) := by decide +kernel
theorem dX12_tell_34 : decode cX12_tell 34 = .ok (.aload_n 0, 1) := by decide +kernel
theorem dX12_tell_35 : decode cX12_tell 35 = .ok (.getfield 7, 3) := by decide +kernel
theorem dX12_tell_38 : decode cX12_tell 38 = .ok (.iconst 4, 1) := by decide +kernel
theorem dX12_tell_39 : decode cX12_tell 39 = .ok (.dup2, 1) := by decide +kernel
theorem dX12_tell_40 : decode cX12_tell 40 = .ok (.iaload, 1) := by decide +kernel
theorem dX12_tell_41 : decode cX12_tell 41 = .ok (.iconst 1, 1) := by decide +kernel
theorem dX12_tell_42 : decode cX12_tell 42 = .ok (.iadd, 1) := by decide +kernel
theorem dX12_tell_43 : decode cX12_tell 43 = .ok (.iastore, 1) := by decide +kernel
theorem dX12_tell_44 : decode cX12_tell 44 = .ok (.aload_n 0, 1) := by decide +kernel
theorem dX12_tell_45 : decode cX12_tell 45 = .ok (.getfield 7, 3) := by decide +kernel
theorem dX12_tell_48 : decode cX12_tell 48 = .ok (.iconst 4, 1) := by decide +kernel
theorem dX12_tell_49 : decode cX12_tell 49 = .ok (.iaload, 1) := by decide +kernel
theorem dX12_tell_50 : decode cX12_tell 50 = .ok (.ireturn, 1) := by decide +kernel
theorem dX12_check_0 : decode cX12_check 0 = .ok (.aload_n 0, 1) := by decide +kernel
theorem dX12_check_1 : decode cX12_check 1 = .ok (.getfield 7, 3) := by decide +kernel
theorem dX12_check_4 : decode cX12_check 4 = .ok (.iconst 4, 1) := by decide +kernel
theorem dX12_check_5 : decode cX12_check 5 = .ok (.iaload, 1) := by decide +kernel
theorem dX12_check_6 : decode cX12_check 6 = .ok (.istore_n 1, 1) := by decide +kernel
theorem dX12_check_7 : decode cX12_check 7 = .ok (.aload_n 0, 1) := by decide +kernel
theorem dX12_check_8 : decode cX12_check 8 = .ok (.getfield 7, 3) := by decide +kernel
theorem dX12_check_11 : decode cX12_check 11 = .ok (.iconst 4, 1) := by decide +kernel
theorem dX12_check_12 : decode cX12_check 12 = .ok (.iconst 0, 1) := by decide +kernel
theorem dX12_check_13 : decode cX12_check 13 = .ok (.iastore, 1) := by decide +kernel
theorem dX12_check_14 : decode cX12_check 14 = .ok (.iconst 0, 1) := by decide +kernel
theorem dX12_check_15 : decode cX12_check 15 = .ok (.istore_n 2, 1) := by decide +kernel
theorem dX12_check_16 : decode cX12_check 16 = .ok (.iconst 1, 1) := by decide +kernel
theorem dX12_check_17 : decode cX12_check 17 = .ok (.istore_n 3, 1) := by decide +kernel
theorem dX12_check_18 : decode cX12_check 18 = .ok (.iload_n 2, 1) := by decide +kernel
theorem dX12_check_19 : decode cX12_check 19 = .ok (.iload_n 1, 1) := by decide +kernel
theorem dX12_check_20 : decode cX12_check 20 = .ok (.if_icmp .ge 65, 3) := by decide +kernel
theorem dX12_check_23 : decode cX12_check 23 = .ok (.iload_n 3, 1) := by decide +kernel
theorem dX12_check_24 : decode cX12_check 24 = .ok (.ifCond .eq 61, 3) := by decide +kernel
theorem dX12_check_27 : decode cX12_check 27 = .ok (.aload_n 0, 1) := by decide +kernel
theorem dX12_check_28 : decode cX12_check 28 = .ok (.getfield 7, 3) := by decide +kernel
theorem dX12_check_31 : decode cX12_check 31 = .ok (.iconst 2, 1) := by decide +kernel
theorem dX12_check_32 : decode cX12_check 32 = .ok (.iaload, 1) := by decide +kernel
theorem dX12_check_33 : decode cX12_check 33 = .ok (.ifCond .le 35, 3) := by decide +kernel
theorem dX12_check_36 : decode cX12_check 36 = .ok (.aload_n 0, 1) := by decide +kernel
theorem dX12_check_37 : decode cX12_check 37 = .ok (.iconst 0, 1) := by decide +kernel
theorem dX12_check_38 : decode cX12_check 38 = .ok (.aload_n 0, 1) := by decide +kernel
theorem dX12_check_39 : decode cX12_check 39 = .ok (.getfield 7, 3) := by decide +kernel
theorem dX12_check_42 : decode cX12_check 42 = .ok (.iconst 0, 1) := by decide +kernel
theorem dX12_check_43 : decode cX12_check 43 = .ok (.iaload, 1) := by decide +kernel
theorem dX12_check_44 : decode cX12_check 44 = .ok (.iconst 1, 1) := by decide +kernel
theorem dX12_check_45 : decode cX12_check 45 = .ok (.iadd, 1) := by decide +kernel
theorem dX12_check_46 : decode cX12_check 46 = .ok (.iload_n 2, 1) := by decide +kernel
theorem dX12_check_47 : decode cX12_check 47 = .ok (.iadd, 1) := by decide +kernel
theorem dX12_check_48 : decode cX12_check 48 = .ok (.invokevirtual 67, 3) := by decide +kernel
theorem dX12_check_51 : decode cX12_check 51 = .ok (.aload_n 0, 1) := by decide +kernel
theorem dX12_check_52 : decode cX12_check 52 = .ok (.getfield 7, 3) := by decide +kernel
theorem dX12_check_55 : decode cX12_check 55 = .ok (.sipush 156, 3) := by decide +kernel
theorem dX12_check_58 : decode cX12_check 58 = .ok (.iload_n 2, 1) := by decide +kernel
theorem dX12_check_59 : decode cX12_check 59 = .ok (.iadd, 1) := by decide +kernel
theorem dX12_check_60 : decode cX12_check 60 = .ok (.iaload, 1) := by decide +kernel
theorem dX12_check_61 : decode cX12_check 61 = .ok (.if_icmp .ne 7, 3) := by decide +kernel
theorem dX12_check_64 : decode cX12_check 64 = .ok (.iconst 1, 1) := by decide +kernel
theorem dX12_check_65 : decode cX12_check 65 = .ok (.goto 4, 3) := by decide +kernel
theorem dX12_check_68 : decode cX12_check 68 = .ok (.iconst 0, 1) := by decide +kernel
theorem dX12_check_69 : decode cX12_check 69 = .ok (.istore_n 3, 1) := by decide +kernel
theorem dX12_check_70 : decode cX12_check 70 = .ok (.iload_n 2, 1) := by decide +kernel
theorem dX12_check_71 : decode cX12_check 71 = .ok (.iload_n 3, 1) := by decide +kernel
theorem dX12_check_72 : decode cX12_check 72 = .ok (.ifCond .eq 7, 3) := by decide +kernel
theorem dX12_check_75 : decode cX12_check 75 = .ok (.iconst 1, 1) := by decide +kernel
theorem dX12_check_76 : decode cX12_check 76 = .ok (.goto 4, 3) := by decide +kernel
theorem dX12_check_79 : decode cX12_check 79 = .ok (.iconst 0, 1) := by decide +kernel
theorem dX12_check_80 : decode cX12_check 80 = .ok (.iadd, 1) := by decide +kernel
theorem dX12_check_81 : decode cX12_check 81 = .ok (.istore_n 2, 1) := by decide +kernel
theorem dX12_check_82 : decode cX12_check 82 = .ok (.goto (-64), 3) := by decide +kernel
theorem dX12_check_85 : decode cX12_check 85 = .ok (.iload_n 3, 1) := by decide +kernel
theorem dX12_check_86 : decode cX12_check 86 = .ok (.ifCond .eq 7, 3) := by decide +kernel
theorem dX12_check_89 : decode cX12_check 89 = .ok (.iconst 0, 1) := by decide +kernel
theorem dX12_check_90 : decode cX12_check 90 = .ok (.goto 6, 3) := by decide +kernel
theorem dX12_check_93 : decode cX12_check 93 = .ok (.iconst 1, 1) := by decide +kernel
theorem dX12_check_94 : decode cX12_check 94 = .ok (.iload_n 2, 1) := by decide +kernel
theorem dX12_check_95 : decode cX12_check 95 = .ok (.iadd, 1) := by decide +kernel
theorem dX12_check_96 : decode cX12_check 96 = .ok (.ireturn, 1) := by decide +kernel
theorem dX12_count_0 : decode cX12_count 0 = .ok (.iload_n 1, 1) := by decide +kernel
theorem dX12_count_1 : decode cX12_count 1 = .ok (.tableswitch 160 0 14 #[75, 82, 90, 97, 105, 113, 121, 121, 121, 121, 121, 134, 141, 148, 153], 75) := by decide +kernel
theorem dX12_count_76 : decode cX12_count 76 = .ok (.aload_n 0, 1) := by decide +kernel
theorem dX12_count_77 : decode cX12_count 77 = .ok (.getfield 7, 3) := by decide +kernel
theorem dX12_count_80 : decode cX12_count 80 = .ok (.iconst 2, 1) := by decide +kernel
theorem dX12_count_81 : decode cX12_count 81 = .ok (.iaload, 1) := by decide +kernel
theorem dX12_count_82 : decode cX12_count 82 = .ok (.ireturn, 1) := by decide +kernel
theorem dX12_count_83 : decode cX12_count 83 = .ok (.aload_n 0, 1) := by decide +kernel
theorem dX12_count_84 : decode cX12_count 84 = .ok (.getfield 7, 3) := by decide +kernel
theorem dX12_count_87 : decode cX12_count 87 = .ok (.bipush 7, 2) := by decide +kernel
theorem dX12_count_89 : decode cX12_count 89 = .ok (.iaload, 1) := by decide +kernel
theorem dX12_count_90 : decode cX12_count 90 = .ok (.ireturn, 1) := by decide +kernel
theorem dX12_count_91 : decode cX12_count 91 = .ok (.aload_n 0, 1) := by decide +kernel
theorem dX12_count_92 : decode cX12_count 92 = .ok (.getfield 7, 3) := by decide +kernel
theorem dX12_count_95 : decode cX12_count 95 = .ok (.iconst 0, 1) := by decide +kernel
theorem dX12_count_96 : decode cX12_count 96 = .ok (.iaload, 1) := by decide +kernel
theorem dX12_count_97 : decode cX12_count 97 = .ok (.ireturn, 1) := by decide +kernel
theorem dX12_count_98 : decode cX12_count 98 = .ok (.aload_n 0, 1) := by decide +kernel
theorem dX12_count_99 : decode cX12_count 99 = .ok (.getfield 7, 3) := by decide +kernel
theorem dX12_count_102 : decode cX12_count 102 = .ok (.bipush 13, 2) := by decide +kernel
theorem dX12_count_104 : decode cX12_count 104 = .ok (.iaload, 1) := by decide +kernel
theorem dX12_count_105 : decode cX12_count 105 = .ok (.ireturn, 1) := by decide +kernel
theorem dX12_count_106 : decode cX12_count 106 = .ok (.aload_n 0, 1) := by decide +kernel
theorem dX12_count_107 : decode cX12_count 107 = .ok (.getfield 7, 3) := by decide +kernel
theorem dX12_count_110 : decode cX12_count 110 = .ok (.bipush 14, 2) := by decide +kernel
theorem dX12_count_112 : decode cX12_count 112 = .ok (.iaload, 1) := by decide +kernel
theorem dX12_count_113 : decode cX12_count 113 = .ok (.ireturn, 1) := by decide +kernel
theorem dX12_count_114 : decode cX12_count 114 = .ok (.aload_n 0, 1) := by decide +kernel
theorem dX12_count_115 : decode cX12_count 115 = .ok (.getfield 7, 3) := by decide +kernel
theorem dX12_count_118 : decode cX12_count 118 = .ok (.bipush 15, 2) := by decide +kernel
theorem dX12_count_120 : decode cX12_count 120 = .ok (.iaload, 1) := by decide +kernel
theorem dX12_count_121 : decode cX12_count 121 = .ok (.ireturn, 1) := by decide +kernel
theorem dX12_count_122 : decode cX12_count 122 = .ok (.aload_n 0, 1) := by decide +kernel
theorem dX12_count_123 : decode cX12_count 123 = .ok (.getfield 7, 3) := by decide +kernel
theorem dX12_count_126 : decode cX12_count 126 = .ok (.bipush 8, 2) := by decide +kernel
theorem dX12_count_128 : decode cX12_count 128 = .ok (.iload_n 1, 1) := by decide +kernel
theorem dX12_count_129 : decode cX12_count 129 = .ok (.iadd, 1) := by decide +kernel
theorem dX12_count_130 : decode cX12_count 130 = .ok (.bipush 6, 2) := by decide +kernel
theorem dX12_count_132 : decode cX12_count 132 = .ok (.isub, 1) := by decide +kernel
theorem dX12_count_133 : decode cX12_count 133 = .ok (.iaload, 1) := by decide +kernel
theorem dX12_count_134 : decode cX12_count 134 = .ok (.ireturn, 1) := by decide +kernel
theorem dX12_count_135 : decode cX12_count 135 = .ok (.aload_n 0, 1) := by decide +kernel
theorem dX12_count_136 : decode cX12_count 136 = .ok (.getfield 7, 3) := by decide +kernel
theorem dX12_count_139 : decode cX12_count 139 = .ok (.iconst 3, 1) := by decide +kernel
theorem dX12_count_140 : decode cX12_count 140 = .ok (.iaload, 1) := by decide +kernel
theorem dX12_count_141 : decode cX12_count 141 = .ok (.ireturn, 1) := by decide +kernel
theorem dX12_count_142 : decode cX12_count 142 = .ok (.aload_n 0, 1) := by decide +kernel
theorem dX12_count_143 : decode cX12_count 143 = .ok (.getfield 7, 3) := by decide +kernel
theorem dX12_count_146 : decode cX12_count 146 = .ok (.iconst 4, 1) := by decide +kernel
theorem dX12_count_147 : decode cX12_count 147 = .ok (.iaload, 1) := by decide +kernel
theorem dX12_count_148 : decode cX12_count 148 = .ok (.ireturn, 1) := by decide +kernel
theorem dX12_count_149 : decode cX12_count 149 = .ok (.aload_n 0, 1) := by decide +kernel
theorem dX12_count_150 : decode cX12_count 150 = .ok (.getfield 197, 3) := by decide +kernel
theorem dX12_count_153 : decode cX12_count 153 = .ok (.ireturn, 1) := by decide +kernel
theorem dX12_count_154 : decode cX12_count 154 = .ok (.aload_n 0, 1) := by decide +kernel
theorem dX12_count_155 : decode cX12_count 155 = .ok (.getfield 7, 3) := by decide +kernel
theorem dX12_count_158 : decode cX12_count 158 = .ok (.iconst 1, 1) := by decide +kernel
theorem dX12_count_159 : decode cX12_count 159 = .ok (.iaload, 1) := by decide +kernel
theorem dX12_count_160 : decode cX12_count 160 = .ok (.ireturn, 1) := by decide +kernel
theorem dX12_count_161 : decode cX12_count 161 = .ok (.aload_n 0, 1) := by decide +kernel
theorem dX12_count_162 : decode cX12_count 162 = .ok (.ldc 50, 2) := by decide +kernel
theorem dX12_count_164 : decode cX12_count 164 = .ok (.invokevirtual 51, 3) := by decide +kernel
theorem dX12_count_167 : decode cX12_count 167 = .ok (.ireturn, 1) := by decide +kernel
theorem dX12_told_0 : decode cX12_told 0 = .ok (.iload_n 1, 1) := by decide +kernel
theorem dX12_told_1 : decode cX12_told 1 = .ok (.iconst 1, 1) := by decide +kernel
theorem dX12_told_2 : decode cX12_told 2 = .ok (.iconst 5, 1) := by decide +kernel
theorem dX12_told_3 : decode cX12_told 3 = .ok (.invokestatic 38, 3) := by decide +kernel
theorem dX12_told_6 : decode cX12_told 6 = .ok (.ifCond .eq 12, 3) := by decide +kernel
theorem dX12_told_9 : decode cX12_told 9 = .ok (.aload_n 0, 1) := by decide +kernel
theorem dX12_told_10 : decode cX12_told 10 = .ok (.getfield 19, 3) := by decide +kernel
theorem dX12_told_13 : decode cX12_told 13 = .ok (.iload_n 1, 1) := by decide +kernel
theorem dX12_told_14 : decode cX12_told 14 = .ok (.iaload, 1) := by decide +kernel
theorem dX12_told_15 : decode cX12_told 15 = .ok (.goto 9, 3) := by decide +kernel
theorem dX12_told_18 : decode cX12_told 18 = .ok (.aload_n 0, 1) := by decide +kernel
theorem dX12_told_19 : decode cX12_told 19 = .ok (.ldc 50, 2) := by decide +kernel
theorem dX12_told_21 : decode cX12_told 21 = .ok (.invokevirtual 51, 3) := by decide +kernel
theorem dX12_told_24 : decode cX12_told 24 = .ok (.ireturn, 1) := by decide +kernel
end
section
theorem dL_law_0 : decode cL_law 0 = .ok (.new 7, 3) := by decide +kernel
theorem dL_law_3 : decode cL_law 3 = .ok (.dup, 1) := by decide +kernel
theorem dL_law_4 : decode cL_law 4 = .ok (.invokespecial 9, 3) := by decide +kernel
theorem dL_law_7 : decode cL_law 7 = .ok (.astore_n 1, 1) := by decide +kernel
theorem dL_law_8 : decode cL_law 8 = .ok (.new 10, 3) := by decide +kernel
theorem dL_law_11 : decode cL_law 11 = .ok (.dup, 1) := by decide +kernel
theorem dL_law_12 : decode cL_law 12 = .ok (.invokespecial 12, 3) := by decide +kernel
theorem dL_law_15 : decode cL_law 15 = .ok (.astore_n 2, 1) := by decide +kernel
theorem dL_law_16 : decode cL_law 16 = .ok (.iconst 0, 1) := by decide +kernel
theorem dL_law_17 : decode cL_law 17 = .ok (.istore_n 3, 1) := by decide +kernel
theorem dL_law_18 : decode cL_law 18 = .ok (.iload_n 3, 1) := by decide +kernel
theorem dL_law_19 : decode cL_law 19 = .ok (.aload_n 0, 1) := by decide +kernel
theorem dL_law_20 : decode cL_law 20 = .ok (.arraylength, 1) := by decide +kernel
theorem dL_law_21 : decode cL_law 21 = .ok (.bipush 6, 2) := by decide +kernel
theorem dL_law_23 : decode cL_law 23 = .ok (.isub, 1) := by decide +kernel
theorem dL_law_24 : decode cL_law 24 = .ok (.if_icmp .gt 1330, 3) := by decide +kernel
theorem dL_law_27 : decode cL_law 27 = .ok (.aload_n 0, 1) := by decide +kernel
theorem dL_law_28 : decode cL_law 28 = .ok (.iload_n 3, 1) := by decide +kernel
theorem dL_law_29 : decode cL_law 29 = .ok (.iaload, 1) := by decide +kernel
theorem dL_law_30 : decode cL_law 30 = .ok (.bipush 63, 2) := by decide +kernel
theorem dL_law_32 : decode cL_law 32 = .ok (.iand, 1) := by decide +kernel
theorem dL_law_33 : decode cL_law 33 = .ok (.tableswitch 1315 0 39 #[175, 208, 251, 284, 327, 360, 393, 456, 479, 532, 555, 588, 611, 634, 657, 690, 713, 736, 759, 772, 785, 818, 831, 844, 867, 890, 923, 946, 989, 1012, 1055, 1098, 1161, 1184, 1207, 1220, 1233, 1256, 1269, 1292], 175) := by decide +kernel
theorem dL_law_208 : decode cL_law 208 = .ok (.aload_n 1, 1) := by decide +kernel
theorem dL_law_209 : decode cL_law 209 = .ok (.aload_n 0, 1) := by decide +kernel
theorem dL_law_210 : decode cL_law 210 = .ok (.iload_n 3, 1) := by decide +kernel
theorem dL_law_211 : decode cL_law 211 = .ok (.iconst 1, 1) := by decide +kernel
theorem dL_law_212 : decode cL_law 212 = .ok (.iadd, 1) := by decide +kernel
theorem dL_law_213 : decode cL_law 213 = .ok (.iaload, 1) := by decide +kernel
theorem dL_law_214 : decode cL_law 214 = .ok (.aload_n 0, 1) := by decide +kernel
theorem dL_law_215 : decode cL_law 215 = .ok (.iload_n 3, 1) := by decide +kernel
theorem dL_law_216 : decode cL_law 216 = .ok (.iconst 2, 1) := by decide +kernel
theorem dL_law_217 : decode cL_law 217 = .ok (.iadd, 1) := by decide +kernel
theorem dL_law_218 : decode cL_law 218 = .ok (.iaload, 1) := by decide +kernel
theorem dL_law_219 : decode cL_law 219 = .ok (.invokevirtual 13, 3) := by decide +kernel
theorem dL_law_222 : decode cL_law 222 = .ok (.aload_n 2, 1) := by decide +kernel
theorem dL_law_223 : decode cL_law 223 = .ok (.aload_n 0, 1) := by decide +kernel
theorem dL_law_224 : decode cL_law 224 = .ok (.iload_n 3, 1) := by decide +kernel
theorem dL_law_225 : decode cL_law 225 = .ok (.iconst 1, 1) := by decide +kernel
theorem dL_law_226 : decode cL_law 226 = .ok (.iadd, 1) := by decide +kernel
theorem dL_law_227 : decode cL_law 227 = .ok (.iaload, 1) := by decide +kernel
theorem dL_law_228 : decode cL_law 228 = .ok (.aload_n 0, 1) := by decide +kernel
theorem dL_law_229 : decode cL_law 229 = .ok (.iload_n 3, 1) := by decide +kernel
theorem dL_law_230 : decode cL_law 230 = .ok (.iconst 2, 1) := by decide +kernel
theorem dL_law_231 : decode cL_law 231 = .ok (.iadd, 1) := by decide +kernel
theorem dL_law_232 : decode cL_law 232 = .ok (.iaload, 1) := by decide +kernel
theorem dL_law_233 : decode cL_law 233 = .ok (.invokevirtual 17, 3) := by decide +kernel
theorem dL_law_236 : decode cL_law 236 = .ok (.if_icmp .eq 1112, 3) := by decide +kernel
theorem dL_law_239 : decode cL_law 239 = .ok (.iconst 0, 1) := by decide +kernel
theorem dL_law_240 : decode cL_law 240 = .ok (.ireturn, 1) := by decide +kernel
theorem dL_law_241 : decode cL_law 241 = .ok (.aload_n 1, 1) := by decide +kernel
theorem dL_law_242 : decode cL_law 242 = .ok (.aload_n 0, 1) := by decide +kernel
theorem dL_law_243 : decode cL_law 243 = .ok (.iload_n 3, 1) := by decide +kernel
theorem dL_law_244 : decode cL_law 244 = .ok (.iconst 1, 1) := by decide +kernel
theorem dL_law_245 : decode cL_law 245 = .ok (.iadd, 1) := by decide +kernel
theorem dL_law_246 : decode cL_law 246 = .ok (.iaload, 1) := by decide +kernel
theorem dL_law_247 : decode cL_law 247 = .ok (.aload_n 0, 1) := by decide +kernel
theorem dL_law_248 : decode cL_law 248 = .ok (.iload_n 3, 1) := by decide +kernel
theorem dL_law_249 : decode cL_law 249 = .ok (.iconst 2, 1) := by decide +kernel
theorem dL_law_250 : decode cL_law 250 = .ok (.iadd, 1) := by decide +kernel
theorem dL_law_251 : decode cL_law 251 = .ok (.iaload, 1) := by decide +kernel
theorem dL_law_252 : decode cL_law 252 = .ok (.aload_n 0, 1) := by decide +kernel
theorem dL_law_253 : decode cL_law 253 = .ok (.iload_n 3, 1) := by decide +kernel
theorem dL_law_254 : decode cL_law 254 = .ok (.iconst 3, 1) := by decide +kernel
theorem dL_law_255 : decode cL_law 255 = .ok (.iadd, 1) := by decide +kernel
theorem dL_law_256 : decode cL_law 256 = .ok (.iaload, 1) := by decide +kernel
theorem dL_law_257 : decode cL_law 257 = .ok (.invokevirtual 18, 3) := by decide +kernel
theorem dL_law_260 : decode cL_law 260 = .ok (.aload_n 2, 1) := by decide +kernel
theorem dL_law_261 : decode cL_law 261 = .ok (.aload_n 0, 1) := by decide +kernel
theorem dL_law_262 : decode cL_law 262 = .ok (.iload_n 3, 1) := by decide +kernel
theorem dL_law_263 : decode cL_law 263 = .ok (.iconst 1, 1) := by decide +kernel
theorem dL_law_264 : decode cL_law 264 = .ok (.iadd, 1) := by decide +kernel
theorem dL_law_265 : decode cL_law 265 = .ok (.iaload, 1) := by decide +kernel
theorem dL_law_266 : decode cL_law 266 = .ok (.aload_n 0, 1) := by decide +kernel
theorem dL_law_267 : decode cL_law 267 = .ok (.iload_n 3, 1) := by decide +kernel
theorem dL_law_268 : decode cL_law 268 = .ok (.iconst 2, 1) := by decide +kernel
theorem dL_law_269 : decode cL_law 269 = .ok (.iadd, 1) := by decide +kernel
theorem dL_law_270 : decode cL_law 270 = .ok (.iaload, 1) := by decide +kernel
theorem dL_law_271 : decode cL_law 271 = .ok (.aload_n 0, 1) := by decide +kernel
theorem dL_law_272 : decode cL_law 272 = .ok (.iload_n 3, 1) := by decide +kernel
theorem dL_law_273 : decode cL_law 273 = .ok (.iconst 3, 1) := by decide +kernel
theorem dL_law_274 : decode cL_law 274 = .ok (.iadd, 1) := by decide +kernel
theorem dL_law_275 : decode cL_law 275 = .ok (.iaload, 1) := by decide +kernel
theorem dL_law_276 : decode cL_law 276 = .ok (.invokevirtual 22, 3) := by decide +kernel
theorem dL_law_279 : decode cL_law 279 = .ok (.if_icmp .eq 1069, 3) := by decide +kernel
theorem dL_law_282 : decode cL_law 282 = .ok (.iconst 0, 1) := by decide +kernel
theorem dL_law_283 : decode cL_law 283 = .ok (.ireturn, 1) := by decide +kernel
theorem dL_law_284 : decode cL_law 284 = .ok (.aload_n 1, 1) := by decide +kernel
theorem dL_law_285 : decode cL_law 285 = .ok (.aload_n 0, 1) := by decide +kernel
theorem dL_law_286 : decode cL_law 286 = .ok (.iload_n 3, 1) := by decide +kernel
theorem dL_law_287 : decode cL_law 287 = .ok (.iconst 1, 1) := by decide +kernel
theorem dL_law_288 : decode cL_law 288 = .ok (.iadd, 1) := by decide +kernel
theorem dL_law_289 : decode cL_law 289 = .ok (.iaload, 1) := by decide +kernel
theorem dL_law_290 : decode cL_law 290 = .ok (.aload_n 0, 1) := by decide +kernel
theorem dL_law_291 : decode cL_law 291 = .ok (.iload_n 3, 1) := by decide +kernel
theorem dL_law_292 : decode cL_law 292 = .ok (.iconst 2, 1) := by decide +kernel
theorem dL_law_293 : decode cL_law 293 = .ok (.iadd, 1) := by decide +kernel
theorem dL_law_294 : decode cL_law 294 = .ok (.iaload, 1) := by decide +kernel
theorem dL_law_295 : decode cL_law 295 = .ok (.invokevirtual 23, 3) := by decide +kernel
theorem dL_law_298 : decode cL_law 298 = .ok (.aload_n 2, 1) := by decide +kernel
theorem dL_law_299 : decode cL_law 299 = .ok (.aload_n 0, 1) := by decide +kernel
theorem dL_law_300 : decode cL_law 300 = .ok (.iload_n 3, 1) := by decide +kernel
theorem dL_law_301 : decode cL_law 301 = .ok (.iconst 1, 1) := by decide +kernel
theorem dL_law_302 : decode cL_law 302 = .ok (.iadd, 1) := by decide +kernel
theorem dL_law_303 : decode cL_law 303 = .ok (.iaload, 1) := by decide +kernel
theorem dL_law_304 : decode cL_law 304 = .ok (.aload_n 0, 1) := by decide +kernel
theorem dL_law_305 : decode cL_law 305 = .ok (.iload_n 3, 1) := by decide +kernel
theorem dL_law_306 : decode cL_law 306 = .ok (.iconst 2, 1) := by decide +kernel
theorem dL_law_307 : decode cL_law 307 = .ok (.iadd, 1) := by decide +kernel
theorem dL_law_308 : decode cL_law 308 = .ok (.iaload, 1) := by decide +kernel
theorem dL_law_309 : decode cL_law 309 = .ok (.invokevirtual 26, 3) := by decide +kernel
theorem dL_law_312 : decode cL_law 312 = .ok (.if_icmp .eq 1036, 3) := by decide +kernel
theorem dL_law_315 : decode cL_law 315 = .ok (.iconst 0, 1) := by decide +kernel
theorem dL_law_316 : decode cL_law 316 = .ok (.ireturn, 1) := by decide +kernel
theorem dL_law_317 : decode cL_law 317 = .ok (.aload_n 1, 1) := by decide +kernel
theorem dL_law_318 : decode cL_law 318 = .ok (.aload_n 0, 1) := by decide +kernel
theorem dL_law_319 : decode cL_law 319 = .ok (.iload_n 3, 1) := by decide +kernel
theorem dL_law_320 : decode cL_law 320 = .ok (.iconst 1, 1) := by decide +kernel
theorem dL_law_321 : decode cL_law 321 = .ok (.iadd, 1) := by decide +kernel
theorem dL_law_322 : decode cL_law 322 = .ok (.iaload, 1) := by decide +kernel
theorem dL_law_323 : decode cL_law 323 = .ok (.aload_n 0, 1) := by decide +kernel
theorem dL_law_324 : decode cL_law 324 = .ok (.iload_n 3, 1) := by decide +kernel
theorem dL_law_325 : decode cL_law 325 = .ok (.iconst 2, 1) := by decide +kernel
theorem dL_law_326 : decode cL_law 326 = .ok (.iadd, 1) := by decide +kernel
theorem dL_law_327 : decode cL_law 327 = .ok (.iaload, 1) := by decide +kernel
theorem dL_law_328 : decode cL_law 328 = .ok (.aload_n 0, 1) := by decide +kernel
theorem dL_law_329 : decode cL_law 329 = .ok (.iload_n 3, 1) := by decide +kernel
theorem dL_law_330 : decode cL_law 330 = .ok (.iconst 3, 1) := by decide +kernel
theorem dL_law_331 : decode cL_law 331 = .ok (.iadd, 1) := by decide +kernel
theorem dL_law_332 : decode cL_law 332 = .ok (.iaload, 1) := by decide +kernel
theorem dL_law_333 : decode cL_law 333 = .ok (.invokevirtual 27, 3) := by decide +kernel
theorem dL_law_336 : decode cL_law 336 = .ok (.aload_n 2, 1) := by decide +kernel
theorem dL_law_337 : decode cL_law 337 = .ok (.aload_n 0, 1) := by decide +kernel
theorem dL_law_338 : decode cL_law 338 = .ok (.iload_n 3, 1) := by decide +kernel
theorem dL_law_339 : decode cL_law 339 = .ok (.iconst 1, 1) := by decide +kernel
theorem dL_law_340 : decode cL_law 340 = .ok (.iadd, 1) := by decide +kernel
theorem dL_law_341 : decode cL_law 341 = .ok (.iaload, 1) := by decide +kernel
theorem dL_law_342 : decode cL_law 342 = .ok (.aload_n 0, 1) := by decide +kernel
theorem dL_law_343 : decode cL_law 343 = .ok (.iload_n 3, 1) := by decide +kernel
theorem dL_law_344 : decode cL_law 344 = .ok (.iconst 2, 1) := by decide +kernel
theorem dL_law_345 : decode cL_law 345 = .ok (.iadd, 1) := by decide +kernel
theorem dL_law_346 : decode cL_law 346 = .ok (.iaload, 1) := by decide +kernel
theorem dL_law_347 : decode cL_law 347 = .ok (.aload_n 0, 1) := by decide +kernel
theorem dL_law_348 : decode cL_law 348 = .ok (.iload_n 3, 1) := by decide +kernel
theorem dL_law_349 : decode cL_law 349 = .ok (.iconst 3, 1) := by decide +kernel
theorem dL_law_350 : decode cL_law 350 = .ok (.iadd, 1) := by decide +kernel
theorem dL_law_351 : decode cL_law 351 = .ok (.iaload, 1) := by decide +kernel
theorem dL_law_352 : decode cL_law 352 = .ok (.invokevirtual 30, 3) := by decide +kernel
theorem dL_law_355 : decode cL_law 355 = .ok (.if_icmp .eq 993, 3) := by decide +kernel
theorem dL_law_358 : decode cL_law 358 = .ok (.iconst 0, 1) := by decide +kernel
theorem dL_law_359 : decode cL_law 359 = .ok (.ireturn, 1) := by decide +kernel
theorem dL_law_360 : decode cL_law 360 = .ok (.aload_n 1, 1) := by decide +kernel
theorem dL_law_361 : decode cL_law 361 = .ok (.aload_n 0, 1) := by decide +kernel
theorem dL_law_362 : decode cL_law 362 = .ok (.iload_n 3, 1) := by decide +kernel
theorem dL_law_363 : decode cL_law 363 = .ok (.iconst 1, 1) := by decide +kernel
theorem dL_law_364 : decode cL_law 364 = .ok (.iadd, 1) := by decide +kernel
theorem dL_law_365 : decode cL_law 365 = .ok (.iaload, 1) := by decide +kernel
theorem dL_law_366 : decode cL_law 366 = .ok (.aload_n 0, 1) := by decide +kernel
theorem dL_law_367 : decode cL_law 367 = .ok (.iload_n 3, 1) := by decide +kernel
theorem dL_law_368 : decode cL_law 368 = .ok (.iconst 2, 1) := by decide +kernel
theorem dL_law_369 : decode cL_law 369 = .ok (.iadd, 1) := by decide +kernel
theorem dL_law_370 : decode cL_law 370 = .ok (.iaload, 1) := by decide +kernel
theorem dL_law_371 : decode cL_law 371 = .ok (.invokevirtual 31, 3) := by decide +kernel
theorem dL_law_374 : decode cL_law 374 = .ok (.aload_n 2, 1) := by decide +kernel
theorem dL_law_375 : decode cL_law 375 = .ok (.aload_n 0, 1) := by decide +kernel
theorem dL_law_376 : decode cL_law 376 = .ok (.iload_n 3, 1) := by decide +kernel
theorem dL_law_377 : decode cL_law 377 = .ok (.iconst 1, 1) := by decide +kernel
theorem dL_law_378 : decode cL_law 378 = .ok (.iadd, 1) := by decide +kernel
theorem dL_law_379 : decode cL_law 379 = .ok (.iaload, 1) := by decide +kernel
theorem dL_law_380 : decode cL_law 380 = .ok (.aload_n 0, 1) := by decide +kernel
theorem dL_law_381 : decode cL_law 381 = .ok (.iload_n 3, 1) := by decide +kernel
theorem dL_law_382 : decode cL_law 382 = .ok (.iconst 2, 1) := by decide +kernel
theorem dL_law_383 : decode cL_law 383 = .ok (.iadd, 1) := by decide +kernel
theorem dL_law_384 : decode cL_law 384 = .ok (.iaload, 1) := by decide +kernel
theorem dL_law_385 : decode cL_law 385 = .ok (.invokevirtual 34, 3) := by decide +kernel
theorem dL_law_388 : decode cL_law 388 = .ok (.if_icmp .eq 960, 3) := by decide +kernel
theorem dL_law_391 : decode cL_law 391 = .ok (.iconst 0, 1) := by decide +kernel
theorem dL_law_392 : decode cL_law 392 = .ok (.ireturn, 1) := by decide +kernel
theorem dL_law_393 : decode cL_law 393 = .ok (.aload_n 1, 1) := by decide +kernel
theorem dL_law_394 : decode cL_law 394 = .ok (.aload_n 0, 1) := by decide +kernel
theorem dL_law_395 : decode cL_law 395 = .ok (.iload_n 3, 1) := by decide +kernel
theorem dL_law_396 : decode cL_law 396 = .ok (.iconst 1, 1) := by decide +kernel
theorem dL_law_397 : decode cL_law 397 = .ok (.iadd, 1) := by decide +kernel
theorem dL_law_398 : decode cL_law 398 = .ok (.iaload, 1) := by decide +kernel
theorem dL_law_399 : decode cL_law 399 = .ok (.aload_n 0, 1) := by decide +kernel
theorem dL_law_400 : decode cL_law 400 = .ok (.iload_n 3, 1) := by decide +kernel
theorem dL_law_401 : decode cL_law 401 = .ok (.iconst 2, 1) := by decide +kernel
theorem dL_law_402 : decode cL_law 402 = .ok (.iadd, 1) := by decide +kernel
theorem dL_law_403 : decode cL_law 403 = .ok (.iaload, 1) := by decide +kernel
theorem dL_law_404 : decode cL_law 404 = .ok (.invokevirtual 35, 3) := by decide +kernel
theorem dL_law_407 : decode cL_law 407 = .ok (.aload_n 2, 1) := by decide +kernel
theorem dL_law_408 : decode cL_law 408 = .ok (.aload_n 0, 1) := by decide +kernel
theorem dL_law_409 : decode cL_law 409 = .ok (.iload_n 3, 1) := by decide +kernel
theorem dL_law_410 : decode cL_law 410 = .ok (.iconst 1, 1) := by decide +kernel
theorem dL_law_411 : decode cL_law 411 = .ok (.iadd, 1) := by decide +kernel
theorem dL_law_412 : decode cL_law 412 = .ok (.iaload, 1) := by decide +kernel
theorem dL_law_413 : decode cL_law 413 = .ok (.aload_n 0, 1) := by decide +kernel
theorem dL_law_414 : decode cL_law 414 = .ok (.iload_n 3, 1) := by decide +kernel
theorem dL_law_415 : decode cL_law 415 = .ok (.iconst 2, 1) := by decide +kernel
theorem dL_law_416 : decode cL_law 416 = .ok (.iadd, 1) := by decide +kernel
theorem dL_law_417 : decode cL_law 417 = .ok (.iaload, 1) := by decide +kernel
theorem dL_law_418 : decode cL_law 418 = .ok (.invokevirtual 38, 3) := by decide +kernel
theorem dL_law_421 : decode cL_law 421 = .ok (.if_icmp .eq 927, 3) := by decide +kernel
theorem dL_law_424 : decode cL_law 424 = .ok (.iconst 0, 1) := by decide +kernel
theorem dL_law_425 : decode cL_law 425 = .ok (.ireturn, 1) := by decide +kernel
theorem dL_law_426 : decode cL_law 426 = .ok (.aload_n 1, 1) := by decide +kernel
theorem dL_law_427 : decode cL_law 427 = .ok (.aload_n 0, 1) := by decide +kernel
theorem dL_law_428 : decode cL_law 428 = .ok (.iload_n 3, 1) := by decide +kernel
theorem dL_law_429 : decode cL_law 429 = .ok (.iconst 1, 1) := by decide +kernel
theorem dL_law_430 : decode cL_law 430 = .ok (.iadd, 1) := by decide +kernel
theorem dL_law_431 : decode cL_law 431 = .ok (.iaload, 1) := by decide +kernel
theorem dL_law_432 : decode cL_law 432 = .ok (.i2l, 1) := by decide +kernel
theorem dL_law_433 : decode cL_law 433 = .ok (.bipush 32, 2) := by decide +kernel
theorem dL_law_435 : decode cL_law 435 = .ok (.lshl, 1) := by decide +kernel
theorem dL_law_436 : decode cL_law 436 = .ok (.aload_n 0, 1) := by decide +kernel
theorem dL_law_437 : decode cL_law 437 = .ok (.iload_n 3, 1) := by decide +kernel
theorem dL_law_438 : decode cL_law 438 = .ok (.iconst 2, 1) := by decide +kernel
theorem dL_law_439 : decode cL_law 439 = .ok (.iadd, 1) := by decide +kernel
theorem dL_law_440 : decode cL_law 440 = .ok (.iaload, 1) := by decide +kernel
theorem dL_law_441 : decode cL_law 441 = .ok (.i2l, 1) := by decide +kernel
theorem dL_law_442 : decode cL_law 442 = .ok (.ldc2_w 39, 3) := by decide +kernel
theorem dL_law_445 : decode cL_law 445 = .ok (.land, 1) := by decide +kernel
theorem dL_law_446 : decode cL_law 446 = .ok (.lor, 1) := by decide +kernel
theorem dL_law_447 : decode cL_law 447 = .ok (.aload_n 0, 1) := by decide +kernel
theorem dL_law_448 : decode cL_law 448 = .ok (.iload_n 3, 1) := by decide +kernel
theorem dL_law_449 : decode cL_law 449 = .ok (.iconst 3, 1) := by decide +kernel
theorem dL_law_450 : decode cL_law 450 = .ok (.iadd, 1) := by decide +kernel
theorem dL_law_451 : decode cL_law 451 = .ok (.iaload, 1) := by decide +kernel
theorem dL_law_452 : decode cL_law 452 = .ok (.invokevirtual 41, 3) := by decide +kernel
theorem dL_law_455 : decode cL_law 455 = .ok (.aload_n 2, 1) := by decide +kernel
theorem dL_law_456 : decode cL_law 456 = .ok (.aload_n 0, 1) := by decide +kernel
theorem dL_law_457 : decode cL_law 457 = .ok (.iload_n 3, 1) := by decide +kernel
theorem dL_law_458 : decode cL_law 458 = .ok (.iconst 1, 1) := by decide +kernel
theorem dL_law_459 : decode cL_law 459 = .ok (.iadd, 1) := by decide +kernel
theorem dL_law_460 : decode cL_law 460 = .ok (.iaload, 1) := by decide +kernel
theorem dL_law_461 : decode cL_law 461 = .ok (.i2l, 1) := by decide +kernel
theorem dL_law_462 : decode cL_law 462 = .ok (.bipush 32, 2) := by decide +kernel
theorem dL_law_464 : decode cL_law 464 = .ok (.lshl, 1) := by decide +kernel
theorem dL_law_465 : decode cL_law 465 = .ok (.aload_n 0, 1) := by decide +kernel
theorem dL_law_466 : decode cL_law 466 = .ok (.iload_n 3, 1) := by decide +kernel
theorem dL_law_467 : decode cL_law 467 = .ok (.iconst 2, 1) := by decide +kernel
theorem dL_law_468 : decode cL_law 468 = .ok (.iadd, 1) := by decide +kernel
theorem dL_law_469 : decode cL_law 469 = .ok (.iaload, 1) := by decide +kernel
theorem dL_law_470 : decode cL_law 470 = .ok (.i2l, 1) := by decide +kernel
theorem dL_law_471 : decode cL_law 471 = .ok (.ldc2_w 39, 3) := by decide +kernel
theorem dL_law_474 : decode cL_law 474 = .ok (.land, 1) := by decide +kernel
theorem dL_law_475 : decode cL_law 475 = .ok (.lor, 1) := by decide +kernel
theorem dL_law_476 : decode cL_law 476 = .ok (.aload_n 0, 1) := by decide +kernel
theorem dL_law_477 : decode cL_law 477 = .ok (.iload_n 3, 1) := by decide +kernel
theorem dL_law_478 : decode cL_law 478 = .ok (.iconst 3, 1) := by decide +kernel
theorem dL_law_479 : decode cL_law 479 = .ok (.iadd, 1) := by decide +kernel
theorem dL_law_480 : decode cL_law 480 = .ok (.iaload, 1) := by decide +kernel
theorem dL_law_481 : decode cL_law 481 = .ok (.invokevirtual 45, 3) := by decide +kernel
theorem dL_law_484 : decode cL_law 484 = .ok (.if_icmp .eq 864, 3) := by decide +kernel
theorem dL_law_487 : decode cL_law 487 = .ok (.iconst 0, 1) := by decide +kernel
theorem dL_law_488 : decode cL_law 488 = .ok (.ireturn, 1) := by decide +kernel
theorem dL_law_489 : decode cL_law 489 = .ok (.aload_n 1, 1) := by decide +kernel
theorem dL_law_490 : decode cL_law 490 = .ok (.aload_n 0, 1) := by decide +kernel
theorem dL_law_491 : decode cL_law 491 = .ok (.iload_n 3, 1) := by decide +kernel
theorem dL_law_492 : decode cL_law 492 = .ok (.iconst 1, 1) := by decide +kernel
theorem dL_law_493 : decode cL_law 493 = .ok (.iadd, 1) := by decide +kernel
theorem dL_law_494 : decode cL_law 494 = .ok (.iaload, 1) := by decide +kernel
theorem dL_law_495 : decode cL_law 495 = .ok (.invokevirtual 46, 3) := by decide +kernel
theorem dL_law_498 : decode cL_law 498 = .ok (.aload_n 2, 1) := by decide +kernel
theorem dL_law_499 : decode cL_law 499 = .ok (.aload_n 0, 1) := by decide +kernel
theorem dL_law_500 : decode cL_law 500 = .ok (.iload_n 3, 1) := by decide +kernel
theorem dL_law_501 : decode cL_law 501 = .ok (.iconst 1, 1) := by decide +kernel
theorem dL_law_502 : decode cL_law 502 = .ok (.iadd, 1) := by decide +kernel
theorem dL_law_503 : decode cL_law 503 = .ok (.iaload, 1) := by decide +kernel
theorem dL_law_504 : decode cL_law 504 = .ok (.invokevirtual 50, 3) := by decide +kernel
theorem dL_law_507 : decode cL_law 507 = .ok (.if_icmp .eq 841, 3) := by decide +kernel
theorem dL_law_510 : decode cL_law 510 = .ok (.iconst 0, 1) := by decide +kernel
theorem dL_law_511 : decode cL_law 511 = .ok (.ireturn, 1) := by decide +kernel
theorem dL_law_512 : decode cL_law 512 = .ok (.aload_n 1, 1) := by decide +kernel
theorem dL_law_513 : decode cL_law 513 = .ok (.aload_n 0, 1) := by decide +kernel
theorem dL_law_514 : decode cL_law 514 = .ok (.iload_n 3, 1) := by decide +kernel
theorem dL_law_515 : decode cL_law 515 = .ok (.iconst 1, 1) := by decide +kernel
theorem dL_law_516 : decode cL_law 516 = .ok (.iadd, 1) := by decide +kernel
theorem dL_law_517 : decode cL_law 517 = .ok (.iaload, 1) := by decide +kernel
theorem dL_law_518 : decode cL_law 518 = .ok (.aload_n 0, 1) := by decide +kernel
theorem dL_law_519 : decode cL_law 519 = .ok (.iload_n 3, 1) := by decide +kernel
theorem dL_law_520 : decode cL_law 520 = .ok (.iconst 2, 1) := by decide +kernel
theorem dL_law_521 : decode cL_law 521 = .ok (.iadd, 1) := by decide +kernel
theorem dL_law_522 : decode cL_law 522 = .ok (.iaload, 1) := by decide +kernel
theorem dL_law_523 : decode cL_law 523 = .ok (.aload_n 0, 1) := by decide +kernel
theorem dL_law_524 : decode cL_law 524 = .ok (.iload_n 3, 1) := by decide +kernel
theorem dL_law_525 : decode cL_law 525 = .ok (.iconst 3, 1) := by decide +kernel
theorem dL_law_526 : decode cL_law 526 = .ok (.iadd, 1) := by decide +kernel
theorem dL_law_527 : decode cL_law 527 = .ok (.iaload, 1) := by decide +kernel
theorem dL_law_528 : decode cL_law 528 = .ok (.aload_n 0, 1) := by decide +kernel
theorem dL_law_529 : decode cL_law 529 = .ok (.iload_n 3, 1) := by decide +kernel
theorem dL_law_530 : decode cL_law 530 = .ok (.iconst 4, 1) := by decide +kernel
theorem dL_law_531 : decode cL_law 531 = .ok (.iadd, 1) := by decide +kernel
theorem dL_law_532 : decode cL_law 532 = .ok (.iaload, 1) := by decide +kernel
theorem dL_law_533 : decode cL_law 533 = .ok (.invokevirtual 51, 3) := by decide +kernel
theorem dL_law_536 : decode cL_law 536 = .ok (.aload_n 2, 1) := by decide +kernel
theorem dL_law_537 : decode cL_law 537 = .ok (.aload_n 0, 1) := by decide +kernel
theorem dL_law_538 : decode cL_law 538 = .ok (.iload_n 3, 1) := by decide +kernel
theorem dL_law_539 : decode cL_law 539 = .ok (.iconst 1, 1) := by decide +kernel
theorem dL_law_540 : decode cL_law 540 = .ok (.iadd, 1) := by decide +kernel
theorem dL_law_541 : decode cL_law 541 = .ok (.iaload, 1) := by decide +kernel
theorem dL_law_542 : decode cL_law 542 = .ok (.aload_n 0, 1) := by decide +kernel
theorem dL_law_543 : decode cL_law 543 = .ok (.iload_n 3, 1) := by decide +kernel
theorem dL_law_544 : decode cL_law 544 = .ok (.iconst 2, 1) := by decide +kernel
theorem dL_law_545 : decode cL_law 545 = .ok (.iadd, 1) := by decide +kernel
theorem dL_law_546 : decode cL_law 546 = .ok (.iaload, 1) := by decide +kernel
theorem dL_law_547 : decode cL_law 547 = .ok (.aload_n 0, 1) := by decide +kernel
theorem dL_law_548 : decode cL_law 548 = .ok (.iload_n 3, 1) := by decide +kernel
theorem dL_law_549 : decode cL_law 549 = .ok (.iconst 3, 1) := by decide +kernel
theorem dL_law_550 : decode cL_law 550 = .ok (.iadd, 1) := by decide +kernel
theorem dL_law_551 : decode cL_law 551 = .ok (.iaload, 1) := by decide +kernel
theorem dL_law_552 : decode cL_law 552 = .ok (.aload_n 0, 1) := by decide +kernel
theorem dL_law_553 : decode cL_law 553 = .ok (.iload_n 3, 1) := by decide +kernel
theorem dL_law_554 : decode cL_law 554 = .ok (.iconst 4, 1) := by decide +kernel
theorem dL_law_555 : decode cL_law 555 = .ok (.iadd, 1) := by decide +kernel
theorem dL_law_556 : decode cL_law 556 = .ok (.iaload, 1) := by decide +kernel
theorem dL_law_557 : decode cL_law 557 = .ok (.invokevirtual 55, 3) := by decide +kernel
theorem dL_law_560 : decode cL_law 560 = .ok (.if_icmp .eq 788, 3) := by decide +kernel
theorem dL_law_563 : decode cL_law 563 = .ok (.iconst 0, 1) := by decide +kernel
theorem dL_law_564 : decode cL_law 564 = .ok (.ireturn, 1) := by decide +kernel
theorem dL_law_565 : decode cL_law 565 = .ok (.aload_n 1, 1) := by decide +kernel
theorem dL_law_566 : decode cL_law 566 = .ok (.aload_n 0, 1) := by decide +kernel
theorem dL_law_567 : decode cL_law 567 = .ok (.iload_n 3, 1) := by decide +kernel
theorem dL_law_568 : decode cL_law 568 = .ok (.iconst 1, 1) := by decide +kernel
theorem dL_law_569 : decode cL_law 569 = .ok (.iadd, 1) := by decide +kernel
theorem dL_law_570 : decode cL_law 570 = .ok (.iaload, 1) := by decide +kernel
theorem dL_law_571 : decode cL_law 571 = .ok (.invokevirtual 56, 3) := by decide +kernel
theorem dL_law_574 : decode cL_law 574 = .ok (.aload_n 2, 1) := by decide +kernel
theorem dL_law_575 : decode cL_law 575 = .ok (.aload_n 0, 1) := by decide +kernel
theorem dL_law_576 : decode cL_law 576 = .ok (.iload_n 3, 1) := by decide +kernel
theorem dL_law_577 : decode cL_law 577 = .ok (.iconst 1, 1) := by decide +kernel
theorem dL_law_578 : decode cL_law 578 = .ok (.iadd, 1) := by decide +kernel
theorem dL_law_579 : decode cL_law 579 = .ok (.iaload, 1) := by decide +kernel
theorem dL_law_580 : decode cL_law 580 = .ok (.invokevirtual 59, 3) := by decide +kernel
theorem dL_law_583 : decode cL_law 583 = .ok (.if_icmp .eq 765, 3) := by decide +kernel
theorem dL_law_586 : decode cL_law 586 = .ok (.iconst 0, 1) := by decide +kernel
theorem dL_law_587 : decode cL_law 587 = .ok (.ireturn, 1) := by decide +kernel
theorem dL_law_588 : decode cL_law 588 = .ok (.aload_n 1, 1) := by decide +kernel
theorem dL_law_589 : decode cL_law 589 = .ok (.aload_n 0, 1) := by decide +kernel
theorem dL_law_590 : decode cL_law 590 = .ok (.iload_n 3, 1) := by decide +kernel
theorem dL_law_591 : decode cL_law 591 = .ok (.iconst 1, 1) := by decide +kernel
theorem dL_law_592 : decode cL_law 592 = .ok (.iadd, 1) := by decide +kernel
theorem dL_law_593 : decode cL_law 593 = .ok (.iaload, 1) := by decide +kernel
theorem dL_law_594 : decode cL_law 594 = .ok (.aload_n 0, 1) := by decide +kernel
theorem dL_law_595 : decode cL_law 595 = .ok (.iload_n 3, 1) := by decide +kernel
theorem dL_law_596 : decode cL_law 596 = .ok (.iconst 2, 1) := by decide +kernel
theorem dL_law_597 : decode cL_law 597 = .ok (.iadd, 1) := by decide +kernel
theorem dL_law_598 : decode cL_law 598 = .ok (.iaload, 1) := by decide +kernel
theorem dL_law_599 : decode cL_law 599 = .ok (.invokevirtual 60, 3) := by decide +kernel
theorem dL_law_602 : decode cL_law 602 = .ok (.aload_n 2, 1) := by decide +kernel
theorem dL_law_603 : decode cL_law 603 = .ok (.aload_n 0, 1) := by decide +kernel
theorem dL_law_604 : decode cL_law 604 = .ok (.iload_n 3, 1) := by decide +kernel
theorem dL_law_605 : decode cL_law 605 = .ok (.iconst 1, 1) := by decide +kernel
theorem dL_law_606 : decode cL_law 606 = .ok (.iadd, 1) := by decide +kernel
theorem dL_law_607 : decode cL_law 607 = .ok (.iaload, 1) := by decide +kernel
theorem dL_law_608 : decode cL_law 608 = .ok (.aload_n 0, 1) := by decide +kernel
theorem dL_law_609 : decode cL_law 609 = .ok (.iload_n 3, 1) := by decide +kernel
theorem dL_law_610 : decode cL_law 610 = .ok (.iconst 2, 1) := by decide +kernel
theorem dL_law_611 : decode cL_law 611 = .ok (.iadd, 1) := by decide +kernel
theorem dL_law_612 : decode cL_law 612 = .ok (.iaload, 1) := by decide +kernel
theorem dL_law_613 : decode cL_law 613 = .ok (.invokevirtual 63, 3) := by decide +kernel
theorem dL_law_616 : decode cL_law 616 = .ok (.if_icmp .eq 732, 3) := by decide +kernel
theorem dL_law_619 : decode cL_law 619 = .ok (.iconst 0, 1) := by decide +kernel
theorem dL_law_620 : decode cL_law 620 = .ok (.ireturn, 1) := by decide +kernel
theorem dL_law_621 : decode cL_law 621 = .ok (.aload_n 1, 1) := by decide +kernel
theorem dL_law_622 : decode cL_law 622 = .ok (.aload_n 0, 1) := by decide +kernel
theorem dL_law_623 : decode cL_law 623 = .ok (.iload_n 3, 1) := by decide +kernel
theorem dL_law_624 : decode cL_law 624 = .ok (.iconst 1, 1) := by decide +kernel
theorem dL_law_625 : decode cL_law 625 = .ok (.iadd, 1) := by decide +kernel
theorem dL_law_626 : decode cL_law 626 = .ok (.iaload, 1) := by decide +kernel
theorem dL_law_627 : decode cL_law 627 = .ok (.invokevirtual 64, 3) := by decide +kernel
theorem dL_law_630 : decode cL_law 630 = .ok (.aload_n 2, 1) := by decide +kernel
theorem dL_law_631 : decode cL_law 631 = .ok (.aload_n 0, 1) := by decide +kernel
theorem dL_law_632 : decode cL_law 632 = .ok (.iload_n 3, 1) := by decide +kernel
theorem dL_law_633 : decode cL_law 633 = .ok (.iconst 1, 1) := by decide +kernel
theorem dL_law_634 : decode cL_law 634 = .ok (.iadd, 1) := by decide +kernel
theorem dL_law_635 : decode cL_law 635 = .ok (.iaload, 1) := by decide +kernel
theorem dL_law_636 : decode cL_law 636 = .ok (.invokevirtual 67, 3) := by decide +kernel
theorem dL_law_639 : decode cL_law 639 = .ok (.if_icmp .eq 709, 3) := by decide +kernel
theorem dL_law_642 : decode cL_law 642 = .ok (.iconst 0, 1) := by decide +kernel
theorem dL_law_643 : decode cL_law 643 = .ok (.ireturn, 1) := by decide +kernel
theorem dL_law_644 : decode cL_law 644 = .ok (.aload_n 1, 1) := by decide +kernel
theorem dL_law_645 : decode cL_law 645 = .ok (.aload_n 0, 1) := by decide +kernel
theorem dL_law_646 : decode cL_law 646 = .ok (.iload_n 3, 1) := by decide +kernel
theorem dL_law_647 : decode cL_law 647 = .ok (.iconst 1, 1) := by decide +kernel
theorem dL_law_648 : decode cL_law 648 = .ok (.iadd, 1) := by decide +kernel
theorem dL_law_649 : decode cL_law 649 = .ok (.iaload, 1) := by decide +kernel
theorem dL_law_650 : decode cL_law 650 = .ok (.invokevirtual 68, 3) := by decide +kernel
theorem dL_law_653 : decode cL_law 653 = .ok (.aload_n 2, 1) := by decide +kernel
theorem dL_law_654 : decode cL_law 654 = .ok (.aload_n 0, 1) := by decide +kernel
theorem dL_law_655 : decode cL_law 655 = .ok (.iload_n 3, 1) := by decide +kernel
theorem dL_law_656 : decode cL_law 656 = .ok (.iconst 1, 1) := by decide +kernel
theorem dL_law_657 : decode cL_law 657 = .ok (.iadd, 1) := by decide +kernel
theorem dL_law_658 : decode cL_law 658 = .ok (.iaload, 1) := by decide +kernel
theorem dL_law_659 : decode cL_law 659 = .ok (.invokevirtual 71, 3) := by decide +kernel
theorem dL_law_662 : decode cL_law 662 = .ok (.if_icmp .eq 686, 3) := by decide +kernel
theorem dL_law_665 : decode cL_law 665 = .ok (.iconst 0, 1) := by decide +kernel
theorem dL_law_666 : decode cL_law 666 = .ok (.ireturn, 1) := by decide +kernel
theorem dL_law_667 : decode cL_law 667 = .ok (.aload_n 1, 1) := by decide +kernel
theorem dL_law_668 : decode cL_law 668 = .ok (.aload_n 0, 1) := by decide +kernel
theorem dL_law_669 : decode cL_law 669 = .ok (.iload_n 3, 1) := by decide +kernel
theorem dL_law_670 : decode cL_law 670 = .ok (.iconst 1, 1) := by decide +kernel
theorem dL_law_671 : decode cL_law 671 = .ok (.iadd, 1) := by decide +kernel
theorem dL_law_672 : decode cL_law 672 = .ok (.iaload, 1) := by decide +kernel
theorem dL_law_673 : decode cL_law 673 = .ok (.invokevirtual 72, 3) := by decide +kernel
theorem dL_law_676 : decode cL_law 676 = .ok (.aload_n 2, 1) := by decide +kernel
theorem dL_law_677 : decode cL_law 677 = .ok (.aload_n 0, 1) := by decide +kernel
theorem dL_law_678 : decode cL_law 678 = .ok (.iload_n 3, 1) := by decide +kernel
theorem dL_law_679 : decode cL_law 679 = .ok (.iconst 1, 1) := by decide +kernel
theorem dL_law_680 : decode cL_law 680 = .ok (.iadd, 1) := by decide +kernel
theorem dL_law_681 : decode cL_law 681 = .ok (.iaload, 1) := by decide +kernel
theorem dL_law_682 : decode cL_law 682 = .ok (.invokevirtual 75, 3) := by decide +kernel
theorem dL_law_685 : decode cL_law 685 = .ok (.if_icmp .eq 663, 3) := by decide +kernel
theorem dL_law_688 : decode cL_law 688 = .ok (.iconst 0, 1) := by decide +kernel
theorem dL_law_689 : decode cL_law 689 = .ok (.ireturn, 1) := by decide +kernel
theorem dL_law_690 : decode cL_law 690 = .ok (.aload_n 1, 1) := by decide +kernel
theorem dL_law_691 : decode cL_law 691 = .ok (.aload_n 0, 1) := by decide +kernel
theorem dL_law_692 : decode cL_law 692 = .ok (.iload_n 3, 1) := by decide +kernel
theorem dL_law_693 : decode cL_law 693 = .ok (.iconst 1, 1) := by decide +kernel
theorem dL_law_694 : decode cL_law 694 = .ok (.iadd, 1) := by decide +kernel
theorem dL_law_695 : decode cL_law 695 = .ok (.iaload, 1) := by decide +kernel
theorem dL_law_696 : decode cL_law 696 = .ok (.aload_n 0, 1) := by decide +kernel
theorem dL_law_697 : decode cL_law 697 = .ok (.iload_n 3, 1) := by decide +kernel
theorem dL_law_698 : decode cL_law 698 = .ok (.iconst 2, 1) := by decide +kernel
theorem dL_law_699 : decode cL_law 699 = .ok (.iadd, 1) := by decide +kernel
theorem dL_law_700 : decode cL_law 700 = .ok (.iaload, 1) := by decide +kernel
theorem dL_law_701 : decode cL_law 701 = .ok (.invokevirtual 76, 3) := by decide +kernel
theorem dL_law_704 : decode cL_law 704 = .ok (.aload_n 2, 1) := by decide +kernel
theorem dL_law_705 : decode cL_law 705 = .ok (.aload_n 0, 1) := by decide +kernel
theorem dL_law_706 : decode cL_law 706 = .ok (.iload_n 3, 1) := by decide +kernel
theorem dL_law_707 : decode cL_law 707 = .ok (.iconst 1, 1) := by decide +kernel
theorem dL_law_708 : decode cL_law 708 = .ok (.iadd, 1) := by decide +kernel
theorem dL_law_709 : decode cL_law 709 = .ok (.iaload, 1) := by decide +kernel
theorem dL_law_710 : decode cL_law 710 = .ok (.aload_n 0, 1) := by decide +kernel
theorem dL_law_711 : decode cL_law 711 = .ok (.iload_n 3, 1) := by decide +kernel
theorem dL_law_712 : decode cL_law 712 = .ok (.iconst 2, 1) := by decide +kernel
theorem dL_law_713 : decode cL_law 713 = .ok (.iadd, 1) := by decide +kernel
theorem dL_law_714 : decode cL_law 714 = .ok (.iaload, 1) := by decide +kernel
theorem dL_law_715 : decode cL_law 715 = .ok (.invokevirtual 79, 3) := by decide +kernel
theorem dL_law_718 : decode cL_law 718 = .ok (.if_icmp .eq 630, 3) := by decide +kernel
theorem dL_law_721 : decode cL_law 721 = .ok (.iconst 0, 1) := by decide +kernel
theorem dL_law_722 : decode cL_law 722 = .ok (.ireturn, 1) := by decide +kernel
theorem dL_law_723 : decode cL_law 723 = .ok (.aload_n 1, 1) := by decide +kernel
theorem dL_law_724 : decode cL_law 724 = .ok (.aload_n 0, 1) := by decide +kernel
theorem dL_law_725 : decode cL_law 725 = .ok (.iload_n 3, 1) := by decide +kernel
theorem dL_law_726 : decode cL_law 726 = .ok (.iconst 1, 1) := by decide +kernel
theorem dL_law_727 : decode cL_law 727 = .ok (.iadd, 1) := by decide +kernel
theorem dL_law_728 : decode cL_law 728 = .ok (.iaload, 1) := by decide +kernel
theorem dL_law_729 : decode cL_law 729 = .ok (.invokevirtual 80, 3) := by decide +kernel
theorem dL_law_732 : decode cL_law 732 = .ok (.aload_n 2, 1) := by decide +kernel
theorem dL_law_733 : decode cL_law 733 = .ok (.aload_n 0, 1) := by decide +kernel
theorem dL_law_734 : decode cL_law 734 = .ok (.iload_n 3, 1) := by decide +kernel
theorem dL_law_735 : decode cL_law 735 = .ok (.iconst 1, 1) := by decide +kernel
theorem dL_law_736 : decode cL_law 736 = .ok (.iadd, 1) := by decide +kernel
theorem dL_law_737 : decode cL_law 737 = .ok (.iaload, 1) := by decide +kernel
theorem dL_law_738 : decode cL_law 738 = .ok (.invokevirtual 83, 3) := by decide +kernel
theorem dL_law_741 : decode cL_law 741 = .ok (.if_icmp .eq 607, 3) := by decide +kernel
theorem dL_law_744 : decode cL_law 744 = .ok (.iconst 0, 1) := by decide +kernel
theorem dL_law_745 : decode cL_law 745 = .ok (.ireturn, 1) := by decide +kernel
theorem dL_law_746 : decode cL_law 746 = .ok (.aload_n 1, 1) := by decide +kernel
theorem dL_law_747 : decode cL_law 747 = .ok (.aload_n 0, 1) := by decide +kernel
theorem dL_law_748 : decode cL_law 748 = .ok (.iload_n 3, 1) := by decide +kernel
theorem dL_law_749 : decode cL_law 749 = .ok (.iconst 1, 1) := by decide +kernel
theorem dL_law_750 : decode cL_law 750 = .ok (.iadd, 1) := by decide +kernel
theorem dL_law_751 : decode cL_law 751 = .ok (.iaload, 1) := by decide +kernel
theorem dL_law_752 : decode cL_law 752 = .ok (.invokevirtual 84, 3) := by decide +kernel
theorem dL_law_755 : decode cL_law 755 = .ok (.aload_n 2, 1) := by decide +kernel
theorem dL_law_756 : decode cL_law 756 = .ok (.aload_n 0, 1) := by decide +kernel
theorem dL_law_757 : decode cL_law 757 = .ok (.iload_n 3, 1) := by decide +kernel
theorem dL_law_758 : decode cL_law 758 = .ok (.iconst 1, 1) := by decide +kernel
theorem dL_law_759 : decode cL_law 759 = .ok (.iadd, 1) := by decide +kernel
theorem dL_law_760 : decode cL_law 760 = .ok (.iaload, 1) := by decide +kernel
theorem dL_law_761 : decode cL_law 761 = .ok (.invokevirtual 87, 3) := by decide +kernel
theorem dL_law_764 : decode cL_law 764 = .ok (.if_icmp .eq 584, 3) := by decide +kernel
theorem dL_law_767 : decode cL_law 767 = .ok (.iconst 0, 1) := by decide +kernel
theorem dL_law_768 : decode cL_law 768 = .ok (.ireturn, 1) := by decide +kernel
theorem dL_law_769 : decode cL_law 769 = .ok (.aload_n 1, 1) := by decide +kernel
theorem dL_law_770 : decode cL_law 770 = .ok (.aload_n 0, 1) := by decide +kernel
theorem dL_law_771 : decode cL_law 771 = .ok (.iload_n 3, 1) := by decide +kernel
theorem dL_law_772 : decode cL_law 772 = .ok (.iconst 1, 1) := by decide +kernel
theorem dL_law_773 : decode cL_law 773 = .ok (.iadd, 1) := by decide +kernel
theorem dL_law_774 : decode cL_law 774 = .ok (.iaload, 1) := by decide +kernel
theorem dL_law_775 : decode cL_law 775 = .ok (.invokevirtual 88, 3) := by decide +kernel
theorem dL_law_778 : decode cL_law 778 = .ok (.aload_n 2, 1) := by decide +kernel
theorem dL_law_779 : decode cL_law 779 = .ok (.aload_n 0, 1) := by decide +kernel
theorem dL_law_780 : decode cL_law 780 = .ok (.iload_n 3, 1) := by decide +kernel
theorem dL_law_781 : decode cL_law 781 = .ok (.iconst 1, 1) := by decide +kernel
theorem dL_law_782 : decode cL_law 782 = .ok (.iadd, 1) := by decide +kernel
theorem dL_law_783 : decode cL_law 783 = .ok (.iaload, 1) := by decide +kernel
theorem dL_law_784 : decode cL_law 784 = .ok (.invokevirtual 91, 3) := by decide +kernel
theorem dL_law_787 : decode cL_law 787 = .ok (.if_icmp .eq 561, 3) := by decide +kernel
theorem dL_law_790 : decode cL_law 790 = .ok (.iconst 0, 1) := by decide +kernel
theorem dL_law_791 : decode cL_law 791 = .ok (.ireturn, 1) := by decide +kernel
theorem dL_law_792 : decode cL_law 792 = .ok (.aload_n 1, 1) := by decide +kernel
theorem dL_law_793 : decode cL_law 793 = .ok (.invokevirtual 92, 3) := by decide +kernel
theorem dL_law_796 : decode cL_law 796 = .ok (.aload_n 2, 1) := by decide +kernel
theorem dL_law_797 : decode cL_law 797 = .ok (.invokevirtual 96, 3) := by decide +kernel
theorem dL_law_800 : decode cL_law 800 = .ok (.if_icmp .eq 548, 3) := by decide +kernel
theorem dL_law_803 : decode cL_law 803 = .ok (.iconst 0, 1) := by decide +kernel
theorem dL_law_804 : decode cL_law 804 = .ok (.ireturn, 1) := by decide +kernel
theorem dL_law_805 : decode cL_law 805 = .ok (.aload_n 1, 1) := by decide +kernel
theorem dL_law_806 : decode cL_law 806 = .ok (.invokevirtual 97, 3) := by decide +kernel
theorem dL_law_809 : decode cL_law 809 = .ok (.aload_n 2, 1) := by decide +kernel
theorem dL_law_810 : decode cL_law 810 = .ok (.invokevirtual 100, 3) := by decide +kernel
theorem dL_law_813 : decode cL_law 813 = .ok (.if_icmp .eq 535, 3) := by decide +kernel
theorem dL_law_816 : decode cL_law 816 = .ok (.iconst 0, 1) := by decide +kernel
theorem dL_law_817 : decode cL_law 817 = .ok (.ireturn, 1) := by decide +kernel
theorem dL_law_818 : decode cL_law 818 = .ok (.aload_n 1, 1) := by decide +kernel
theorem dL_law_819 : decode cL_law 819 = .ok (.aload_n 0, 1) := by decide +kernel
theorem dL_law_820 : decode cL_law 820 = .ok (.iload_n 3, 1) := by decide +kernel
theorem dL_law_821 : decode cL_law 821 = .ok (.iconst 1, 1) := by decide +kernel
theorem dL_law_822 : decode cL_law 822 = .ok (.iadd, 1) := by decide +kernel
theorem dL_law_823 : decode cL_law 823 = .ok (.iaload, 1) := by decide +kernel
theorem dL_law_824 : decode cL_law 824 = .ok (.aload_n 0, 1) := by decide +kernel
theorem dL_law_825 : decode cL_law 825 = .ok (.iload_n 3, 1) := by decide +kernel
theorem dL_law_826 : decode cL_law 826 = .ok (.iconst 2, 1) := by decide +kernel
theorem dL_law_827 : decode cL_law 827 = .ok (.iadd, 1) := by decide +kernel
theorem dL_law_828 : decode cL_law 828 = .ok (.iaload, 1) := by decide +kernel
theorem dL_law_829 : decode cL_law 829 = .ok (.invokevirtual 101, 3) := by decide +kernel
theorem dL_law_832 : decode cL_law 832 = .ok (.aload_n 2, 1) := by decide +kernel
theorem dL_law_833 : decode cL_law 833 = .ok (.aload_n 0, 1) := by decide +kernel
theorem dL_law_834 : decode cL_law 834 = .ok (.iload_n 3, 1) := by decide +kernel
theorem dL_law_835 : decode cL_law 835 = .ok (.iconst 1, 1) := by decide +kernel
theorem dL_law_836 : decode cL_law 836 = .ok (.iadd, 1) := by decide +kernel
theorem dL_law_837 : decode cL_law 837 = .ok (.iaload, 1) := by decide +kernel
theorem dL_law_838 : decode cL_law 838 = .ok (.aload_n 0, 1) := by decide +kernel
theorem dL_law_839 : decode cL_law 839 = .ok (.iload_n 3, 1) := by decide +kernel
theorem dL_law_840 : decode cL_law 840 = .ok (.iconst 2, 1) := by decide +kernel
theorem dL_law_841 : decode cL_law 841 = .ok (.iadd, 1) := by decide +kernel
theorem dL_law_842 : decode cL_law 842 = .ok (.iaload, 1) := by decide +kernel
theorem dL_law_843 : decode cL_law 843 = .ok (.invokevirtual 104, 3) := by decide +kernel
theorem dL_law_846 : decode cL_law 846 = .ok (.if_icmp .eq 502, 3) := by decide +kernel
theorem dL_law_849 : decode cL_law 849 = .ok (.iconst 0, 1) := by decide +kernel
theorem dL_law_850 : decode cL_law 850 = .ok (.ireturn, 1) := by decide +kernel
theorem dL_law_851 : decode cL_law 851 = .ok (.aload_n 1, 1) := by decide +kernel
theorem dL_law_852 : decode cL_law 852 = .ok (.invokevirtual 105, 3) := by decide +kernel
theorem dL_law_855 : decode cL_law 855 = .ok (.aload_n 2, 1) := by decide +kernel
theorem dL_law_856 : decode cL_law 856 = .ok (.invokevirtual 108, 3) := by decide +kernel
theorem dL_law_859 : decode cL_law 859 = .ok (.if_icmp .eq 489, 3) := by decide +kernel
theorem dL_law_862 : decode cL_law 862 = .ok (.iconst 0, 1) := by decide +kernel
theorem dL_law_863 : decode cL_law 863 = .ok (.ireturn, 1) := by decide +kernel
theorem dL_law_864 : decode cL_law 864 = .ok (.aload_n 1, 1) := by decide +kernel
theorem dL_law_865 : decode cL_law 865 = .ok (.invokevirtual 109, 3) := by decide +kernel
theorem dL_law_868 : decode cL_law 868 = .ok (.aload_n 2, 1) := by decide +kernel
theorem dL_law_869 : decode cL_law 869 = .ok (.invokevirtual 112, 3) := by decide +kernel
theorem dL_law_872 : decode cL_law 872 = .ok (.if_icmp .eq 476, 3) := by decide +kernel
theorem dL_law_875 : decode cL_law 875 = .ok (.iconst 0, 1) := by decide +kernel
theorem dL_law_876 : decode cL_law 876 = .ok (.ireturn, 1) := by decide +kernel
theorem dL_law_877 : decode cL_law 877 = .ok (.aload_n 1, 1) := by decide +kernel
theorem dL_law_878 : decode cL_law 878 = .ok (.aload_n 0, 1) := by decide +kernel
theorem dL_law_879 : decode cL_law 879 = .ok (.iload_n 3, 1) := by decide +kernel
theorem dL_law_880 : decode cL_law 880 = .ok (.iconst 1, 1) := by decide +kernel
theorem dL_law_881 : decode cL_law 881 = .ok (.iadd, 1) := by decide +kernel
theorem dL_law_882 : decode cL_law 882 = .ok (.iaload, 1) := by decide +kernel
theorem dL_law_883 : decode cL_law 883 = .ok (.invokevirtual 113, 3) := by decide +kernel
theorem dL_law_886 : decode cL_law 886 = .ok (.aload_n 2, 1) := by decide +kernel
theorem dL_law_887 : decode cL_law 887 = .ok (.aload_n 0, 1) := by decide +kernel
theorem dL_law_888 : decode cL_law 888 = .ok (.iload_n 3, 1) := by decide +kernel
theorem dL_law_889 : decode cL_law 889 = .ok (.iconst 1, 1) := by decide +kernel
theorem dL_law_890 : decode cL_law 890 = .ok (.iadd, 1) := by decide +kernel
theorem dL_law_891 : decode cL_law 891 = .ok (.iaload, 1) := by decide +kernel
theorem dL_law_892 : decode cL_law 892 = .ok (.invokevirtual 116, 3) := by decide +kernel
theorem dL_law_895 : decode cL_law 895 = .ok (.if_icmp .eq 453, 3) := by decide +kernel
theorem dL_law_898 : decode cL_law 898 = .ok (.iconst 0, 1) := by decide +kernel
theorem dL_law_899 : decode cL_law 899 = .ok (.ireturn, 1) := by decide +kernel
theorem dL_law_900 : decode cL_law 900 = .ok (.aload_n 1, 1) := by decide +kernel
theorem dL_law_901 : decode cL_law 901 = .ok (.aload_n 0, 1) := by decide +kernel
theorem dL_law_902 : decode cL_law 902 = .ok (.iload_n 3, 1) := by decide +kernel
theorem dL_law_903 : decode cL_law 903 = .ok (.iconst 1, 1) := by decide +kernel
theorem dL_law_904 : decode cL_law 904 = .ok (.iadd, 1) := by decide +kernel
theorem dL_law_905 : decode cL_law 905 = .ok (.iaload, 1) := by decide +kernel
theorem dL_law_906 : decode cL_law 906 = .ok (.invokevirtual 117, 3) := by decide +kernel
theorem dL_law_909 : decode cL_law 909 = .ok (.aload_n 2, 1) := by decide +kernel
theorem dL_law_910 : decode cL_law 910 = .ok (.aload_n 0, 1) := by decide +kernel
theorem dL_law_911 : decode cL_law 911 = .ok (.iload_n 3, 1) := by decide +kernel
theorem dL_law_912 : decode cL_law 912 = .ok (.iconst 1, 1) := by decide +kernel
theorem dL_law_913 : decode cL_law 913 = .ok (.iadd, 1) := by decide +kernel
theorem dL_law_914 : decode cL_law 914 = .ok (.iaload, 1) := by decide +kernel
theorem dL_law_915 : decode cL_law 915 = .ok (.invokevirtual 120, 3) := by decide +kernel
theorem dL_law_918 : decode cL_law 918 = .ok (.if_icmp .eq 430, 3) := by decide +kernel
theorem dL_law_921 : decode cL_law 921 = .ok (.iconst 0, 1) := by decide +kernel
theorem dL_law_922 : decode cL_law 922 = .ok (.ireturn, 1) := by decide +kernel
theorem dL_law_923 : decode cL_law 923 = .ok (.aload_n 1, 1) := by decide +kernel
theorem dL_law_924 : decode cL_law 924 = .ok (.aload_n 0, 1) := by decide +kernel
theorem dL_law_925 : decode cL_law 925 = .ok (.iload_n 3, 1) := by decide +kernel
theorem dL_law_926 : decode cL_law 926 = .ok (.iconst 1, 1) := by decide +kernel
theorem dL_law_927 : decode cL_law 927 = .ok (.iadd, 1) := by decide +kernel
theorem dL_law_928 : decode cL_law 928 = .ok (.iaload, 1) := by decide +kernel
theorem dL_law_929 : decode cL_law 929 = .ok (.aload_n 0, 1) := by decide +kernel
theorem dL_law_930 : decode cL_law 930 = .ok (.iload_n 3, 1) := by decide +kernel
theorem dL_law_931 : decode cL_law 931 = .ok (.iconst 2, 1) := by decide +kernel
theorem dL_law_932 : decode cL_law 932 = .ok (.iadd, 1) := by decide +kernel
theorem dL_law_933 : decode cL_law 933 = .ok (.iaload, 1) := by decide +kernel
theorem dL_law_934 : decode cL_law 934 = .ok (.invokevirtual 121, 3) := by decide +kernel
theorem dL_law_937 : decode cL_law 937 = .ok (.aload_n 2, 1) := by decide +kernel
theorem dL_law_938 : decode cL_law 938 = .ok (.aload_n 0, 1) := by decide +kernel
theorem dL_law_939 : decode cL_law 939 = .ok (.iload_n 3, 1) := by decide +kernel
theorem dL_law_940 : decode cL_law 940 = .ok (.iconst 1, 1) := by decide +kernel
theorem dL_law_941 : decode cL_law 941 = .ok (.iadd, 1) := by decide +kernel
theorem dL_law_942 : decode cL_law 942 = .ok (.iaload, 1) := by decide +kernel
theorem dL_law_943 : decode cL_law 943 = .ok (.aload_n 0, 1) := by decide +kernel
theorem dL_law_944 : decode cL_law 944 = .ok (.iload_n 3, 1) := by decide +kernel
theorem dL_law_945 : decode cL_law 945 = .ok (.iconst 2, 1) := by decide +kernel
theorem dL_law_946 : decode cL_law 946 = .ok (.iadd, 1) := by decide +kernel
theorem dL_law_947 : decode cL_law 947 = .ok (.iaload, 1) := by decide +kernel
theorem dL_law_948 : decode cL_law 948 = .ok (.invokevirtual 124, 3) := by decide +kernel
theorem dL_law_951 : decode cL_law 951 = .ok (.if_icmp .eq 397, 3) := by decide +kernel
theorem dL_law_954 : decode cL_law 954 = .ok (.iconst 0, 1) := by decide +kernel
theorem dL_law_955 : decode cL_law 955 = .ok (.ireturn, 1) := by decide +kernel
theorem dL_law_956 : decode cL_law 956 = .ok (.aload_n 1, 1) := by decide +kernel
theorem dL_law_957 : decode cL_law 957 = .ok (.aload_n 0, 1) := by decide +kernel
theorem dL_law_958 : decode cL_law 958 = .ok (.iload_n 3, 1) := by decide +kernel
theorem dL_law_959 : decode cL_law 959 = .ok (.iconst 1, 1) := by decide +kernel
theorem dL_law_960 : decode cL_law 960 = .ok (.iadd, 1) := by decide +kernel
theorem dL_law_961 : decode cL_law 961 = .ok (.iaload, 1) := by decide +kernel
theorem dL_law_962 : decode cL_law 962 = .ok (.invokevirtual 125, 3) := by decide +kernel
theorem dL_law_965 : decode cL_law 965 = .ok (.aload_n 2, 1) := by decide +kernel
theorem dL_law_966 : decode cL_law 966 = .ok (.aload_n 0, 1) := by decide +kernel
theorem dL_law_967 : decode cL_law 967 = .ok (.iload_n 3, 1) := by decide +kernel
theorem dL_law_968 : decode cL_law 968 = .ok (.iconst 1, 1) := by decide +kernel
theorem dL_law_969 : decode cL_law 969 = .ok (.iadd, 1) := by decide +kernel
theorem dL_law_970 : decode cL_law 970 = .ok (.iaload, 1) := by decide +kernel
theorem dL_law_971 : decode cL_law 971 = .ok (.invokevirtual 128, 3) := by decide +kernel
theorem dL_law_974 : decode cL_law 974 = .ok (.if_icmp .eq 374, 3) := by decide +kernel
theorem dL_law_977 : decode cL_law 977 = .ok (.iconst 0, 1) := by decide +kernel
theorem dL_law_978 : decode cL_law 978 = .ok (.ireturn, 1) := by decide +kernel
theorem dL_law_979 : decode cL_law 979 = .ok (.aload_n 1, 1) := by decide +kernel
theorem dL_law_980 : decode cL_law 980 = .ok (.aload_n 0, 1) := by decide +kernel
theorem dL_law_981 : decode cL_law 981 = .ok (.iload_n 3, 1) := by decide +kernel
theorem dL_law_982 : decode cL_law 982 = .ok (.iconst 1, 1) := by decide +kernel
theorem dL_law_983 : decode cL_law 983 = .ok (.iadd, 1) := by decide +kernel
theorem dL_law_984 : decode cL_law 984 = .ok (.iaload, 1) := by decide +kernel
theorem dL_law_985 : decode cL_law 985 = .ok (.aload_n 0, 1) := by decide +kernel
theorem dL_law_986 : decode cL_law 986 = .ok (.iload_n 3, 1) := by decide +kernel
theorem dL_law_987 : decode cL_law 987 = .ok (.iconst 2, 1) := by decide +kernel
theorem dL_law_988 : decode cL_law 988 = .ok (.iadd, 1) := by decide +kernel
theorem dL_law_989 : decode cL_law 989 = .ok (.iaload, 1) := by decide +kernel
theorem dL_law_990 : decode cL_law 990 = .ok (.aload_n 0, 1) := by decide +kernel
theorem dL_law_991 : decode cL_law 991 = .ok (.iload_n 3, 1) := by decide +kernel
theorem dL_law_992 : decode cL_law 992 = .ok (.iconst 3, 1) := by decide +kernel
theorem dL_law_993 : decode cL_law 993 = .ok (.iadd, 1) := by decide +kernel
theorem dL_law_994 : decode cL_law 994 = .ok (.iaload, 1) := by decide +kernel
theorem dL_law_995 : decode cL_law 995 = .ok (.invokevirtual 129, 3) := by decide +kernel
theorem dL_law_998 : decode cL_law 998 = .ok (.aload_n 2, 1) := by decide +kernel
theorem dL_law_999 : decode cL_law 999 = .ok (.aload_n 0, 1) := by decide +kernel
theorem dL_law_1000 : decode cL_law 1000 = .ok (.iload_n 3, 1) := by decide +kernel
theorem dL_law_1001 : decode cL_law 1001 = .ok (.iconst 1, 1) := by decide +kernel
theorem dL_law_1002 : decode cL_law 1002 = .ok (.iadd, 1) := by decide +kernel
theorem dL_law_1003 : decode cL_law 1003 = .ok (.iaload, 1) := by decide +kernel
theorem dL_law_1004 : decode cL_law 1004 = .ok (.aload_n 0, 1) := by decide +kernel
theorem dL_law_1005 : decode cL_law 1005 = .ok (.iload_n 3, 1) := by decide +kernel
theorem dL_law_1006 : decode cL_law 1006 = .ok (.iconst 2, 1) := by decide +kernel
theorem dL_law_1007 : decode cL_law 1007 = .ok (.iadd, 1) := by decide +kernel
theorem dL_law_1008 : decode cL_law 1008 = .ok (.iaload, 1) := by decide +kernel
theorem dL_law_1009 : decode cL_law 1009 = .ok (.aload_n 0, 1) := by decide +kernel
theorem dL_law_1010 : decode cL_law 1010 = .ok (.iload_n 3, 1) := by decide +kernel
theorem dL_law_1011 : decode cL_law 1011 = .ok (.iconst 3, 1) := by decide +kernel
theorem dL_law_1012 : decode cL_law 1012 = .ok (.iadd, 1) := by decide +kernel
theorem dL_law_1013 : decode cL_law 1013 = .ok (.iaload, 1) := by decide +kernel
theorem dL_law_1014 : decode cL_law 1014 = .ok (.invokevirtual 132, 3) := by decide +kernel
theorem dL_law_1017 : decode cL_law 1017 = .ok (.if_icmp .eq 331, 3) := by decide +kernel
theorem dL_law_1020 : decode cL_law 1020 = .ok (.iconst 0, 1) := by decide +kernel
theorem dL_law_1021 : decode cL_law 1021 = .ok (.ireturn, 1) := by decide +kernel
theorem dL_law_1022 : decode cL_law 1022 = .ok (.aload_n 1, 1) := by decide +kernel
theorem dL_law_1023 : decode cL_law 1023 = .ok (.aload_n 0, 1) := by decide +kernel
theorem dL_law_1024 : decode cL_law 1024 = .ok (.iload_n 3, 1) := by decide +kernel
theorem dL_law_1025 : decode cL_law 1025 = .ok (.iconst 1, 1) := by decide +kernel
theorem dL_law_1026 : decode cL_law 1026 = .ok (.iadd, 1) := by decide +kernel
theorem dL_law_1027 : decode cL_law 1027 = .ok (.iaload, 1) := by decide +kernel
theorem dL_law_1028 : decode cL_law 1028 = .ok (.invokevirtual 133, 3) := by decide +kernel
theorem dL_law_1031 : decode cL_law 1031 = .ok (.aload_n 2, 1) := by decide +kernel
theorem dL_law_1032 : decode cL_law 1032 = .ok (.aload_n 0, 1) := by decide +kernel
theorem dL_law_1033 : decode cL_law 1033 = .ok (.iload_n 3, 1) := by decide +kernel
theorem dL_law_1034 : decode cL_law 1034 = .ok (.iconst 1, 1) := by decide +kernel
theorem dL_law_1035 : decode cL_law 1035 = .ok (.iadd, 1) := by decide +kernel
theorem dL_law_1036 : decode cL_law 1036 = .ok (.iaload, 1) := by decide +kernel
theorem dL_law_1037 : decode cL_law 1037 = .ok (.invokevirtual 136, 3) := by decide +kernel
theorem dL_law_1040 : decode cL_law 1040 = .ok (.if_icmp .eq 308, 3) := by decide +kernel
theorem dL_law_1043 : decode cL_law 1043 = .ok (.iconst 0, 1) := by decide +kernel
theorem dL_law_1044 : decode cL_law 1044 = .ok (.ireturn, 1) := by decide +kernel
theorem dL_law_1045 : decode cL_law 1045 = .ok (.aload_n 1, 1) := by decide +kernel
theorem dL_law_1046 : decode cL_law 1046 = .ok (.aload_n 0, 1) := by decide +kernel
theorem dL_law_1047 : decode cL_law 1047 = .ok (.iload_n 3, 1) := by decide +kernel
theorem dL_law_1048 : decode cL_law 1048 = .ok (.iconst 1, 1) := by decide +kernel
theorem dL_law_1049 : decode cL_law 1049 = .ok (.iadd, 1) := by decide +kernel
theorem dL_law_1050 : decode cL_law 1050 = .ok (.iaload, 1) := by decide +kernel
theorem dL_law_1051 : decode cL_law 1051 = .ok (.aload_n 0, 1) := by decide +kernel
theorem dL_law_1052 : decode cL_law 1052 = .ok (.iload_n 3, 1) := by decide +kernel
theorem dL_law_1053 : decode cL_law 1053 = .ok (.iconst 2, 1) := by decide +kernel
theorem dL_law_1054 : decode cL_law 1054 = .ok (.iadd, 1) := by decide +kernel
theorem dL_law_1055 : decode cL_law 1055 = .ok (.iaload, 1) := by decide +kernel
theorem dL_law_1056 : decode cL_law 1056 = .ok (.aload_n 0, 1) := by decide +kernel
theorem dL_law_1057 : decode cL_law 1057 = .ok (.iload_n 3, 1) := by decide +kernel
theorem dL_law_1058 : decode cL_law 1058 = .ok (.iconst 3, 1) := by decide +kernel
theorem dL_law_1059 : decode cL_law 1059 = .ok (.iadd, 1) := by decide +kernel
theorem dL_law_1060 : decode cL_law 1060 = .ok (.iaload, 1) := by decide +kernel
theorem dL_law_1061 : decode cL_law 1061 = .ok (.invokevirtual 137, 3) := by decide +kernel
theorem dL_law_1064 : decode cL_law 1064 = .ok (.aload_n 2, 1) := by decide +kernel
theorem dL_law_1065 : decode cL_law 1065 = .ok (.aload_n 0, 1) := by decide +kernel
theorem dL_law_1066 : decode cL_law 1066 = .ok (.iload_n 3, 1) := by decide +kernel
theorem dL_law_1067 : decode cL_law 1067 = .ok (.iconst 1, 1) := by decide +kernel
theorem dL_law_1068 : decode cL_law 1068 = .ok (.iadd, 1) := by decide +kernel
theorem dL_law_1069 : decode cL_law 1069 = .ok (.iaload, 1) := by decide +kernel
theorem dL_law_1070 : decode cL_law 1070 = .ok (.aload_n 0, 1) := by decide +kernel
theorem dL_law_1071 : decode cL_law 1071 = .ok (.iload_n 3, 1) := by decide +kernel
theorem dL_law_1072 : decode cL_law 1072 = .ok (.iconst 2, 1) := by decide +kernel
theorem dL_law_1073 : decode cL_law 1073 = .ok (.iadd, 1) := by decide +kernel
theorem dL_law_1074 : decode cL_law 1074 = .ok (.iaload, 1) := by decide +kernel
theorem dL_law_1075 : decode cL_law 1075 = .ok (.aload_n 0, 1) := by decide +kernel
theorem dL_law_1076 : decode cL_law 1076 = .ok (.iload_n 3, 1) := by decide +kernel
theorem dL_law_1077 : decode cL_law 1077 = .ok (.iconst 3, 1) := by decide +kernel
theorem dL_law_1078 : decode cL_law 1078 = .ok (.iadd, 1) := by decide +kernel
theorem dL_law_1079 : decode cL_law 1079 = .ok (.iaload, 1) := by decide +kernel
theorem dL_law_1080 : decode cL_law 1080 = .ok (.invokevirtual 140, 3) := by decide +kernel
theorem dL_law_1083 : decode cL_law 1083 = .ok (.if_icmp .eq 265, 3) := by decide +kernel
theorem dL_law_1086 : decode cL_law 1086 = .ok (.iconst 0, 1) := by decide +kernel
theorem dL_law_1087 : decode cL_law 1087 = .ok (.ireturn, 1) := by decide +kernel
theorem dL_law_1088 : decode cL_law 1088 = .ok (.aload_n 1, 1) := by decide +kernel
theorem dL_law_1089 : decode cL_law 1089 = .ok (.aload_n 0, 1) := by decide +kernel
theorem dL_law_1090 : decode cL_law 1090 = .ok (.iload_n 3, 1) := by decide +kernel
theorem dL_law_1091 : decode cL_law 1091 = .ok (.iconst 1, 1) := by decide +kernel
theorem dL_law_1092 : decode cL_law 1092 = .ok (.iadd, 1) := by decide +kernel
theorem dL_law_1093 : decode cL_law 1093 = .ok (.iaload, 1) := by decide +kernel
theorem dL_law_1094 : decode cL_law 1094 = .ok (.aload_n 0, 1) := by decide +kernel
theorem dL_law_1095 : decode cL_law 1095 = .ok (.iload_n 3, 1) := by decide +kernel
theorem dL_law_1096 : decode cL_law 1096 = .ok (.iconst 2, 1) := by decide +kernel
theorem dL_law_1097 : decode cL_law 1097 = .ok (.iadd, 1) := by decide +kernel
theorem dL_law_1098 : decode cL_law 1098 = .ok (.iaload, 1) := by decide +kernel
theorem dL_law_1099 : decode cL_law 1099 = .ok (.aload_n 0, 1) := by decide +kernel
theorem dL_law_1100 : decode cL_law 1100 = .ok (.iload_n 3, 1) := by decide +kernel
theorem dL_law_1101 : decode cL_law 1101 = .ok (.iconst 3, 1) := by decide +kernel
theorem dL_law_1102 : decode cL_law 1102 = .ok (.iadd, 1) := by decide +kernel
theorem dL_law_1103 : decode cL_law 1103 = .ok (.iaload, 1) := by decide +kernel
theorem dL_law_1104 : decode cL_law 1104 = .ok (.invokevirtual 141, 3) := by decide +kernel
theorem dL_law_1107 : decode cL_law 1107 = .ok (.aload_n 2, 1) := by decide +kernel
theorem dL_law_1108 : decode cL_law 1108 = .ok (.aload_n 0, 1) := by decide +kernel
theorem dL_law_1109 : decode cL_law 1109 = .ok (.iload_n 3, 1) := by decide +kernel
theorem dL_law_1110 : decode cL_law 1110 = .ok (.iconst 1, 1) := by decide +kernel
theorem dL_law_1111 : decode cL_law 1111 = .ok (.iadd, 1) := by decide +kernel
theorem dL_law_1112 : decode cL_law 1112 = .ok (.iaload, 1) := by decide +kernel
theorem dL_law_1113 : decode cL_law 1113 = .ok (.aload_n 0, 1) := by decide +kernel
theorem dL_law_1114 : decode cL_law 1114 = .ok (.iload_n 3, 1) := by decide +kernel
theorem dL_law_1115 : decode cL_law 1115 = .ok (.iconst 2, 1) := by decide +kernel
theorem dL_law_1116 : decode cL_law 1116 = .ok (.iadd, 1) := by decide +kernel
theorem dL_law_1117 : decode cL_law 1117 = .ok (.iaload, 1) := by decide +kernel
theorem dL_law_1118 : decode cL_law 1118 = .ok (.aload_n 0, 1) := by decide +kernel
theorem dL_law_1119 : decode cL_law 1119 = .ok (.iload_n 3, 1) := by decide +kernel
theorem dL_law_1120 : decode cL_law 1120 = .ok (.iconst 3, 1) := by decide +kernel
theorem dL_law_1121 : decode cL_law 1121 = .ok (.iadd, 1) := by decide +kernel
theorem dL_law_1122 : decode cL_law 1122 = .ok (.iaload, 1) := by decide +kernel
theorem dL_law_1123 : decode cL_law 1123 = .ok (.invokevirtual 144, 3) := by decide +kernel
theorem dL_law_1126 : decode cL_law 1126 = .ok (.if_icmp .eq 222, 3) := by decide +kernel
theorem dL_law_1129 : decode cL_law 1129 = .ok (.iconst 0, 1) := by decide +kernel
theorem dL_law_1130 : decode cL_law 1130 = .ok (.ireturn, 1) := by decide +kernel
theorem dL_law_1131 : decode cL_law 1131 = .ok (.aload_n 1, 1) := by decide +kernel
theorem dL_law_1132 : decode cL_law 1132 = .ok (.aload_n 0, 1) := by decide +kernel
theorem dL_law_1133 : decode cL_law 1133 = .ok (.iload_n 3, 1) := by decide +kernel
theorem dL_law_1134 : decode cL_law 1134 = .ok (.iconst 1, 1) := by decide +kernel
theorem dL_law_1135 : decode cL_law 1135 = .ok (.iadd, 1) := by decide +kernel
theorem dL_law_1136 : decode cL_law 1136 = .ok (.iaload, 1) := by decide +kernel
theorem dL_law_1137 : decode cL_law 1137 = .ok (.aload_n 0, 1) := by decide +kernel
theorem dL_law_1138 : decode cL_law 1138 = .ok (.iload_n 3, 1) := by decide +kernel
theorem dL_law_1139 : decode cL_law 1139 = .ok (.iconst 2, 1) := by decide +kernel
theorem dL_law_1140 : decode cL_law 1140 = .ok (.iadd, 1) := by decide +kernel
theorem dL_law_1141 : decode cL_law 1141 = .ok (.iaload, 1) := by decide +kernel
theorem dL_law_1142 : decode cL_law 1142 = .ok (.aload_n 0, 1) := by decide +kernel
theorem dL_law_1143 : decode cL_law 1143 = .ok (.iload_n 3, 1) := by decide +kernel
theorem dL_law_1144 : decode cL_law 1144 = .ok (.iconst 3, 1) := by decide +kernel
theorem dL_law_1145 : decode cL_law 1145 = .ok (.iadd, 1) := by decide +kernel
theorem dL_law_1146 : decode cL_law 1146 = .ok (.iaload, 1) := by decide +kernel
theorem dL_law_1147 : decode cL_law 1147 = .ok (.aload_n 0, 1) := by decide +kernel
theorem dL_law_1148 : decode cL_law 1148 = .ok (.iload_n 3, 1) := by decide +kernel
theorem dL_law_1149 : decode cL_law 1149 = .ok (.iconst 4, 1) := by decide +kernel
theorem dL_law_1150 : decode cL_law 1150 = .ok (.iadd, 1) := by decide +kernel
theorem dL_law_1151 : decode cL_law 1151 = .ok (.iaload, 1) := by decide +kernel
theorem dL_law_1152 : decode cL_law 1152 = .ok (.aload_n 0, 1) := by decide +kernel
theorem dL_law_1153 : decode cL_law 1153 = .ok (.iload_n 3, 1) := by decide +kernel
theorem dL_law_1154 : decode cL_law 1154 = .ok (.iconst 5, 1) := by decide +kernel
theorem dL_law_1155 : decode cL_law 1155 = .ok (.iadd, 1) := by decide +kernel
theorem dL_law_1156 : decode cL_law 1156 = .ok (.iaload, 1) := by decide +kernel
theorem dL_law_1157 : decode cL_law 1157 = .ok (.invokevirtual 145, 3) := by decide +kernel
theorem dL_law_1160 : decode cL_law 1160 = .ok (.aload_n 2, 1) := by decide +kernel
theorem dL_law_1161 : decode cL_law 1161 = .ok (.aload_n 0, 1) := by decide +kernel
theorem dL_law_1162 : decode cL_law 1162 = .ok (.iload_n 3, 1) := by decide +kernel
theorem dL_law_1163 : decode cL_law 1163 = .ok (.iconst 1, 1) := by decide +kernel
theorem dL_law_1164 : decode cL_law 1164 = .ok (.iadd, 1) := by decide +kernel
theorem dL_law_1165 : decode cL_law 1165 = .ok (.iaload, 1) := by decide +kernel
theorem dL_law_1166 : decode cL_law 1166 = .ok (.aload_n 0, 1) := by decide +kernel
theorem dL_law_1167 : decode cL_law 1167 = .ok (.iload_n 3, 1) := by decide +kernel
theorem dL_law_1168 : decode cL_law 1168 = .ok (.iconst 2, 1) := by decide +kernel
theorem dL_law_1169 : decode cL_law 1169 = .ok (.iadd, 1) := by decide +kernel
theorem dL_law_1170 : decode cL_law 1170 = .ok (.iaload, 1) := by decide +kernel
theorem dL_law_1171 : decode cL_law 1171 = .ok (.aload_n 0, 1) := by decide +kernel
theorem dL_law_1172 : decode cL_law 1172 = .ok (.iload_n 3, 1) := by decide +kernel
theorem dL_law_1173 : decode cL_law 1173 = .ok (.iconst 3, 1) := by decide +kernel
theorem dL_law_1174 : decode cL_law 1174 = .ok (.iadd, 1) := by decide +kernel
theorem dL_law_1175 : decode cL_law 1175 = .ok (.iaload, 1) := by decide +kernel
theorem dL_law_1176 : decode cL_law 1176 = .ok (.aload_n 0, 1) := by decide +kernel
theorem dL_law_1177 : decode cL_law 1177 = .ok (.iload_n 3, 1) := by decide +kernel
theorem dL_law_1178 : decode cL_law 1178 = .ok (.iconst 4, 1) := by decide +kernel
theorem dL_law_1179 : decode cL_law 1179 = .ok (.iadd, 1) := by decide +kernel
theorem dL_law_1180 : decode cL_law 1180 = .ok (.iaload, 1) := by decide +kernel
theorem dL_law_1181 : decode cL_law 1181 = .ok (.aload_n 0, 1) := by decide +kernel
theorem dL_law_1182 : decode cL_law 1182 = .ok (.iload_n 3, 1) := by decide +kernel
theorem dL_law_1183 : decode cL_law 1183 = .ok (.iconst 5, 1) := by decide +kernel
theorem dL_law_1184 : decode cL_law 1184 = .ok (.iadd, 1) := by decide +kernel
theorem dL_law_1185 : decode cL_law 1185 = .ok (.iaload, 1) := by decide +kernel
theorem dL_law_1186 : decode cL_law 1186 = .ok (.invokevirtual 149, 3) := by decide +kernel
theorem dL_law_1189 : decode cL_law 1189 = .ok (.if_icmp .eq 159, 3) := by decide +kernel
theorem dL_law_1192 : decode cL_law 1192 = .ok (.iconst 0, 1) := by decide +kernel
theorem dL_law_1193 : decode cL_law 1193 = .ok (.ireturn, 1) := by decide +kernel
theorem dL_law_1194 : decode cL_law 1194 = .ok (.aload_n 1, 1) := by decide +kernel
theorem dL_law_1195 : decode cL_law 1195 = .ok (.aload_n 0, 1) := by decide +kernel
theorem dL_law_1196 : decode cL_law 1196 = .ok (.iload_n 3, 1) := by decide +kernel
theorem dL_law_1197 : decode cL_law 1197 = .ok (.iconst 1, 1) := by decide +kernel
theorem dL_law_1198 : decode cL_law 1198 = .ok (.iadd, 1) := by decide +kernel
theorem dL_law_1199 : decode cL_law 1199 = .ok (.iaload, 1) := by decide +kernel
theorem dL_law_1200 : decode cL_law 1200 = .ok (.invokevirtual 150, 3) := by decide +kernel
theorem dL_law_1203 : decode cL_law 1203 = .ok (.aload_n 2, 1) := by decide +kernel
theorem dL_law_1204 : decode cL_law 1204 = .ok (.aload_n 0, 1) := by decide +kernel
theorem dL_law_1205 : decode cL_law 1205 = .ok (.iload_n 3, 1) := by decide +kernel
theorem dL_law_1206 : decode cL_law 1206 = .ok (.iconst 1, 1) := by decide +kernel
theorem dL_law_1207 : decode cL_law 1207 = .ok (.iadd, 1) := by decide +kernel
theorem dL_law_1208 : decode cL_law 1208 = .ok (.iaload, 1) := by decide +kernel
theorem dL_law_1209 : decode cL_law 1209 = .ok (.invokevirtual 153, 3) := by decide +kernel
theorem dL_law_1212 : decode cL_law 1212 = .ok (.if_icmp .eq 136, 3) := by decide +kernel
theorem dL_law_1215 : decode cL_law 1215 = .ok (.iconst 0, 1) := by decide +kernel
theorem dL_law_1216 : decode cL_law 1216 = .ok (.ireturn, 1) := by decide +kernel
theorem dL_law_1217 : decode cL_law 1217 = .ok (.aload_n 1, 1) := by decide +kernel
theorem dL_law_1218 : decode cL_law 1218 = .ok (.aload_n 0, 1) := by decide +kernel
theorem dL_law_1219 : decode cL_law 1219 = .ok (.iload_n 3, 1) := by decide +kernel
theorem dL_law_1220 : decode cL_law 1220 = .ok (.iconst 1, 1) := by decide +kernel
theorem dL_law_1221 : decode cL_law 1221 = .ok (.iadd, 1) := by decide +kernel
theorem dL_law_1222 : decode cL_law 1222 = .ok (.iaload, 1) := by decide +kernel
theorem dL_law_1223 : decode cL_law 1223 = .ok (.invokevirtual 154, 3) := by decide +kernel
theorem dL_law_1226 : decode cL_law 1226 = .ok (.aload_n 2, 1) := by decide +kernel
theorem dL_law_1227 : decode cL_law 1227 = .ok (.aload_n 0, 1) := by decide +kernel
theorem dL_law_1228 : decode cL_law 1228 = .ok (.iload_n 3, 1) := by decide +kernel
theorem dL_law_1229 : decode cL_law 1229 = .ok (.iconst 1, 1) := by decide +kernel
theorem dL_law_1230 : decode cL_law 1230 = .ok (.iadd, 1) := by decide +kernel
theorem dL_law_1231 : decode cL_law 1231 = .ok (.iaload, 1) := by decide +kernel
theorem dL_law_1232 : decode cL_law 1232 = .ok (.invokevirtual 157, 3) := by decide +kernel
theorem dL_law_1235 : decode cL_law 1235 = .ok (.if_icmp .eq 113, 3) := by decide +kernel
theorem dL_law_1238 : decode cL_law 1238 = .ok (.iconst 0, 1) := by decide +kernel
theorem dL_law_1239 : decode cL_law 1239 = .ok (.ireturn, 1) := by decide +kernel
theorem dL_law_1240 : decode cL_law 1240 = .ok (.aload_n 1, 1) := by decide +kernel
theorem dL_law_1241 : decode cL_law 1241 = .ok (.invokevirtual 158, 3) := by decide +kernel
theorem dL_law_1244 : decode cL_law 1244 = .ok (.aload_n 2, 1) := by decide +kernel
theorem dL_law_1245 : decode cL_law 1245 = .ok (.invokevirtual 161, 3) := by decide +kernel
theorem dL_law_1248 : decode cL_law 1248 = .ok (.if_icmp .eq 100, 3) := by decide +kernel
theorem dL_law_1251 : decode cL_law 1251 = .ok (.iconst 0, 1) := by decide +kernel
theorem dL_law_1252 : decode cL_law 1252 = .ok (.ireturn, 1) := by decide +kernel
theorem dL_law_1253 : decode cL_law 1253 = .ok (.aload_n 1, 1) := by decide +kernel
theorem dL_law_1254 : decode cL_law 1254 = .ok (.invokevirtual 162, 3) := by decide +kernel
theorem dL_law_1257 : decode cL_law 1257 = .ok (.aload_n 2, 1) := by decide +kernel
theorem dL_law_1258 : decode cL_law 1258 = .ok (.invokevirtual 165, 3) := by decide +kernel
theorem dL_law_1261 : decode cL_law 1261 = .ok (.if_icmp .eq 87, 3) := by decide +kernel
theorem dL_law_1264 : decode cL_law 1264 = .ok (.iconst 0, 1) := by decide +kernel
theorem dL_law_1265 : decode cL_law 1265 = .ok (.ireturn, 1) := by decide +kernel
theorem dL_law_1266 : decode cL_law 1266 = .ok (.aload_n 1, 1) := by decide +kernel
theorem dL_law_1267 : decode cL_law 1267 = .ok (.aload_n 0, 1) := by decide +kernel
theorem dL_law_1268 : decode cL_law 1268 = .ok (.iload_n 3, 1) := by decide +kernel
theorem dL_law_1269 : decode cL_law 1269 = .ok (.iconst 1, 1) := by decide +kernel
theorem dL_law_1270 : decode cL_law 1270 = .ok (.iadd, 1) := by decide +kernel
theorem dL_law_1271 : decode cL_law 1271 = .ok (.iaload, 1) := by decide +kernel
theorem dL_law_1272 : decode cL_law 1272 = .ok (.invokevirtual 166, 3) := by decide +kernel
theorem dL_law_1275 : decode cL_law 1275 = .ok (.aload_n 2, 1) := by decide +kernel
theorem dL_law_1276 : decode cL_law 1276 = .ok (.aload_n 0, 1) := by decide +kernel
theorem dL_law_1277 : decode cL_law 1277 = .ok (.iload_n 3, 1) := by decide +kernel
theorem dL_law_1278 : decode cL_law 1278 = .ok (.iconst 1, 1) := by decide +kernel
theorem dL_law_1279 : decode cL_law 1279 = .ok (.iadd, 1) := by decide +kernel
theorem dL_law_1280 : decode cL_law 1280 = .ok (.iaload, 1) := by decide +kernel
theorem dL_law_1281 : decode cL_law 1281 = .ok (.invokevirtual 169, 3) := by decide +kernel
theorem dL_law_1284 : decode cL_law 1284 = .ok (.if_icmp .eq 64, 3) := by decide +kernel
theorem dL_law_1287 : decode cL_law 1287 = .ok (.iconst 0, 1) := by decide +kernel
theorem dL_law_1288 : decode cL_law 1288 = .ok (.ireturn, 1) := by decide +kernel
theorem dL_law_1289 : decode cL_law 1289 = .ok (.aload_n 1, 1) := by decide +kernel
theorem dL_law_1290 : decode cL_law 1290 = .ok (.invokevirtual 170, 3) := by decide +kernel
theorem dL_law_1293 : decode cL_law 1293 = .ok (.aload_n 2, 1) := by decide +kernel
theorem dL_law_1294 : decode cL_law 1294 = .ok (.invokevirtual 173, 3) := by decide +kernel
theorem dL_law_1297 : decode cL_law 1297 = .ok (.if_icmp .eq 51, 3) := by decide +kernel
theorem dL_law_1300 : decode cL_law 1300 = .ok (.iconst 0, 1) := by decide +kernel
theorem dL_law_1301 : decode cL_law 1301 = .ok (.ireturn, 1) := by decide +kernel
theorem dL_law_1302 : decode cL_law 1302 = .ok (.aload_n 1, 1) := by decide +kernel
theorem dL_law_1303 : decode cL_law 1303 = .ok (.aload_n 0, 1) := by decide +kernel
theorem dL_law_1304 : decode cL_law 1304 = .ok (.iload_n 3, 1) := by decide +kernel
theorem dL_law_1305 : decode cL_law 1305 = .ok (.iconst 1, 1) := by decide +kernel
theorem dL_law_1306 : decode cL_law 1306 = .ok (.iadd, 1) := by decide +kernel
theorem dL_law_1307 : decode cL_law 1307 = .ok (.iaload, 1) := by decide +kernel
theorem dL_law_1308 : decode cL_law 1308 = .ok (.invokevirtual 174, 3) := by decide +kernel
theorem dL_law_1311 : decode cL_law 1311 = .ok (.aload_n 2, 1) := by decide +kernel
theorem dL_law_1312 : decode cL_law 1312 = .ok (.aload_n 0, 1) := by decide +kernel
theorem dL_law_1313 : decode cL_law 1313 = .ok (.iload_n 3, 1) := by decide +kernel
theorem dL_law_1314 : decode cL_law 1314 = .ok (.iconst 1, 1) := by decide +kernel
theorem dL_law_1315 : decode cL_law 1315 = .ok (.iadd, 1) := by decide +kernel
theorem dL_law_1316 : decode cL_law 1316 = .ok (.iaload, 1) := by decide +kernel
theorem dL_law_1317 : decode cL_law 1317 = .ok (.invokevirtual 177, 3) := by decide +kernel
theorem dL_law_1320 : decode cL_law 1320 = .ok (.if_icmp .eq 28, 3) := by decide +kernel
theorem dL_law_1323 : decode cL_law 1323 = .ok (.iconst 0, 1) := by decide +kernel
theorem dL_law_1324 : decode cL_law 1324 = .ok (.ireturn, 1) := by decide +kernel
theorem dL_law_1325 : decode cL_law 1325 = .ok (.aload_n 1, 1) := by decide +kernel
theorem dL_law_1326 : decode cL_law 1326 = .ok (.aload_n 0, 1) := by decide +kernel
theorem dL_law_1327 : decode cL_law 1327 = .ok (.iload_n 3, 1) := by decide +kernel
theorem dL_law_1328 : decode cL_law 1328 = .ok (.iconst 1, 1) := by decide +kernel
theorem dL_law_1329 : decode cL_law 1329 = .ok (.iadd, 1) := by decide +kernel
theorem dL_law_1330 : decode cL_law 1330 = .ok (.iaload, 1) := by decide +kernel
theorem dL_law_1331 : decode cL_law 1331 = .ok (.invokevirtual 178, 3) := by decide +kernel
theorem dL_law_1334 : decode cL_law 1334 = .ok (.aload_n 2, 1) := by decide +kernel
theorem dL_law_1335 : decode cL_law 1335 = .ok (.aload_n 0, 1) := by decide +kernel
theorem dL_law_1336 : decode cL_law 1336 = .ok (.iload_n 3, 1) := by decide +kernel
theorem dL_law_1337 : decode cL_law 1337 = .ok (.iconst 1, 1) := by decide +kernel
theorem dL_law_1338 : decode cL_law 1338 = .ok (.iadd, 1) := by decide +kernel
theorem dL_law_1339 : decode cL_law 1339 = .ok (.iaload, 1) := by decide +kernel
theorem dL_law_1340 : decode cL_law 1340 = .ok (.invokevirtual 181, 3) := by decide +kernel
theorem dL_law_1343 : decode cL_law 1343 = .ok (.if_icmp .eq 5, 3) := by decide +kernel
theorem dL_law_1346 : decode cL_law 1346 = .ok (.iconst 0, 1) := by decide +kernel
theorem dL_law_1347 : decode cL_law 1347 = .ok (.ireturn, 1) := by decide +kernel
theorem dL_law_1348 : decode cL_law 1348 = .ok (.iinc 3 6, 3) := by decide +kernel
theorem dL_law_1351 : decode cL_law 1351 = .ok (.goto (-1333), 3) := by decide +kernel
theorem dL_law_1354 : decode cL_law 1354 = .ok (.iconst 1, 1) := by decide +kernel
theorem dL_law_1355 : decode cL_law 1355 = .ok (.ireturn, 1) := by decide +kernel
end
section
/-! THE LOGIC: a method over a memory of numbered cells. A cell's number k stands for the address (size of the heap at the law's start) + k; all cells are made in one order, so numbers and shapes are fixed. -/
abbrev zz_G : Type := Nat → Nat → Int32
abbrev zz_R : Type := Nat → Nat → Option Nat
/-- launch, heap at the law's start, addresses of what stood there (strings, tables), numbers of classes, of array classes -/
abbrev zz_C : Type := Launch × Heap × (Nat → Nat) × va_G × (Nat → ClassId)
abbrev zz_M : Type := MethodName × ByteArray × Nat × Option FieldType
abbrev zz_Q : Type := Option Value → zz_G → zz_R → Nat → Prop
def zz_S (C : zz_C) : Nat := C.2.1.size
def zz_A (C : zz_C) (k : Nat) : Nat := if k < 1000000 then zz_S C + k else C.2.2.1 (k - 1000000)
def zz_v (C : zz_C) : Value → Value
  | .ref k => .ref (zz_A C k)
  | v => v
theorem zz_cat (C : zz_C) (v : Value) : (zz_v C v).category = v.category := by cases v <;> rfl
theorem zz_cats (C : zz_C) (st : List Value) : ((st.map (zz_v C)).map fun v => v.category) = st.map fun v => v.category := by
  rw [List.map_map]
  exact List.map_congr_left fun v _ => zz_cat C v
theorem zz_low {C : zz_C} {k : Nat} (h : k < 1000000) : zz_A C k = zz_S C + k := if_pos h
def zz_shB : List (Nat × Nat × Nat) := [(0, 0, 15), (1, 0, 5), (2, 3, 6), (1, 0, 5), (1, 0, 5), (1, 0, 5), (1, 0, 5), (1, 0, 5), (1, 0, 5), (2, 3, 10), (1, 0, 6), (1, 0, 6), (1, 0, 6), (1, 0, 6), (1, 0, 6), (1, 0, 6), (1, 0, 6), (1, 0, 6), (1, 0, 6), (1, 0, 6), (1, 0, 50), (2, 1, 2), (0, 8, 2), (1, 0, 50), (0, 8, 2), (1, 0, 50), (1, 0, 20)]
def zz_shl : List (Nat × Nat × Nat) := [(0, 11, 11)] ++ zz_shB ++ [(1, 0, 6), (2, 2, 7), (0, 10, 0), (0, 4, 0), (0, 1, 0), (0, 2, 0), (0, 6, 0), (0, 3, 0), (0, 7, 0), (0, 5, 5), (0, 8, 2), (1, 0, 50), (1, 0, 50), (0, 9, 4), (1, 0, 40), (2, 3, 4), (1, 0, 40), (1, 0, 40), (1, 0, 40), (1, 0, 40), (1, 0, 4), (1, 0, 4),
  (0, 12, 23), (1, 0, 276), (1, 0, 276), (1, 0, 276), (1, 0, 6), (1, 0, 4), (1, 0, 4), (1, 0, 160), (1, 0, 40), (1, 0, 40)] ++ zz_shB
/-- the shape of cell k: (0, class, fields), (1, 0, length) an array of ints, (2, kind, length) one of references -/
def zz_sh (k : Nat) : Nat × Nat × Nat := zz_shl.getD k (9, 0, 0)
/-- which fields are references -/
def zz_fr (ci j : Nat) : Bool := match ci with
  | 0 => j == 0 || j == 6 || j == 8 || j == 10 || j == 12 || j == 13
  | 5 => j == 0 || j == 1 || j == 4
  | 8 => j == 0
  | 9 => j == 0
  | 11 => !(j == 2)
  | 12 => j == 0 || j == 1 || j == 2 || j == 5 || j == 14 || j == 15 || j == 16 || j == 17 || j == 18
  | _ => false
def zz_fv (C : zz_C) (b : Bool) (x : Int32) (o : Option Nat) : Value := if b = true then va_rf (o.map (zz_A C)) else .int x
def zz_cel (C : zz_C) (sh : Nat × Nat × Nat) (g : Nat → Int32) (r : Nat → Option Nat) : va_E :=
  if sh.1 = 0 then .inr (sh.2.1, (List.range sh.2.2).map fun j => zz_fv C (zz_fr sh.2.1 j) (g j) (r j))
  else if sh.1 = 1 then .inl (C.2.2.2.2 0, sh.2.2, .inl g)
  else .inl (C.2.2.2.2 sh.2.1, sh.2.2, .inr (.inr (.inr (.inr fun j => (r j).map (zz_A C)))))
/-- the heap holds n cells with these numbers and references; what stood there before stands -/
def zz_W (C : zz_C) (g : zz_G) (r : zz_R) (n : Nat) (H : Heap) : Prop :=
  H.size = zz_S C + n ∧ n < 1000000 ∧ (∀ k, k < n → va_at C.2.2.2.1 vwCl (zz_S C + k, zz_cel C (zz_sh k) (g k) (r k)) H) ∧ ∀ q, q < zz_S C → H[q]? = C.2.1[q]?
def zz_ty (C : zz_C) : List (ClassId × FieldType) := [(C.2.2.2.2 0, .int), (C.2.2.2.2 1, .object "SixFigures$Text"), (C.2.2.2.2 2, .object "SixFigures$Way"), (C.2.2.2.2 3, .array .int)]
def zz_tbl : List Cond := lw_tbl.filter goodWord
theorem zz_in {w : Cond} (i : Nat) (h : lw_tbl[i]? = some w) (hg : goodWord w = true) : w ∈ zz_tbl := List.mem_filter.mpr ⟨List.mem_of_getElem? h, hg⟩
def zz_old (C : zz_C) : Nat → Prop := fun q => zz_S C ≤ q
/-- what stood there before: tables, strings -/
def zz_ext (C : zz_C) (U : State) : Prop :=
  (va_Z "SixFigures" "RULE_LEAST" "[I" (.ref (C.2.2.1 0)) (zz_old C) U C.2.1 ∧ va_Z "SixFigures" "RULE_MOST" "[I" (.ref (C.2.2.1 1)) (zz_old C) U C.2.1 ∧ va_Z "SixFigures" "ABOVE" "[I" (.ref (C.2.2.1 2)) (zz_old C) U C.2.1 ∧ va_Z "java/lang/String" "COMPACT_STRINGS" "Z" (.int 1) (zz_old C) U C.2.1) ∧
  (va_T .int (C.2.2.1 0) 5 (fun j => .int (([1, 1, 1, 1, 0] : List Int32).getD j 0)) (zz_old C) U C.2.1 ∧ va_T .int (C.2.2.1 1) 5 (fun j => .int (([6, 300, 9, 9999, 1] : List Int32).getD j 0)) (zz_old C) U C.2.1 ∧ va_T .int (C.2.2.1 2) 7 (fun j => .int (([-1, 0, 0, 0, 1, 2, 3] : List Int32).getD j 0)) (zz_old C) U C.2.1) ∧
  vk_S 3 [3, 3, 0] [[109, 107, 115], [102, 103, 119], []] (fun i => C.2.2.1 (10 + i)) (fun i => C.2.2.1 (20 + i)) (zz_old C) U C.2.1 ∧
  (vk_R "SixFigures" 148 "mks" (C.2.2.1 10) U ∧ vk_R "SixFigures" 150 "fgw" (C.2.2.1 11) U ∧ vk_R "SixFigures$Reader" 25 "" (C.2.2.1 12) U)
def zz_nest : List (String × Nat × MethodName) := [("SixFigures", 29, yX10_init), ("SixFigures", 32, yX4_init), ("SixFigures", 35, yX1_init), ("SixFigures", 38, yX2_init), ("SixFigures", 41, yX6_init), ("SixFigures", 44, yX3_init), ("SixFigures", 47, yX7_init), ("SixFigures", 69, yX9_init), ("SixFigures", 9, yX0_init), ("SixFigures$Book", 53, yX8_init), ("SixFigures$Card", 1, yX10_init), ("SixFigures$CodeList", 1, yX10_init), ("SixFigures$Grid", 1, yX1_init), ("SixFigures$Phone", 1, yX10_init), ("SixFigures$Reader", 11, yX8_init), ("SixFigures$Shared", 1, yX4_init), ("SixFigures$Spare", 1, yX2_init)]
def zz_K (C : zz_C) (U : State) : Prop := va_K C.2.2.2.1 vwCl (zz_ty C) U ∧ (∀ q ∈ zz_nest, va_Nw (.methodLinkNest q.1 q.2.1 q.2.2 "SixFigures") U) ∧ zz_ext C U ∧ (va_AO "SixFigures$Text" U ∧ va_AO "SixFigures$Way" U)
theorem zz_ext.warm {C : zz_C} {s U : State} (hW : s.WarmedH U.vm) (h : zz_ext C s) : zz_ext C U := by
  obtain ⟨⟨a1, a2, a3, a4⟩, ⟨b1, b2, b3⟩, c1, d1, d2, d3⟩ := h
  exact ⟨⟨a1.moved hW.alike, a2.moved hW.alike, a3.moved hW.alike, a4.moved hW.alike⟩, ⟨b1.moved hW.alike, b2.moved hW.alike, b3.moved hW.alike⟩, c1.moved hW.alike, d1.warm hW, d2.warm hW, d3.warm hW⟩
theorem zz_K.warm {C : zz_C} {s U : State} (hW : s.WarmedH U.vm) (h : zz_K C s) : zz_K C U :=
  ⟨va_K.moved hW.alike h.1, fun q hq => va_Nw.warmM hW (h.2.1 q hq), h.2.2.1.warm hW, h.2.2.2.1.moved hW.alike, h.2.2.2.2.moved hW.alike⟩
theorem zz_ext.same {C : zz_C} {u U : State} (hv : u.vm = U.vm) (h : zz_ext C u) : zz_ext C U := by
  obtain ⟨⟨a1, a2, a3, a4⟩, ⟨b1, b2, b3⟩, c1, d1, d2, d3⟩ := h
  have hA : u.vm.Alike U.vm := by rw [hv]; exact Vm.Alike.refl _
  exact ⟨⟨a1.moved hA, a2.moved hA, a3.moved hA, a4.moved hA⟩, ⟨b1.moved hA, b2.moved hA, b3.moved hA⟩, c1.moved hA, d1.same hv.symm, d2.same hv.symm, d3.same hv.symm⟩
theorem zz_K.same {C : zz_C} {u U : State} (hv : u.vm = U.vm) (h : zz_K C u) : zz_K C U := by
  have hA : u.vm.Alike U.vm := by rw [hv]; exact Vm.Alike.refl _
  exact ⟨va_K.moved hA h.1, fun q hq => va_Nw.same rfl hv (h.2.1 q hq), h.2.2.1.same hv, h.2.2.2.1.moved hA, h.2.2.2.2.moved hA⟩
def zz_ws (M : zz_M) : List Cond := Cond.code M.1 M.2.1 M.2.2.1 M.2.2.2 :: zz_tbl
def zz_rm (d mc ms : Nat) : Room := { frames := d, cells := mc, slots := ms, locals := 40 * d }
def zz_F (C : zz_C) (M : zz_M) (p : Program) (s : State) (m : MethodId) (args : Array Value) (meth : Method) (c : Code) : Prop :=
  (p.tables.exec = Jvm.exec ∧ c.code = M.2.1 ∧ meth.sig.returnType = M.2.2.2 ∧ meth.locks = false ∧ c.maxLocals = M.2.2.1 ∧ s.vm.findClass M.1.cls = some m.cls ∧ meth.name = M.1.name) ∧ (∀ w ∈ zz_tbl, w.before args s = true) ∧ zz_K C s ∧ zz_S C ≤ s.heap.size ∧ ∀ q, q < zz_S C → s.heap[q]? = C.2.1[q]?
def zz_l (C : zz_C) (ls : Array Slot) (nL : Nat) (L : List (Option Value)) : Prop := ls.size = nL ∧ lv_wf ls ∧ ∀ (i : Nat) (v : Value), L[i]? = some (some v) → ls[i]? = some (Slot.val (zz_v C v))
def zz_end (C : zz_C) (Q : zz_Q) : Array Value → State → Outcome → State → Prop := fun _ _ oc t => ∃ v g r n, oc = .returned (v.map (zz_v C)) ∧ Q v g r n ∧ zz_W C g r n t.heap
/-- METHOD M, at pc, locals L, stack st, memory (g, r, n): it comes to its end, and Q holds there. d: frames that may lie above; mc, ms: cells and slots it may make; kc, ks: made so far -/
def zz_Z (C : zz_C) (M : zz_M) (d mc ms kc ks pc : Nat) (L : List (Option Value)) (st : List Value) (g : zz_G) (r : zz_R) (n : Nat) (Q : zz_Q) : Prop :=
  ∀ (p : Program) (e : Env) (s : State) (m : MethodId) (args : Array Value) (below : List Frame) (meth : Method) (c : Code) (H : Heap) (locs : List Loc) (ls : Array Slot),
    zz_F C M p s m args meth c → zz_W C g r n H → (∀ q ∈ locs, zz_old C q.base) → zz_l C ls M.2.2.1 L →
    W p C.1 e (zz_rm d mc ms) s m args below meth c H locs kc ks (MQ below (zz_end C Q) args s mc ms (zz_old C)) (F0 m pc ls (st.map (zz_v C)))
/-- a call of M with these arguments in this memory -/
def zz_T (C : zz_C) (M : zz_M) (d mc ms : Nat) (as : List Value) (g : zz_G) (r : zz_R) (n : Nat) (Q : zz_Q) : Prop :=
  Met C.1 M.1 (zz_ws M) (zz_rm d mc ms) (va_Pc (as.map (zz_v C)) (fun U => zz_W C g r n U.heap ∧ zz_K C U)) (zz_end C Q) mc ms (zz_old C)
/-- the locals at a method's entry -/
def zz_e : List Value → List (Option Value)
  | [] => []
  | v :: t => if v.category = 2 then some v :: none :: zz_e t else some v :: zz_e t
theorem zz_e_args (C : zz_C) : ∀ (as : List Value) (b i : Nat) (v : Value), (zz_e as)[i]? = some (some v) → (b + i, zz_v C v) ∈ lv_args b (as.map (zz_v C)) := by
  intro as
  induction as with
  | nil => intro b i v h; simp [zz_e] at h
  | cons a t ih =>
    intro b i v h
    rw [List.map_cons, lv_args, zz_cat]
    by_cases hc : a.category = 2
    · rw [if_pos hc]
      simp only [zz_e, if_pos hc] at h
      match i, h with
      | 0, h =>
        simp only [List.getElem?_cons_zero, Option.some.injEq] at h
        subst h
        exact List.mem_cons_self
      | 1, h => simp at h
      | i + 2, h =>
        have h2 := ih (b + 2) i v (by simpa using h)
        rw [show b + 2 + i = b + (i + 2) by omega] at h2
        exact List.mem_cons_of_mem _ h2
    · rw [if_neg hc]
      simp only [zz_e, if_neg hc] at h
      match i, h with
      | 0, h =>
        simp only [List.getElem?_cons_zero, Option.some.injEq] at h
        subst h
        exact List.mem_cons_self
      | i + 1, h =>
        have h2 := ih (b + 1) i v (by simpa using h)
        rw [show b + 1 + i = b + (i + 1) by omega] at h2
        exact List.mem_cons_of_mem _ h2
theorem zz_l_entry (C : zz_C) (as : List Value) {nL : Nat} {L : List (Option Value)} (hL : L = zz_e as ++ List.replicate (nL - (zz_e as).length) none) (hn : (lg_sl (as.map (zz_v C))).length ≤ nL) :
    zz_l C ((lg_sl (as.map (zz_v C)) ++ List.replicate (nL - (lg_sl (as.map (zz_v C))).length) Slot.unset).toArray) nL L := by
  have h := lv_entry (as.map (zz_v C)) hn
  refine ⟨h.1, h.2.1, fun i v hi => ?_⟩
  rw [hL] at hi
  by_cases hlt : i < (zz_e as).length
  · rw [List.getElem?_append_left hlt] at hi
    have := zz_e_args C as 0 i v hi
    rw [Nat.zero_add] at this
    exact h.2.2 _ this
  · rw [List.getElem?_append_right (Nat.le_of_not_lt hlt)] at hi
    have := List.mem_of_getElem? hi
    rw [List.mem_replicate] at this
    cases this.2
/-- a method's contract out of the walk of its body -/
theorem zz_T.of {C : zz_C} {M : zz_M} {d mc ms : Nat} {as : List Value} {g : zz_G} {r : zz_R} {n : Nat} {Q : zz_Q} (L : List (Option Value)) (hp : plainName M.1.cls = true) (hL : L = zz_e as ++ List.replicate (M.2.2.1 - (zz_e as).length) none) (hn : (as.map fun v => v.category).sum ≤ M.2.2.1)
    (h : zz_Z C M d mc ms 0 0 0 L [] g r n Q) : zz_T C M d mc ms as g r n Q := by
  refine Met.ofW (cc := M.2.1) (maxL := M.2.2.1) (ret := M.2.2.2) hp rfl ?_
  intro p e s m args below meth c s₁ B hml hv
  obtain ⟨rfl, hW, hK⟩ := hv
  have hts := atoms_spec (ws := zz_ws M) B.pre
  have hl : (lg_sl (as.map (zz_v C))).length ≤ M.2.2.1 := by
    have e : ∀ l : List Value, (lg_sl (l.map (zz_v C))).length = (l.map fun v => v.category).sum := by
      intro l
      induction l with
      | nil => rfl
      | cons a t ih =>
        simp only [lg_sl, List.map_cons, List.flatMap_cons, List.length_append, List.sum_cons] at ih ⊢
        rw [ih, zz_cat]
        rcases lv_cat a with h | h <;> simp [h]
    rw [e]
    exact hn
  rw [lg_entry_eq]
  exact h p e s m _ below meth c s.heap [] _ ⟨⟨B.exec, B.bytes, B.returns, B.notSynchronized, hml, findClass_of_methodNamed B.named, (name_of_methodNamed B.named B.method).1⟩, fun w hw => hts w (List.mem_cons_of_mem _ hw), hK, by rw [hW.1]; exact Nat.le_add_right _ _, hW.2.2.2⟩ hW (fun q hq => by cases hq) (zz_l_entry C as hL hl)
end
section
section ZZ
variable {C : zz_C} {M : zz_M} {d mc ms kc ks pc : Nat} {L : List (Option Value)} {st : List Value} {g : zz_G} {r : zz_R} {n : Nat} {Q : zz_Q}
variable {x y : Int32} {u v : Int64}
theorem zz_iconst {i : Int} (v : Int32) (hd : decode M.2.1 pc = .ok (.iconst i, 1)) (hv : Int32.ofInt i = v) (k : zz_Z C M d mc ms kc ks (pc + 1) L (.int v :: st) g r n Q) : zz_Z C M d mc ms kc ks pc L st g r n Q := by
  intro p e s m args below meth c H locs ls hF hW hl hL
  exact lv_iconst hF.1.1 hF.1.2.1 hd hv (k p e s m args below meth c H locs ls hF hW hl hL)
theorem zz_bipush {i : Int} (v : Int32) (hd : decode M.2.1 pc = .ok (.bipush i, 2)) (hv : (Int8.ofInt i).toInt32 = v) (k : zz_Z C M d mc ms kc ks (pc + 2) L (.int v :: st) g r n Q) : zz_Z C M d mc ms kc ks pc L st g r n Q := by
  intro p e s m args below meth c H locs ls hF hW hl hL
  exact lv_bipush hF.1.1 hF.1.2.1 hd hv (k p e s m args below meth c H locs ls hF hW hl hL)
theorem zz_sipush {i : Int} (v : Int32) (hd : decode M.2.1 pc = .ok (.sipush i, 3)) (hv : (Int16.ofInt i).toInt32 = v) (k : zz_Z C M d mc ms kc ks (pc + 3) L (.int v :: st) g r n Q) : zz_Z C M d mc ms kc ks pc L st g r n Q := by
  intro p e s m args below meth c H locs ls hF hW hl hL
  exact lv_sipush hF.1.1 hF.1.2.1 hd hv (k p e s m args below meth c H locs ls hF hW hl hL)
theorem zz_null (hd : decode M.2.1 pc = .ok (.aconst_null, 1)) (k : zz_Z C M d mc ms kc ks (pc + 1) L (.null :: st) g r n Q) : zz_Z C M d mc ms kc ks pc L st g r n Q := by
  intro p e s m args below meth c H locs ls hF hW hl hL
  exact lv_null hF.1.1 hF.1.2.1 hd (k p e s m args below meth c H locs ls hF hW hl hL)
theorem zz_ldc {ix : Nat} {v : Int32} (hd : decode M.2.1 pc = .ok (.ldc ix, 2)) (hc : Cond.constant M.1.cls ix v ∈ zz_tbl) (k : zz_Z C M d mc ms kc ks (pc + 2) L (.int v :: st) g r n Q) : zz_Z C M d mc ms kc ks pc L st g r n Q := by
  intro p e s m args below meth c H locs ls hF hW hl hL
  exact lv_ldc hF.1.1 hF.1.2.1 hF.1.2.2.2.2.2.1 (hF.2.1 _ hc) hd (k p e s m args below meth c H locs ls hF hW hl hL)
theorem zz_ldc2 {ix : Nat} {v : Int64} (hd : decode M.2.1 pc = .ok (.ldc2_w ix, 3)) (hc : Cond.constantLong M.1.cls ix v ∈ zz_tbl) (k : zz_Z C M d mc ms kc ks (pc + 3) L (.long v :: st) g r n Q) : zz_Z C M d mc ms kc ks pc L st g r n Q := by
  intro p e s m args below meth c H locs ls hF hW hl hL
  exact lv_ldc2 hF.1.1 hF.1.2.1 hF.1.2.2.2.2.2.1 (hF.2.1 _ hc) hd (k p e s m args below meth c H locs ls hF hW hl hL)
theorem zz_iadd (hd : decode M.2.1 pc = .ok (.iadd, 1)) (k : zz_Z C M d mc ms kc ks (pc + 1) L (.int (x + y) :: st) g r n Q) : zz_Z C M d mc ms kc ks pc L (.int y :: .int x :: st) g r n Q := by
  intro p e s m args below meth c H locs ls hF hW hl hL
  exact lv_iadd (rest := st.map (zz_v C)) hF.1.1 hF.1.2.1 hd (k p e s m args below meth c H locs ls hF hW hl hL)
theorem zz_isub (hd : decode M.2.1 pc = .ok (.isub, 1)) (k : zz_Z C M d mc ms kc ks (pc + 1) L (.int (x - y) :: st) g r n Q) : zz_Z C M d mc ms kc ks pc L (.int y :: .int x :: st) g r n Q := by
  intro p e s m args below meth c H locs ls hF hW hl hL
  exact lv_isub (rest := st.map (zz_v C)) hF.1.1 hF.1.2.1 hd (k p e s m args below meth c H locs ls hF hW hl hL)
theorem zz_imul (hd : decode M.2.1 pc = .ok (.imul, 1)) (k : zz_Z C M d mc ms kc ks (pc + 1) L (.int (x * y) :: st) g r n Q) : zz_Z C M d mc ms kc ks pc L (.int y :: .int x :: st) g r n Q := by
  intro p e s m args below meth c H locs ls hF hW hl hL
  exact lv_imul (rest := st.map (zz_v C)) hF.1.1 hF.1.2.1 hd (k p e s m args below meth c H locs ls hF hW hl hL)
theorem zz_iand (hd : decode M.2.1 pc = .ok (.iand, 1)) (k : zz_Z C M d mc ms kc ks (pc + 1) L (.int (x &&& y) :: st) g r n Q) : zz_Z C M d mc ms kc ks pc L (.int y :: .int x :: st) g r n Q := by
  intro p e s m args below meth c H locs ls hF hW hl hL
  exact lv_iand (rest := st.map (zz_v C)) hF.1.1 hF.1.2.1 hd (k p e s m args below meth c H locs ls hF hW hl hL)
theorem zz_ior (hd : decode M.2.1 pc = .ok (.ior, 1)) (k : zz_Z C M d mc ms kc ks (pc + 1) L (.int (x ||| y) :: st) g r n Q) : zz_Z C M d mc ms kc ks pc L (.int y :: .int x :: st) g r n Q := by
  intro p e s m args below meth c H locs ls hF hW hl hL
  exact lv_ior (rest := st.map (zz_v C)) hF.1.1 hF.1.2.1 hd (k p e s m args below meth c H locs ls hF hW hl hL)
theorem zz_ixor (hd : decode M.2.1 pc = .ok (.ixor, 1)) (k : zz_Z C M d mc ms kc ks (pc + 1) L (.int (x ^^^ y) :: st) g r n Q) : zz_Z C M d mc ms kc ks pc L (.int y :: .int x :: st) g r n Q := by
  intro p e s m args below meth c H locs ls hF hW hl hL
  exact lv_ixor (rest := st.map (zz_v C)) hF.1.1 hF.1.2.1 hd (k p e s m args below meth c H locs ls hF hW hl hL)
theorem zz_ineg (hd : decode M.2.1 pc = .ok (.ineg, 1)) (k : zz_Z C M d mc ms kc ks (pc + 1) L (.int (-x) :: st) g r n Q) : zz_Z C M d mc ms kc ks pc L (.int x :: st) g r n Q := by
  intro p e s m args below meth c H locs ls hF hW hl hL
  exact lv_ineg (rest := st.map (zz_v C)) hF.1.1 hF.1.2.1 hd (k p e s m args below meth c H locs ls hF hW hl hL)
theorem zz_idiv (hd : decode M.2.1 pc = .ok (.idiv, 1)) (hne : ¬ y = 0) (k : zz_Z C M d mc ms kc ks (pc + 1) L (.int (x / y) :: st) g r n Q) : zz_Z C M d mc ms kc ks pc L (.int y :: .int x :: st) g r n Q := by
  intro p e s m args below meth c H locs ls hF hW hl hL
  exact lv_idiv (rest := st.map (zz_v C)) hF.1.1 hF.1.2.1 hd hne (k p e s m args below meth c H locs ls hF hW hl hL)
theorem zz_irem (hd : decode M.2.1 pc = .ok (.irem, 1)) (hne : ¬ y = 0) (k : zz_Z C M d mc ms kc ks (pc + 1) L (.int (x - x / y * y) :: st) g r n Q) : zz_Z C M d mc ms kc ks pc L (.int y :: .int x :: st) g r n Q := by
  intro p e s m args below meth c H locs ls hF hW hl hL
  exact lv_irem (rest := st.map (zz_v C)) hF.1.1 hF.1.2.1 hd hne (k p e s m args below meth c H locs ls hF hW hl hL)
theorem zz_ishl (hd : decode M.2.1 pc = .ok (.ishl, 1)) (k : zz_Z C M d mc ms kc ks (pc + 1) L (.int (x <<< (y &&& 31)) :: st) g r n Q) : zz_Z C M d mc ms kc ks pc L (.int y :: .int x :: st) g r n Q := by
  intro p e s m args below meth c H locs ls hF hW hl hL
  exact lv_ishl (rest := st.map (zz_v C)) hF.1.1 hF.1.2.1 hd (k p e s m args below meth c H locs ls hF hW hl hL)
theorem zz_ishr (hd : decode M.2.1 pc = .ok (.ishr, 1)) (k : zz_Z C M d mc ms kc ks (pc + 1) L (.int (x >>> (y &&& 31)) :: st) g r n Q) : zz_Z C M d mc ms kc ks pc L (.int y :: .int x :: st) g r n Q := by
  intro p e s m args below meth c H locs ls hF hW hl hL
  exact lv_ishr (rest := st.map (zz_v C)) hF.1.1 hF.1.2.1 hd (k p e s m args below meth c H locs ls hF hW hl hL)
theorem zz_iushr (hd : decode M.2.1 pc = .ok (.iushr, 1)) (k : zz_Z C M d mc ms kc ks (pc + 1) L (.int (x.toUInt32 >>> (y.toUInt32 &&& Int32.toUInt32 31)).toInt32 :: st) g r n Q) : zz_Z C M d mc ms kc ks pc L (.int y :: .int x :: st) g r n Q := by
  intro p e s m args below meth c H locs ls hF hW hl hL
  exact lv_iushr (rest := st.map (zz_v C)) hF.1.1 hF.1.2.1 hd rfl (k p e s m args below meth c H locs ls hF hW hl hL)
theorem zz_i2l (hd : decode M.2.1 pc = .ok (.i2l, 1)) (k : zz_Z C M d mc ms kc ks (pc + 1) L (.long x.toInt64 :: st) g r n Q) : zz_Z C M d mc ms kc ks pc L (.int x :: st) g r n Q := by
  intro p e s m args below meth c H locs ls hF hW hl hL
  exact lv_i2l (rest := st.map (zz_v C)) hF.1.1 hF.1.2.1 hd rfl (k p e s m args below meth c H locs ls hF hW hl hL)
theorem zz_l2i (hd : decode M.2.1 pc = .ok (.l2i, 1)) (k : zz_Z C M d mc ms kc ks (pc + 1) L (.int u.toInt32 :: st) g r n Q) : zz_Z C M d mc ms kc ks pc L (.long u :: st) g r n Q := by
  intro p e s m args below meth c H locs ls hF hW hl hL
  exact lv_l2i (rest := st.map (zz_v C)) hF.1.1 hF.1.2.1 hd rfl (k p e s m args below meth c H locs ls hF hW hl hL)
theorem zz_i2b (hd : decode M.2.1 pc = .ok (.i2b, 1)) (k : zz_Z C M d mc ms kc ks (pc + 1) L (.int x.toInt8.toInt32 :: st) g r n Q) : zz_Z C M d mc ms kc ks pc L (.int x :: st) g r n Q := by
  intro p e s m args below meth c H locs ls hF hW hl hL
  exact lv_i2b (rest := st.map (zz_v C)) hF.1.1 hF.1.2.1 hd rfl (k p e s m args below meth c H locs ls hF hW hl hL)
theorem zz_i2s (hd : decode M.2.1 pc = .ok (.i2s, 1)) (k : zz_Z C M d mc ms kc ks (pc + 1) L (.int x.toInt16.toInt32 :: st) g r n Q) : zz_Z C M d mc ms kc ks pc L (.int x :: st) g r n Q := by
  intro p e s m args below meth c H locs ls hF hW hl hL
  exact lv_i2s (rest := st.map (zz_v C)) hF.1.1 hF.1.2.1 hd rfl (k p e s m args below meth c H locs ls hF hW hl hL)
theorem zz_i2c (hd : decode M.2.1 pc = .ok (.i2c, 1)) (k : zz_Z C M d mc ms kc ks (pc + 1) L (.int (x.toUInt32 % 65536).toInt32 :: st) g r n Q) : zz_Z C M d mc ms kc ks pc L (.int x :: st) g r n Q := by
  intro p e s m args below meth c H locs ls hF hW hl hL
  exact lv_i2c (rest := st.map (zz_v C)) hF.1.1 hF.1.2.1 hd rfl (k p e s m args below meth c H locs ls hF hW hl hL)
theorem zz_lushr (hd : decode M.2.1 pc = .ok (.lushr, 1)) (k : zz_Z C M d mc ms kc ks (pc + 1) L (.long (u.toUInt64 >>> (y.toInt64.toUInt64 &&& Int64.toUInt64 63)).toInt64 :: st) g r n Q) : zz_Z C M d mc ms kc ks pc L (.int y :: .long u :: st) g r n Q := by
  intro p e s m args below meth c H locs ls hF hW hl hL
  exact lv_lushr (rest := st.map (zz_v C)) hF.1.1 hF.1.2.1 hd rfl (k p e s m args below meth c H locs ls hF hW hl hL)
theorem zz_lshr (hd : decode M.2.1 pc = .ok (.lshr, 1)) (k : zz_Z C M d mc ms kc ks (pc + 1) L (.long (u >>> (y.toInt64 &&& 63)) :: st) g r n Q) : zz_Z C M d mc ms kc ks pc L (.int y :: .long u :: st) g r n Q := by
  intro p e s m args below meth c H locs ls hF hW hl hL
  exact lv_lshr (rest := st.map (zz_v C)) hF.1.1 hF.1.2.1 hd rfl (k p e s m args below meth c H locs ls hF hW hl hL)
theorem zz_lshl (hd : decode M.2.1 pc = .ok (.lshl, 1)) (k : zz_Z C M d mc ms kc ks (pc + 1) L (.long (u <<< (y.toInt64 &&& 63)) :: st) g r n Q) : zz_Z C M d mc ms kc ks pc L (.int y :: .long u :: st) g r n Q := by
  intro p e s m args below meth c H locs ls hF hW hl hL
  exact lv_lshl (rest := st.map (zz_v C)) hF.1.1 hF.1.2.1 hd rfl (k p e s m args below meth c H locs ls hF hW hl hL)
theorem zz_land (hd : decode M.2.1 pc = .ok (.land, 1)) (k : zz_Z C M d mc ms kc ks (pc + 1) L (.long (u &&& v) :: st) g r n Q) : zz_Z C M d mc ms kc ks pc L (.long v :: .long u :: st) g r n Q := by
  intro p e s m args below meth c H locs ls hF hW hl hL
  exact lv_land (rest := st.map (zz_v C)) hF.1.1 hF.1.2.1 hd (k p e s m args below meth c H locs ls hF hW hl hL)
theorem zz_lor (hd : decode M.2.1 pc = .ok (.lor, 1)) (k : zz_Z C M d mc ms kc ks (pc + 1) L (.long (u ||| v) :: st) g r n Q) : zz_Z C M d mc ms kc ks pc L (.long v :: .long u :: st) g r n Q := by
  intro p e s m args below meth c H locs ls hF hW hl hL
  exact lv_lor (rest := st.map (zz_v C)) hF.1.1 hF.1.2.1 hd (k p e s m args below meth c H locs ls hF hW hl hL)
theorem zz_dup {a : Value} (hd : decode M.2.1 pc = .ok (.dup, 1)) (ha : a.category = 1) (k : zz_Z C M d mc ms kc ks (pc + 1) L (a :: a :: st) g r n Q) : zz_Z C M d mc ms kc ks pc L (a :: st) g r n Q := by
  intro p e s m args below meth c H locs ls hF hW hl hL
  exact lv_dup (va := zz_v C a) (rest := st.map (zz_v C)) hF.1.1 hF.1.2.1 hd (by rw [zz_cat]; exact ha) (k p e s m args below meth c H locs ls hF hW hl hL)
theorem zz_pop {a : Value} (hd : decode M.2.1 pc = .ok (.pop, 1)) (ha : a.category = 1) (k : zz_Z C M d mc ms kc ks (pc + 1) L st g r n Q) : zz_Z C M d mc ms kc ks pc L (a :: st) g r n Q := by
  intro p e s m args below meth c H locs ls hF hW hl hL
  exact lv_pop (va := zz_v C a) (rest := st.map (zz_v C)) hF.1.1 hF.1.2.1 hd (by rw [zz_cat]; exact ha) (k p e s m args below meth c H locs ls hF hW hl hL)
theorem zz_dup2 {a b : Value} (hd : decode M.2.1 pc = .ok (.dup2, 1)) (ha : a.category = 1) (hb : b.category = 1) (k : zz_Z C M d mc ms kc ks (pc + 1) L (a :: b :: a :: b :: st) g r n Q) : zz_Z C M d mc ms kc ks pc L (a :: b :: st) g r n Q := by
  intro p e s m args below meth c H locs ls hF hW hl hL
  exact lv_dup2_11 (va := zz_v C a) (vb := zz_v C b) (rest := st.map (zz_v C)) hF.1.1 hF.1.2.1 hd (by rw [zz_cat]; exact ha) (by rw [zz_cat]; exact hb) (k p e s m args below meth c H locs ls hF hW hl hL)
theorem zz_if_eq {off : Int} (tgt : Nat) (hd : decode M.2.1 pc = .ok (.ifCond .eq off, 3)) (ht : (pc : Int) + off = (tgt : Int)) (kt : x = 0 → zz_Z C M d mc ms kc ks tgt L st g r n Q) (kf : ¬ x = 0 → zz_Z C M d mc ms kc ks (pc + 3) L st g r n Q) : zz_Z C M d mc ms kc ks pc L (.int x :: st) g r n Q := by
  intro p e s m args below meth c H locs ls hF hW hl hL
  exact lv_if_eq (rest := st.map (zz_v C)) hF.1.1 hF.1.2.1 hd ht (fun h => kt h p e s m args below meth c H locs ls hF hW hl hL) (fun h => kf h p e s m args below meth c H locs ls hF hW hl hL)
theorem zz_icmp_eq {off : Int} (tgt : Nat) (hd : decode M.2.1 pc = .ok (.if_icmp .eq off, 3)) (ht : (pc : Int) + off = (tgt : Int)) (kt : x = y → zz_Z C M d mc ms kc ks tgt L st g r n Q) (kf : ¬ x = y → zz_Z C M d mc ms kc ks (pc + 3) L st g r n Q) : zz_Z C M d mc ms kc ks pc L (.int y :: .int x :: st) g r n Q := by
  intro p e s m args below meth c H locs ls hF hW hl hL
  exact lv_icmp_eq (rest := st.map (zz_v C)) hF.1.1 hF.1.2.1 hd ht (fun h => kt h p e s m args below meth c H locs ls hF hW hl hL) (fun h => kf h p e s m args below meth c H locs ls hF hW hl hL)
theorem zz_if_ne {off : Int} (tgt : Nat) (hd : decode M.2.1 pc = .ok (.ifCond .ne off, 3)) (ht : (pc : Int) + off = (tgt : Int)) (kt : ¬ x = 0 → zz_Z C M d mc ms kc ks tgt L st g r n Q) (kf : x = 0 → zz_Z C M d mc ms kc ks (pc + 3) L st g r n Q) : zz_Z C M d mc ms kc ks pc L (.int x :: st) g r n Q := by
  intro p e s m args below meth c H locs ls hF hW hl hL
  exact lv_if_ne (rest := st.map (zz_v C)) hF.1.1 hF.1.2.1 hd ht (fun h => kt h p e s m args below meth c H locs ls hF hW hl hL) (fun h => kf h p e s m args below meth c H locs ls hF hW hl hL)
theorem zz_icmp_ne {off : Int} (tgt : Nat) (hd : decode M.2.1 pc = .ok (.if_icmp .ne off, 3)) (ht : (pc : Int) + off = (tgt : Int)) (kt : ¬ x = y → zz_Z C M d mc ms kc ks tgt L st g r n Q) (kf : x = y → zz_Z C M d mc ms kc ks (pc + 3) L st g r n Q) : zz_Z C M d mc ms kc ks pc L (.int y :: .int x :: st) g r n Q := by
  intro p e s m args below meth c H locs ls hF hW hl hL
  exact lv_icmp_ne (rest := st.map (zz_v C)) hF.1.1 hF.1.2.1 hd ht (fun h => kt h p e s m args below meth c H locs ls hF hW hl hL) (fun h => kf h p e s m args below meth c H locs ls hF hW hl hL)
theorem zz_if_lt {off : Int} (tgt : Nat) (hd : decode M.2.1 pc = .ok (.ifCond .lt off, 3)) (ht : (pc : Int) + off = (tgt : Int)) (kt : x < 0 → zz_Z C M d mc ms kc ks tgt L st g r n Q) (kf : ¬ x < 0 → zz_Z C M d mc ms kc ks (pc + 3) L st g r n Q) : zz_Z C M d mc ms kc ks pc L (.int x :: st) g r n Q := by
  intro p e s m args below meth c H locs ls hF hW hl hL
  exact lv_if_lt (rest := st.map (zz_v C)) hF.1.1 hF.1.2.1 hd ht (fun h => kt h p e s m args below meth c H locs ls hF hW hl hL) (fun h => kf h p e s m args below meth c H locs ls hF hW hl hL)
theorem zz_icmp_lt {off : Int} (tgt : Nat) (hd : decode M.2.1 pc = .ok (.if_icmp .lt off, 3)) (ht : (pc : Int) + off = (tgt : Int)) (kt : x < y → zz_Z C M d mc ms kc ks tgt L st g r n Q) (kf : ¬ x < y → zz_Z C M d mc ms kc ks (pc + 3) L st g r n Q) : zz_Z C M d mc ms kc ks pc L (.int y :: .int x :: st) g r n Q := by
  intro p e s m args below meth c H locs ls hF hW hl hL
  exact lv_icmp_lt (rest := st.map (zz_v C)) hF.1.1 hF.1.2.1 hd ht (fun h => kt h p e s m args below meth c H locs ls hF hW hl hL) (fun h => kf h p e s m args below meth c H locs ls hF hW hl hL)
theorem zz_if_ge {off : Int} (tgt : Nat) (hd : decode M.2.1 pc = .ok (.ifCond .ge off, 3)) (ht : (pc : Int) + off = (tgt : Int)) (kt : 0 ≤ x → zz_Z C M d mc ms kc ks tgt L st g r n Q) (kf : ¬ 0 ≤ x → zz_Z C M d mc ms kc ks (pc + 3) L st g r n Q) : zz_Z C M d mc ms kc ks pc L (.int x :: st) g r n Q := by
  intro p e s m args below meth c H locs ls hF hW hl hL
  exact lv_if_ge (rest := st.map (zz_v C)) hF.1.1 hF.1.2.1 hd ht (fun h => kt h p e s m args below meth c H locs ls hF hW hl hL) (fun h => kf h p e s m args below meth c H locs ls hF hW hl hL)
theorem zz_icmp_ge {off : Int} (tgt : Nat) (hd : decode M.2.1 pc = .ok (.if_icmp .ge off, 3)) (ht : (pc : Int) + off = (tgt : Int)) (kt : y ≤ x → zz_Z C M d mc ms kc ks tgt L st g r n Q) (kf : ¬ y ≤ x → zz_Z C M d mc ms kc ks (pc + 3) L st g r n Q) : zz_Z C M d mc ms kc ks pc L (.int y :: .int x :: st) g r n Q := by
  intro p e s m args below meth c H locs ls hF hW hl hL
  exact lv_icmp_ge (rest := st.map (zz_v C)) hF.1.1 hF.1.2.1 hd ht (fun h => kt h p e s m args below meth c H locs ls hF hW hl hL) (fun h => kf h p e s m args below meth c H locs ls hF hW hl hL)
theorem zz_if_gt {off : Int} (tgt : Nat) (hd : decode M.2.1 pc = .ok (.ifCond .gt off, 3)) (ht : (pc : Int) + off = (tgt : Int)) (kt : 0 < x → zz_Z C M d mc ms kc ks tgt L st g r n Q) (kf : ¬ 0 < x → zz_Z C M d mc ms kc ks (pc + 3) L st g r n Q) : zz_Z C M d mc ms kc ks pc L (.int x :: st) g r n Q := by
  intro p e s m args below meth c H locs ls hF hW hl hL
  exact lv_if_gt (rest := st.map (zz_v C)) hF.1.1 hF.1.2.1 hd ht (fun h => kt h p e s m args below meth c H locs ls hF hW hl hL) (fun h => kf h p e s m args below meth c H locs ls hF hW hl hL)
theorem zz_icmp_gt {off : Int} (tgt : Nat) (hd : decode M.2.1 pc = .ok (.if_icmp .gt off, 3)) (ht : (pc : Int) + off = (tgt : Int)) (kt : y < x → zz_Z C M d mc ms kc ks tgt L st g r n Q) (kf : ¬ y < x → zz_Z C M d mc ms kc ks (pc + 3) L st g r n Q) : zz_Z C M d mc ms kc ks pc L (.int y :: .int x :: st) g r n Q := by
  intro p e s m args below meth c H locs ls hF hW hl hL
  exact lv_icmp_gt (rest := st.map (zz_v C)) hF.1.1 hF.1.2.1 hd ht (fun h => kt h p e s m args below meth c H locs ls hF hW hl hL) (fun h => kf h p e s m args below meth c H locs ls hF hW hl hL)
theorem zz_if_le {off : Int} (tgt : Nat) (hd : decode M.2.1 pc = .ok (.ifCond .le off, 3)) (ht : (pc : Int) + off = (tgt : Int)) (kt : x ≤ 0 → zz_Z C M d mc ms kc ks tgt L st g r n Q) (kf : ¬ x ≤ 0 → zz_Z C M d mc ms kc ks (pc + 3) L st g r n Q) : zz_Z C M d mc ms kc ks pc L (.int x :: st) g r n Q := by
  intro p e s m args below meth c H locs ls hF hW hl hL
  exact lv_if_le (rest := st.map (zz_v C)) hF.1.1 hF.1.2.1 hd ht (fun h => kt h p e s m args below meth c H locs ls hF hW hl hL) (fun h => kf h p e s m args below meth c H locs ls hF hW hl hL)
theorem zz_icmp_le {off : Int} (tgt : Nat) (hd : decode M.2.1 pc = .ok (.if_icmp .le off, 3)) (ht : (pc : Int) + off = (tgt : Int)) (kt : x ≤ y → zz_Z C M d mc ms kc ks tgt L st g r n Q) (kf : ¬ x ≤ y → zz_Z C M d mc ms kc ks (pc + 3) L st g r n Q) : zz_Z C M d mc ms kc ks pc L (.int y :: .int x :: st) g r n Q := by
  intro p e s m args below meth c H locs ls hF hW hl hL
  exact lv_icmp_le (rest := st.map (zz_v C)) hF.1.1 hF.1.2.1 hd ht (fun h => kt h p e s m args below meth c H locs ls hF hW hl hL) (fun h => kf h p e s m args below meth c H locs ls hF hW hl hL)
theorem zz_goto {off : Int} (tgt : Nat) (hd : decode M.2.1 pc = .ok (.goto off, 3)) (ht : (pc : Int) + off = (tgt : Int)) (k : zz_Z C M d mc ms kc ks tgt L st g r n Q) : zz_Z C M d mc ms kc ks pc L st g r n Q := by
  intro p e s m args below meth c H locs ls hF hW hl hL
  exact lv_goto hF.1.1 hF.1.2.1 hd ht (k p e s m args below meth c H locs ls hF hW hl hL)
theorem zz_ifnonnull {off : Int} {a : Nat} (tgt : Nat) (hd : decode M.2.1 pc = .ok (.ifnonnull off, 3)) (ht : (pc : Int) + off = (tgt : Int)) (k : zz_Z C M d mc ms kc ks tgt L st g r n Q) : zz_Z C M d mc ms kc ks pc L (.ref a :: st) g r n Q := by
  intro p e s m args below meth c H locs ls hF hW hl hL
  exact lv_ifnonnull (rest := st.map (zz_v C)) hF.1.1 hF.1.2.1 hd ht (k p e s m args below meth c H locs ls hF hW hl hL)
theorem zz_ifnonnullN {off : Int} (hd : decode M.2.1 pc = .ok (.ifnonnull off, 3)) (k : zz_Z C M d mc ms kc ks (pc + 3) L st g r n Q) : zz_Z C M d mc ms kc ks pc L (.null :: st) g r n Q := by
  intro p e s m args below meth c H locs ls hF hW hl hL
  exact lv_ifnonnullN (rest := st.map (zz_v C)) hF.1.1 hF.1.2.1 hd (k p e s m args below meth c H locs ls hF hW hl hL)
theorem zz_tableOut {dflt lo hi : Int} {offs : Array Int} {len : Nat} (tgt : Nat) (hd : decode M.2.1 pc = .ok (.tableswitch dflt lo hi offs, len)) (h : x.toInt < lo ∨ hi < x.toInt) (ht : (pc : Int) + dflt = (tgt : Int)) (k : zz_Z C M d mc ms kc ks tgt L st g r n Q) : zz_Z C M d mc ms kc ks pc L (.int x :: st) g r n Q := by
  intro p e s m args below meth c H locs ls hF hW hl hL
  exact lv_tableOut (rest := st.map (zz_v C)) hF.1.1 hF.1.2.1 hd h ht (k p e s m args below meth c H locs ls hF hW hl hL)
theorem zz_tableIn {dflt lo hi off : Int} {offs : Array Int} {len : Nat} (tgt : Nat) (hd : decode M.2.1 pc = .ok (.tableswitch dflt lo hi offs, len)) (h1 : ¬ x.toInt < lo) (h2 : ¬ hi < x.toInt) (ho : offs[(x.toInt - lo).toNat]? = some off) (ht : (pc : Int) + off = (tgt : Int)) (k : zz_Z C M d mc ms kc ks tgt L st g r n Q) : zz_Z C M d mc ms kc ks pc L (.int x :: st) g r n Q := by
  intro p e s m args below meth c H locs ls hF hW hl hL
  exact lv_tableIn (rest := st.map (zz_v C)) hF.1.1 hF.1.2.1 hd h1 h2 ho ht (k p e s m args below meth c H locs ls hF hW hl hL)
theorem zz_lookup {dflt off : Int} {ps : Array (Int × Int)} {len : Nat} (tgt : Nat) (hd : decode M.2.1 pc = .ok (.lookupswitch dflt ps, len)) (hp : (ps.toList.zip (ps.toList.drop 1)).all (fun (a, next) => a.1 < next.1) = true) (ho : Op.lookupswitch.offset ps.toList dflt x.toInt = off) (ht : (pc : Int) + off = (tgt : Int)) (k : zz_Z C M d mc ms kc ks tgt L st g r n Q) : zz_Z C M d mc ms kc ks pc L (.int x :: st) g r n Q := by
  intro p e s m args below meth c H locs ls hF hW hl hL
  exact lv_lookup (rest := st.map (zz_v C)) hF.1.1 hF.1.2.1 hd hp ho ht (k p e s m args below meth c H locs ls hF hW hl hL)
def zz_as (C : zz_C) (L : List (Option Value)) : List (Nat × Value) := L.zipIdx.filterMap fun q => q.1.map fun v => (q.2, zz_v C v)
theorem zz_as_in {i : Nat} {w : Value} (h : L[i]? = some (some w)) : (i, zz_v C w) ∈ zz_as C L := by
  refine List.mem_filterMap.mpr ⟨(some w, i), ?_, rfl⟩
  exact List.mk_mem_zipIdx_iff_getElem?.mpr h
theorem zz_as_of {q : Nat × Value} (h : q ∈ zz_as C L) : ∃ w, L[q.1]? = some (some w) ∧ q.2 = zz_v C w := by
  obtain ⟨⟨o, i⟩, h1, h2⟩ := List.mem_filterMap.mp h
  have h3 := List.mk_mem_zipIdx_iff_getElem?.mp h1
  cases o with
  | none => cases h2
  | some w =>
    cases h2
    exact ⟨w, h3, rfl⟩
theorem zz_l_has {ls : Array Slot} {nL : Nat} (h : zz_l C ls nL L) : lv_has ls nL (zz_as C L) := by
  refine ⟨h.1, h.2.1, fun q hq => ?_⟩
  obtain ⟨w, h1, h2⟩ := zz_as_of hq
  rw [h2]
  exact h.2.2 q.1 w h1
def zz_ok1 : Option Value → Bool
  | some w => w.category == 1
  | none => true
theorem zz_l_set {ls' : Array Slot} {nL i : Nat} {w : Value} (hL : L.length = nL) (hc : i = 0 ∨ ∀ o, L[i - 1]? = some o → zz_ok1 o = true) (h : lv_has ls' nL ((i, zz_v C w) :: (zz_as C L).filter (fun q => !(q.1 == i) && !(q.1 + 1 == i && q.2.category == 2)))) : zz_l C ls' nL (L.set i (some w)) := by
  refine ⟨h.1, h.2.1, fun j z hj => ?_⟩
  by_cases hji : j = i
  · subst hji
    have hlt : j < L.length := by
      have := (List.getElem?_eq_some_iff.mp hj).1
      simpa using this
    rw [List.getElem?_set_self hlt] at hj
    have hw : w = z := Option.some.inj (Option.some.inj hj)
    rw [← hw]
    exact h.2.2 (j, zz_v C w) List.mem_cons_self
  · rw [List.getElem?_set_ne (Ne.symm hji)] at hj
    refine h.2.2 (j, zz_v C z) (List.mem_cons_of_mem _ (List.mem_filter.mpr ⟨zz_as_in hj, ?_⟩))
    have h1 : (j == i) = false := by simpa using hji
    rcases hc with hc | hc
    · have h2 : (j + 1 == i) = false := by simp; omega
      simp [h1, h2]
    · by_cases h3 : j + 1 = i
      · have h4 : j = i - 1 := by omega
        rw [h4] at hj
        have h5 := hc _ hj
        simp only [zz_ok1, beq_iff_eq] at h5
        simp [h1, zz_cat, h5]
      · have h2 : (j + 1 == i) = false := by simpa using h3
        simp [h1, h2]
theorem zz_iload_0 {t : List (Option Value)} (hd : decode M.2.1 pc = .ok (.iload_n 0, 1)) (k : zz_Z C M d mc ms kc ks (pc + 1) (some (.int x) :: t) (.int x :: st) g r n Q) : zz_Z C M d mc ms kc ks pc (some (.int x) :: t) st g r n Q := by
  intro p e s m args below meth c H locs ls hF hW hl hL
  exact lv_iload_n (x := x) hF.1.1 hF.1.2.1 hd (i := 0) rfl (hL.2.2 0 _ rfl) (k p e s m args below meth c H locs ls hF hW hl hL)
theorem zz_iload_1 {a0 : Option Value} {t : List (Option Value)} (hd : decode M.2.1 pc = .ok (.iload_n 1, 1)) (k : zz_Z C M d mc ms kc ks (pc + 1) (a0 :: some (.int x) :: t) (.int x :: st) g r n Q) : zz_Z C M d mc ms kc ks pc (a0 :: some (.int x) :: t) st g r n Q := by
  intro p e s m args below meth c H locs ls hF hW hl hL
  exact lv_iload_n (x := x) hF.1.1 hF.1.2.1 hd (i := 1) rfl (hL.2.2 1 _ rfl) (k p e s m args below meth c H locs ls hF hW hl hL)
theorem zz_iload_2 {a0 a1 : Option Value} {t : List (Option Value)} (hd : decode M.2.1 pc = .ok (.iload_n 2, 1)) (k : zz_Z C M d mc ms kc ks (pc + 1) (a0 :: a1 :: some (.int x) :: t) (.int x :: st) g r n Q) : zz_Z C M d mc ms kc ks pc (a0 :: a1 :: some (.int x) :: t) st g r n Q := by
  intro p e s m args below meth c H locs ls hF hW hl hL
  exact lv_iload_n (x := x) hF.1.1 hF.1.2.1 hd (i := 2) rfl (hL.2.2 2 _ rfl) (k p e s m args below meth c H locs ls hF hW hl hL)
theorem zz_iload_3 {a0 a1 a2 : Option Value} {t : List (Option Value)} (hd : decode M.2.1 pc = .ok (.iload_n 3, 1)) (k : zz_Z C M d mc ms kc ks (pc + 1) (a0 :: a1 :: a2 :: some (.int x) :: t) (.int x :: st) g r n Q) : zz_Z C M d mc ms kc ks pc (a0 :: a1 :: a2 :: some (.int x) :: t) st g r n Q := by
  intro p e s m args below meth c H locs ls hF hW hl hL
  exact lv_iload_n (x := x) hF.1.1 hF.1.2.1 hd (i := 3) rfl (hL.2.2 3 _ rfl) (k p e s m args below meth c H locs ls hF hW hl hL)
theorem zz_iload_4 {a0 a1 a2 a3 : Option Value} {t : List (Option Value)} (hd : decode M.2.1 pc = .ok (.iload 4, 2)) (k : zz_Z C M d mc ms kc ks (pc + 2) (a0 :: a1 :: a2 :: a3 :: some (.int x) :: t) (.int x :: st) g r n Q) : zz_Z C M d mc ms kc ks pc (a0 :: a1 :: a2 :: a3 :: some (.int x) :: t) st g r n Q := by
  intro p e s m args below meth c H locs ls hF hW hl hL
  exact lv_iload (x := x) hF.1.1 hF.1.2.1 hd (hL.2.2 4 _ rfl) (k p e s m args below meth c H locs ls hF hW hl hL)
theorem zz_iload_5 {a0 a1 a2 a3 a4 : Option Value} {t : List (Option Value)} (hd : decode M.2.1 pc = .ok (.iload 5, 2)) (k : zz_Z C M d mc ms kc ks (pc + 2) (a0 :: a1 :: a2 :: a3 :: a4 :: some (.int x) :: t) (.int x :: st) g r n Q) : zz_Z C M d mc ms kc ks pc (a0 :: a1 :: a2 :: a3 :: a4 :: some (.int x) :: t) st g r n Q := by
  intro p e s m args below meth c H locs ls hF hW hl hL
  exact lv_iload (x := x) hF.1.1 hF.1.2.1 hd (hL.2.2 5 _ rfl) (k p e s m args below meth c H locs ls hF hW hl hL)
theorem zz_iload_6 {a0 a1 a2 a3 a4 a5 : Option Value} {t : List (Option Value)} (hd : decode M.2.1 pc = .ok (.iload 6, 2)) (k : zz_Z C M d mc ms kc ks (pc + 2) (a0 :: a1 :: a2 :: a3 :: a4 :: a5 :: some (.int x) :: t) (.int x :: st) g r n Q) : zz_Z C M d mc ms kc ks pc (a0 :: a1 :: a2 :: a3 :: a4 :: a5 :: some (.int x) :: t) st g r n Q := by
  intro p e s m args below meth c H locs ls hF hW hl hL
  exact lv_iload (x := x) hF.1.1 hF.1.2.1 hd (hL.2.2 6 _ rfl) (k p e s m args below meth c H locs ls hF hW hl hL)
theorem zz_iload_7 {a0 a1 a2 a3 a4 a5 a6 : Option Value} {t : List (Option Value)} (hd : decode M.2.1 pc = .ok (.iload 7, 2)) (k : zz_Z C M d mc ms kc ks (pc + 2) (a0 :: a1 :: a2 :: a3 :: a4 :: a5 :: a6 :: some (.int x) :: t) (.int x :: st) g r n Q) : zz_Z C M d mc ms kc ks pc (a0 :: a1 :: a2 :: a3 :: a4 :: a5 :: a6 :: some (.int x) :: t) st g r n Q := by
  intro p e s m args below meth c H locs ls hF hW hl hL
  exact lv_iload (x := x) hF.1.1 hF.1.2.1 hd (hL.2.2 7 _ rfl) (k p e s m args below meth c H locs ls hF hW hl hL)
theorem zz_iload_8 {a0 a1 a2 a3 a4 a5 a6 a7 : Option Value} {t : List (Option Value)} (hd : decode M.2.1 pc = .ok (.iload 8, 2)) (k : zz_Z C M d mc ms kc ks (pc + 2) (a0 :: a1 :: a2 :: a3 :: a4 :: a5 :: a6 :: a7 :: some (.int x) :: t) (.int x :: st) g r n Q) : zz_Z C M d mc ms kc ks pc (a0 :: a1 :: a2 :: a3 :: a4 :: a5 :: a6 :: a7 :: some (.int x) :: t) st g r n Q := by
  intro p e s m args below meth c H locs ls hF hW hl hL
  exact lv_iload (x := x) hF.1.1 hF.1.2.1 hd (hL.2.2 8 _ rfl) (k p e s m args below meth c H locs ls hF hW hl hL)
theorem zz_iload_9 {a0 a1 a2 a3 a4 a5 a6 a7 a8 : Option Value} {t : List (Option Value)} (hd : decode M.2.1 pc = .ok (.iload 9, 2)) (k : zz_Z C M d mc ms kc ks (pc + 2) (a0 :: a1 :: a2 :: a3 :: a4 :: a5 :: a6 :: a7 :: a8 :: some (.int x) :: t) (.int x :: st) g r n Q) : zz_Z C M d mc ms kc ks pc (a0 :: a1 :: a2 :: a3 :: a4 :: a5 :: a6 :: a7 :: a8 :: some (.int x) :: t) st g r n Q := by
  intro p e s m args below meth c H locs ls hF hW hl hL
  exact lv_iload (x := x) hF.1.1 hF.1.2.1 hd (hL.2.2 9 _ rfl) (k p e s m args below meth c H locs ls hF hW hl hL)
theorem zz_iload_10 {a0 a1 a2 a3 a4 a5 a6 a7 a8 a9 : Option Value} {t : List (Option Value)} (hd : decode M.2.1 pc = .ok (.iload 10, 2)) (k : zz_Z C M d mc ms kc ks (pc + 2) (a0 :: a1 :: a2 :: a3 :: a4 :: a5 :: a6 :: a7 :: a8 :: a9 :: some (.int x) :: t) (.int x :: st) g r n Q) : zz_Z C M d mc ms kc ks pc (a0 :: a1 :: a2 :: a3 :: a4 :: a5 :: a6 :: a7 :: a8 :: a9 :: some (.int x) :: t) st g r n Q := by
  intro p e s m args below meth c H locs ls hF hW hl hL
  exact lv_iload (x := x) hF.1.1 hF.1.2.1 hd (hL.2.2 10 _ rfl) (k p e s m args below meth c H locs ls hF hW hl hL)
theorem zz_iload_11 {a0 a1 a2 a3 a4 a5 a6 a7 a8 a9 a10 : Option Value} {t : List (Option Value)} (hd : decode M.2.1 pc = .ok (.iload 11, 2)) (k : zz_Z C M d mc ms kc ks (pc + 2) (a0 :: a1 :: a2 :: a3 :: a4 :: a5 :: a6 :: a7 :: a8 :: a9 :: a10 :: some (.int x) :: t) (.int x :: st) g r n Q) : zz_Z C M d mc ms kc ks pc (a0 :: a1 :: a2 :: a3 :: a4 :: a5 :: a6 :: a7 :: a8 :: a9 :: a10 :: some (.int x) :: t) st g r n Q := by
  intro p e s m args below meth c H locs ls hF hW hl hL
  exact lv_iload (x := x) hF.1.1 hF.1.2.1 hd (hL.2.2 11 _ rfl) (k p e s m args below meth c H locs ls hF hW hl hL)
theorem zz_iload_12 {a0 a1 a2 a3 a4 a5 a6 a7 a8 a9 a10 a11 : Option Value} {t : List (Option Value)} (hd : decode M.2.1 pc = .ok (.iload 12, 2)) (k : zz_Z C M d mc ms kc ks (pc + 2) (a0 :: a1 :: a2 :: a3 :: a4 :: a5 :: a6 :: a7 :: a8 :: a9 :: a10 :: a11 :: some (.int x) :: t) (.int x :: st) g r n Q) : zz_Z C M d mc ms kc ks pc (a0 :: a1 :: a2 :: a3 :: a4 :: a5 :: a6 :: a7 :: a8 :: a9 :: a10 :: a11 :: some (.int x) :: t) st g r n Q := by
  intro p e s m args below meth c H locs ls hF hW hl hL
  exact lv_iload (x := x) hF.1.1 hF.1.2.1 hd (hL.2.2 12 _ rfl) (k p e s m args below meth c H locs ls hF hW hl hL)
theorem zz_iload_13 {a0 a1 a2 a3 a4 a5 a6 a7 a8 a9 a10 a11 a12 : Option Value} {t : List (Option Value)} (hd : decode M.2.1 pc = .ok (.iload 13, 2)) (k : zz_Z C M d mc ms kc ks (pc + 2) (a0 :: a1 :: a2 :: a3 :: a4 :: a5 :: a6 :: a7 :: a8 :: a9 :: a10 :: a11 :: a12 :: some (.int x) :: t) (.int x :: st) g r n Q) : zz_Z C M d mc ms kc ks pc (a0 :: a1 :: a2 :: a3 :: a4 :: a5 :: a6 :: a7 :: a8 :: a9 :: a10 :: a11 :: a12 :: some (.int x) :: t) st g r n Q := by
  intro p e s m args below meth c H locs ls hF hW hl hL
  exact lv_iload (x := x) hF.1.1 hF.1.2.1 hd (hL.2.2 13 _ rfl) (k p e s m args below meth c H locs ls hF hW hl hL)
theorem zz_aload_0 {a : Nat} {t : List (Option Value)} (hd : decode M.2.1 pc = .ok (.aload_n 0, 1)) (k : zz_Z C M d mc ms kc ks (pc + 1) (some (.ref a) :: t) (.ref a :: st) g r n Q) : zz_Z C M d mc ms kc ks pc (some (.ref a) :: t) st g r n Q := by
  intro p e s m args below meth c H locs ls hF hW hl hL
  exact lv_aload_n (x := zz_A C a) hF.1.1 hF.1.2.1 hd (i := 0) rfl (hL.2.2 0 _ rfl) (k p e s m args below meth c H locs ls hF hW hl hL)
theorem zz_aload_1 {a0 : Option Value} {a : Nat} {t : List (Option Value)} (hd : decode M.2.1 pc = .ok (.aload_n 1, 1)) (k : zz_Z C M d mc ms kc ks (pc + 1) (a0 :: some (.ref a) :: t) (.ref a :: st) g r n Q) : zz_Z C M d mc ms kc ks pc (a0 :: some (.ref a) :: t) st g r n Q := by
  intro p e s m args below meth c H locs ls hF hW hl hL
  exact lv_aload_n (x := zz_A C a) hF.1.1 hF.1.2.1 hd (i := 1) rfl (hL.2.2 1 _ rfl) (k p e s m args below meth c H locs ls hF hW hl hL)
theorem zz_aload_2 {a0 a1 : Option Value} {a : Nat} {t : List (Option Value)} (hd : decode M.2.1 pc = .ok (.aload_n 2, 1)) (k : zz_Z C M d mc ms kc ks (pc + 1) (a0 :: a1 :: some (.ref a) :: t) (.ref a :: st) g r n Q) : zz_Z C M d mc ms kc ks pc (a0 :: a1 :: some (.ref a) :: t) st g r n Q := by
  intro p e s m args below meth c H locs ls hF hW hl hL
  exact lv_aload_n (x := zz_A C a) hF.1.1 hF.1.2.1 hd (i := 2) rfl (hL.2.2 2 _ rfl) (k p e s m args below meth c H locs ls hF hW hl hL)
theorem zz_aload_3 {a0 a1 a2 : Option Value} {a : Nat} {t : List (Option Value)} (hd : decode M.2.1 pc = .ok (.aload_n 3, 1)) (k : zz_Z C M d mc ms kc ks (pc + 1) (a0 :: a1 :: a2 :: some (.ref a) :: t) (.ref a :: st) g r n Q) : zz_Z C M d mc ms kc ks pc (a0 :: a1 :: a2 :: some (.ref a) :: t) st g r n Q := by
  intro p e s m args below meth c H locs ls hF hW hl hL
  exact lv_aload_n (x := zz_A C a) hF.1.1 hF.1.2.1 hd (i := 3) rfl (hL.2.2 3 _ rfl) (k p e s m args below meth c H locs ls hF hW hl hL)
theorem zz_aload_4 {a0 a1 a2 a3 : Option Value} {a : Nat} {t : List (Option Value)} (hd : decode M.2.1 pc = .ok (.aload 4, 2)) (k : zz_Z C M d mc ms kc ks (pc + 2) (a0 :: a1 :: a2 :: a3 :: some (.ref a) :: t) (.ref a :: st) g r n Q) : zz_Z C M d mc ms kc ks pc (a0 :: a1 :: a2 :: a3 :: some (.ref a) :: t) st g r n Q := by
  intro p e s m args below meth c H locs ls hF hW hl hL
  exact lv_aload (x := zz_A C a) hF.1.1 hF.1.2.1 hd (hL.2.2 4 _ rfl) (k p e s m args below meth c H locs ls hF hW hl hL)
theorem zz_aload_5 {a0 a1 a2 a3 a4 : Option Value} {a : Nat} {t : List (Option Value)} (hd : decode M.2.1 pc = .ok (.aload 5, 2)) (k : zz_Z C M d mc ms kc ks (pc + 2) (a0 :: a1 :: a2 :: a3 :: a4 :: some (.ref a) :: t) (.ref a :: st) g r n Q) : zz_Z C M d mc ms kc ks pc (a0 :: a1 :: a2 :: a3 :: a4 :: some (.ref a) :: t) st g r n Q := by
  intro p e s m args below meth c H locs ls hF hW hl hL
  exact lv_aload (x := zz_A C a) hF.1.1 hF.1.2.1 hd (hL.2.2 5 _ rfl) (k p e s m args below meth c H locs ls hF hW hl hL)
theorem zz_aload_6 {a0 a1 a2 a3 a4 a5 : Option Value} {a : Nat} {t : List (Option Value)} (hd : decode M.2.1 pc = .ok (.aload 6, 2)) (k : zz_Z C M d mc ms kc ks (pc + 2) (a0 :: a1 :: a2 :: a3 :: a4 :: a5 :: some (.ref a) :: t) (.ref a :: st) g r n Q) : zz_Z C M d mc ms kc ks pc (a0 :: a1 :: a2 :: a3 :: a4 :: a5 :: some (.ref a) :: t) st g r n Q := by
  intro p e s m args below meth c H locs ls hF hW hl hL
  exact lv_aload (x := zz_A C a) hF.1.1 hF.1.2.1 hd (hL.2.2 6 _ rfl) (k p e s m args below meth c H locs ls hF hW hl hL)
theorem zz_aload_7 {a0 a1 a2 a3 a4 a5 a6 : Option Value} {a : Nat} {t : List (Option Value)} (hd : decode M.2.1 pc = .ok (.aload 7, 2)) (k : zz_Z C M d mc ms kc ks (pc + 2) (a0 :: a1 :: a2 :: a3 :: a4 :: a5 :: a6 :: some (.ref a) :: t) (.ref a :: st) g r n Q) : zz_Z C M d mc ms kc ks pc (a0 :: a1 :: a2 :: a3 :: a4 :: a5 :: a6 :: some (.ref a) :: t) st g r n Q := by
  intro p e s m args below meth c H locs ls hF hW hl hL
  exact lv_aload (x := zz_A C a) hF.1.1 hF.1.2.1 hd (hL.2.2 7 _ rfl) (k p e s m args below meth c H locs ls hF hW hl hL)
theorem zz_aload_8 {a0 a1 a2 a3 a4 a5 a6 a7 : Option Value} {a : Nat} {t : List (Option Value)} (hd : decode M.2.1 pc = .ok (.aload 8, 2)) (k : zz_Z C M d mc ms kc ks (pc + 2) (a0 :: a1 :: a2 :: a3 :: a4 :: a5 :: a6 :: a7 :: some (.ref a) :: t) (.ref a :: st) g r n Q) : zz_Z C M d mc ms kc ks pc (a0 :: a1 :: a2 :: a3 :: a4 :: a5 :: a6 :: a7 :: some (.ref a) :: t) st g r n Q := by
  intro p e s m args below meth c H locs ls hF hW hl hL
  exact lv_aload (x := zz_A C a) hF.1.1 hF.1.2.1 hd (hL.2.2 8 _ rfl) (k p e s m args below meth c H locs ls hF hW hl hL)
theorem zz_aload_9 {a0 a1 a2 a3 a4 a5 a6 a7 a8 : Option Value} {a : Nat} {t : List (Option Value)} (hd : decode M.2.1 pc = .ok (.aload 9, 2)) (k : zz_Z C M d mc ms kc ks (pc + 2) (a0 :: a1 :: a2 :: a3 :: a4 :: a5 :: a6 :: a7 :: a8 :: some (.ref a) :: t) (.ref a :: st) g r n Q) : zz_Z C M d mc ms kc ks pc (a0 :: a1 :: a2 :: a3 :: a4 :: a5 :: a6 :: a7 :: a8 :: some (.ref a) :: t) st g r n Q := by
  intro p e s m args below meth c H locs ls hF hW hl hL
  exact lv_aload (x := zz_A C a) hF.1.1 hF.1.2.1 hd (hL.2.2 9 _ rfl) (k p e s m args below meth c H locs ls hF hW hl hL)
theorem zz_aload_10 {a0 a1 a2 a3 a4 a5 a6 a7 a8 a9 : Option Value} {a : Nat} {t : List (Option Value)} (hd : decode M.2.1 pc = .ok (.aload 10, 2)) (k : zz_Z C M d mc ms kc ks (pc + 2) (a0 :: a1 :: a2 :: a3 :: a4 :: a5 :: a6 :: a7 :: a8 :: a9 :: some (.ref a) :: t) (.ref a :: st) g r n Q) : zz_Z C M d mc ms kc ks pc (a0 :: a1 :: a2 :: a3 :: a4 :: a5 :: a6 :: a7 :: a8 :: a9 :: some (.ref a) :: t) st g r n Q := by
  intro p e s m args below meth c H locs ls hF hW hl hL
  exact lv_aload (x := zz_A C a) hF.1.1 hF.1.2.1 hd (hL.2.2 10 _ rfl) (k p e s m args below meth c H locs ls hF hW hl hL)
theorem zz_aload_11 {a0 a1 a2 a3 a4 a5 a6 a7 a8 a9 a10 : Option Value} {a : Nat} {t : List (Option Value)} (hd : decode M.2.1 pc = .ok (.aload 11, 2)) (k : zz_Z C M d mc ms kc ks (pc + 2) (a0 :: a1 :: a2 :: a3 :: a4 :: a5 :: a6 :: a7 :: a8 :: a9 :: a10 :: some (.ref a) :: t) (.ref a :: st) g r n Q) : zz_Z C M d mc ms kc ks pc (a0 :: a1 :: a2 :: a3 :: a4 :: a5 :: a6 :: a7 :: a8 :: a9 :: a10 :: some (.ref a) :: t) st g r n Q := by
  intro p e s m args below meth c H locs ls hF hW hl hL
  exact lv_aload (x := zz_A C a) hF.1.1 hF.1.2.1 hd (hL.2.2 11 _ rfl) (k p e s m args below meth c H locs ls hF hW hl hL)
theorem zz_aload_12 {a0 a1 a2 a3 a4 a5 a6 a7 a8 a9 a10 a11 : Option Value} {a : Nat} {t : List (Option Value)} (hd : decode M.2.1 pc = .ok (.aload 12, 2)) (k : zz_Z C M d mc ms kc ks (pc + 2) (a0 :: a1 :: a2 :: a3 :: a4 :: a5 :: a6 :: a7 :: a8 :: a9 :: a10 :: a11 :: some (.ref a) :: t) (.ref a :: st) g r n Q) : zz_Z C M d mc ms kc ks pc (a0 :: a1 :: a2 :: a3 :: a4 :: a5 :: a6 :: a7 :: a8 :: a9 :: a10 :: a11 :: some (.ref a) :: t) st g r n Q := by
  intro p e s m args below meth c H locs ls hF hW hl hL
  exact lv_aload (x := zz_A C a) hF.1.1 hF.1.2.1 hd (hL.2.2 12 _ rfl) (k p e s m args below meth c H locs ls hF hW hl hL)
theorem zz_aload_13 {a0 a1 a2 a3 a4 a5 a6 a7 a8 a9 a10 a11 a12 : Option Value} {a : Nat} {t : List (Option Value)} (hd : decode M.2.1 pc = .ok (.aload 13, 2)) (k : zz_Z C M d mc ms kc ks (pc + 2) (a0 :: a1 :: a2 :: a3 :: a4 :: a5 :: a6 :: a7 :: a8 :: a9 :: a10 :: a11 :: a12 :: some (.ref a) :: t) (.ref a :: st) g r n Q) : zz_Z C M d mc ms kc ks pc (a0 :: a1 :: a2 :: a3 :: a4 :: a5 :: a6 :: a7 :: a8 :: a9 :: a10 :: a11 :: a12 :: some (.ref a) :: t) st g r n Q := by
  intro p e s m args below meth c H locs ls hF hW hl hL
  exact lv_aload (x := zz_A C a) hF.1.1 hF.1.2.1 hd (hL.2.2 13 _ rfl) (k p e s m args below meth c H locs ls hF hW hl hL)
theorem zz_lload_0 {t : List (Option Value)} (hd : decode M.2.1 pc = .ok (.lload_n 0, 1)) (k : zz_Z C M d mc ms kc ks (pc + 1) (some (.long u) :: t) (.long u :: st) g r n Q) : zz_Z C M d mc ms kc ks pc (some (.long u) :: t) st g r n Q := by
  intro p e s m args below meth c H locs ls hF hW hl hL
  exact lv_lload_n (x := u) hF.1.1 hF.1.2.1 hd (i := 0) rfl (hL.2.2 0 _ rfl) (k p e s m args below meth c H locs ls hF hW hl hL)
theorem zz_lload_1 {a0 : Option Value} {t : List (Option Value)} (hd : decode M.2.1 pc = .ok (.lload_n 1, 1)) (k : zz_Z C M d mc ms kc ks (pc + 1) (a0 :: some (.long u) :: t) (.long u :: st) g r n Q) : zz_Z C M d mc ms kc ks pc (a0 :: some (.long u) :: t) st g r n Q := by
  intro p e s m args below meth c H locs ls hF hW hl hL
  exact lv_lload_n (x := u) hF.1.1 hF.1.2.1 hd (i := 1) rfl (hL.2.2 1 _ rfl) (k p e s m args below meth c H locs ls hF hW hl hL)
theorem zz_lload_2 {a0 a1 : Option Value} {t : List (Option Value)} (hd : decode M.2.1 pc = .ok (.lload_n 2, 1)) (k : zz_Z C M d mc ms kc ks (pc + 1) (a0 :: a1 :: some (.long u) :: t) (.long u :: st) g r n Q) : zz_Z C M d mc ms kc ks pc (a0 :: a1 :: some (.long u) :: t) st g r n Q := by
  intro p e s m args below meth c H locs ls hF hW hl hL
  exact lv_lload_n (x := u) hF.1.1 hF.1.2.1 hd (i := 2) rfl (hL.2.2 2 _ rfl) (k p e s m args below meth c H locs ls hF hW hl hL)
theorem zz_lload_3 {a0 a1 a2 : Option Value} {t : List (Option Value)} (hd : decode M.2.1 pc = .ok (.lload_n 3, 1)) (k : zz_Z C M d mc ms kc ks (pc + 1) (a0 :: a1 :: a2 :: some (.long u) :: t) (.long u :: st) g r n Q) : zz_Z C M d mc ms kc ks pc (a0 :: a1 :: a2 :: some (.long u) :: t) st g r n Q := by
  intro p e s m args below meth c H locs ls hF hW hl hL
  exact lv_lload_n (x := u) hF.1.1 hF.1.2.1 hd (i := 3) rfl (hL.2.2 3 _ rfl) (k p e s m args below meth c H locs ls hF hW hl hL)
theorem zz_lload_4 {a0 a1 a2 a3 : Option Value} {t : List (Option Value)} (hd : decode M.2.1 pc = .ok (.lload 4, 2)) (k : zz_Z C M d mc ms kc ks (pc + 2) (a0 :: a1 :: a2 :: a3 :: some (.long u) :: t) (.long u :: st) g r n Q) : zz_Z C M d mc ms kc ks pc (a0 :: a1 :: a2 :: a3 :: some (.long u) :: t) st g r n Q := by
  intro p e s m args below meth c H locs ls hF hW hl hL
  exact lv_lload (x := u) hF.1.1 hF.1.2.1 hd (hL.2.2 4 _ rfl) (k p e s m args below meth c H locs ls hF hW hl hL)
theorem zz_istore_0 {b : Option Value} {t : List (Option Value)} (hd : decode M.2.1 pc = .ok (.istore_n 0, 1)) (hlen : (b :: t).length = M.2.2.1) (k : zz_Z C M d mc ms kc ks (pc + 1) (some (.int x) :: t) st g r n Q) : zz_Z C M d mc ms kc ks pc (b :: t) (.int x :: st) g r n Q := by
  intro p e s m args below meth c H locs ls hF hW hl hL
  refine lv_istore_n (x := x) (rest := st.map (zz_v C)) hF.1.1 hF.1.2.1 hd (i := 0) rfl (zz_l_has hL) (by rw [← hlen]; simp only [List.length_cons]; omega) rfl (fun ls' h' => ?_)
  exact k p e s m args below meth c H locs ls' hF hW hl (zz_l_set (w := .int x) (i := 0) (L := b :: t) hlen (Or.inl rfl) h')
theorem zz_istore_1 {a0 b : Option Value} {t : List (Option Value)} (hd : decode M.2.1 pc = .ok (.istore_n 1, 1)) (hlen : (a0 :: b :: t).length = M.2.2.1) (hk : zz_ok1 a0 = true) (k : zz_Z C M d mc ms kc ks (pc + 1) (a0 :: some (.int x) :: t) st g r n Q) : zz_Z C M d mc ms kc ks pc (a0 :: b :: t) (.int x :: st) g r n Q := by
  intro p e s m args below meth c H locs ls hF hW hl hL
  refine lv_istore_n (x := x) (rest := st.map (zz_v C)) hF.1.1 hF.1.2.1 hd (i := 1) rfl (zz_l_has hL) (by rw [← hlen]; simp only [List.length_cons]; omega) rfl (fun ls' h' => ?_)
  exact k p e s m args below meth c H locs ls' hF hW hl (zz_l_set (w := .int x) (i := 1) (L := a0 :: b :: t) hlen (Or.inr (fun o ho => by cases ho; exact hk)) h')
theorem zz_istore_2 {a0 a1 b : Option Value} {t : List (Option Value)} (hd : decode M.2.1 pc = .ok (.istore_n 2, 1)) (hlen : (a0 :: a1 :: b :: t).length = M.2.2.1) (hk : zz_ok1 a1 = true) (k : zz_Z C M d mc ms kc ks (pc + 1) (a0 :: a1 :: some (.int x) :: t) st g r n Q) : zz_Z C M d mc ms kc ks pc (a0 :: a1 :: b :: t) (.int x :: st) g r n Q := by
  intro p e s m args below meth c H locs ls hF hW hl hL
  refine lv_istore_n (x := x) (rest := st.map (zz_v C)) hF.1.1 hF.1.2.1 hd (i := 2) rfl (zz_l_has hL) (by rw [← hlen]; simp only [List.length_cons]; omega) rfl (fun ls' h' => ?_)
  exact k p e s m args below meth c H locs ls' hF hW hl (zz_l_set (w := .int x) (i := 2) (L := a0 :: a1 :: b :: t) hlen (Or.inr (fun o ho => by cases ho; exact hk)) h')
theorem zz_istore_3 {a0 a1 a2 b : Option Value} {t : List (Option Value)} (hd : decode M.2.1 pc = .ok (.istore_n 3, 1)) (hlen : (a0 :: a1 :: a2 :: b :: t).length = M.2.2.1) (hk : zz_ok1 a2 = true) (k : zz_Z C M d mc ms kc ks (pc + 1) (a0 :: a1 :: a2 :: some (.int x) :: t) st g r n Q) : zz_Z C M d mc ms kc ks pc (a0 :: a1 :: a2 :: b :: t) (.int x :: st) g r n Q := by
  intro p e s m args below meth c H locs ls hF hW hl hL
  refine lv_istore_n (x := x) (rest := st.map (zz_v C)) hF.1.1 hF.1.2.1 hd (i := 3) rfl (zz_l_has hL) (by rw [← hlen]; simp only [List.length_cons]; omega) rfl (fun ls' h' => ?_)
  exact k p e s m args below meth c H locs ls' hF hW hl (zz_l_set (w := .int x) (i := 3) (L := a0 :: a1 :: a2 :: b :: t) hlen (Or.inr (fun o ho => by cases ho; exact hk)) h')
theorem zz_istore_4 {a0 a1 a2 a3 b : Option Value} {t : List (Option Value)} (hd : decode M.2.1 pc = .ok (.istore 4, 2)) (hlen : (a0 :: a1 :: a2 :: a3 :: b :: t).length = M.2.2.1) (hk : zz_ok1 a3 = true) (k : zz_Z C M d mc ms kc ks (pc + 2) (a0 :: a1 :: a2 :: a3 :: some (.int x) :: t) st g r n Q) : zz_Z C M d mc ms kc ks pc (a0 :: a1 :: a2 :: a3 :: b :: t) (.int x :: st) g r n Q := by
  intro p e s m args below meth c H locs ls hF hW hl hL
  refine lv_istore (x := x) (rest := st.map (zz_v C)) hF.1.1 hF.1.2.1 hd (zz_l_has hL) (by rw [← hlen]; simp only [List.length_cons]; omega) rfl (fun ls' h' => ?_)
  exact k p e s m args below meth c H locs ls' hF hW hl (zz_l_set (w := .int x) (i := 4) (L := a0 :: a1 :: a2 :: a3 :: b :: t) hlen (Or.inr (fun o ho => by cases ho; exact hk)) h')
theorem zz_istore_5 {a0 a1 a2 a3 a4 b : Option Value} {t : List (Option Value)} (hd : decode M.2.1 pc = .ok (.istore 5, 2)) (hlen : (a0 :: a1 :: a2 :: a3 :: a4 :: b :: t).length = M.2.2.1) (hk : zz_ok1 a4 = true) (k : zz_Z C M d mc ms kc ks (pc + 2) (a0 :: a1 :: a2 :: a3 :: a4 :: some (.int x) :: t) st g r n Q) : zz_Z C M d mc ms kc ks pc (a0 :: a1 :: a2 :: a3 :: a4 :: b :: t) (.int x :: st) g r n Q := by
  intro p e s m args below meth c H locs ls hF hW hl hL
  refine lv_istore (x := x) (rest := st.map (zz_v C)) hF.1.1 hF.1.2.1 hd (zz_l_has hL) (by rw [← hlen]; simp only [List.length_cons]; omega) rfl (fun ls' h' => ?_)
  exact k p e s m args below meth c H locs ls' hF hW hl (zz_l_set (w := .int x) (i := 5) (L := a0 :: a1 :: a2 :: a3 :: a4 :: b :: t) hlen (Or.inr (fun o ho => by cases ho; exact hk)) h')
theorem zz_istore_6 {a0 a1 a2 a3 a4 a5 b : Option Value} {t : List (Option Value)} (hd : decode M.2.1 pc = .ok (.istore 6, 2)) (hlen : (a0 :: a1 :: a2 :: a3 :: a4 :: a5 :: b :: t).length = M.2.2.1) (hk : zz_ok1 a5 = true) (k : zz_Z C M d mc ms kc ks (pc + 2) (a0 :: a1 :: a2 :: a3 :: a4 :: a5 :: some (.int x) :: t) st g r n Q) : zz_Z C M d mc ms kc ks pc (a0 :: a1 :: a2 :: a3 :: a4 :: a5 :: b :: t) (.int x :: st) g r n Q := by
  intro p e s m args below meth c H locs ls hF hW hl hL
  refine lv_istore (x := x) (rest := st.map (zz_v C)) hF.1.1 hF.1.2.1 hd (zz_l_has hL) (by rw [← hlen]; simp only [List.length_cons]; omega) rfl (fun ls' h' => ?_)
  exact k p e s m args below meth c H locs ls' hF hW hl (zz_l_set (w := .int x) (i := 6) (L := a0 :: a1 :: a2 :: a3 :: a4 :: a5 :: b :: t) hlen (Or.inr (fun o ho => by cases ho; exact hk)) h')
theorem zz_istore_7 {a0 a1 a2 a3 a4 a5 a6 b : Option Value} {t : List (Option Value)} (hd : decode M.2.1 pc = .ok (.istore 7, 2)) (hlen : (a0 :: a1 :: a2 :: a3 :: a4 :: a5 :: a6 :: b :: t).length = M.2.2.1) (hk : zz_ok1 a6 = true) (k : zz_Z C M d mc ms kc ks (pc + 2) (a0 :: a1 :: a2 :: a3 :: a4 :: a5 :: a6 :: some (.int x) :: t) st g r n Q) : zz_Z C M d mc ms kc ks pc (a0 :: a1 :: a2 :: a3 :: a4 :: a5 :: a6 :: b :: t) (.int x :: st) g r n Q := by
  intro p e s m args below meth c H locs ls hF hW hl hL
  refine lv_istore (x := x) (rest := st.map (zz_v C)) hF.1.1 hF.1.2.1 hd (zz_l_has hL) (by rw [← hlen]; simp only [List.length_cons]; omega) rfl (fun ls' h' => ?_)
  exact k p e s m args below meth c H locs ls' hF hW hl (zz_l_set (w := .int x) (i := 7) (L := a0 :: a1 :: a2 :: a3 :: a4 :: a5 :: a6 :: b :: t) hlen (Or.inr (fun o ho => by cases ho; exact hk)) h')
theorem zz_istore_8 {a0 a1 a2 a3 a4 a5 a6 a7 b : Option Value} {t : List (Option Value)} (hd : decode M.2.1 pc = .ok (.istore 8, 2)) (hlen : (a0 :: a1 :: a2 :: a3 :: a4 :: a5 :: a6 :: a7 :: b :: t).length = M.2.2.1) (hk : zz_ok1 a7 = true) (k : zz_Z C M d mc ms kc ks (pc + 2) (a0 :: a1 :: a2 :: a3 :: a4 :: a5 :: a6 :: a7 :: some (.int x) :: t) st g r n Q) : zz_Z C M d mc ms kc ks pc (a0 :: a1 :: a2 :: a3 :: a4 :: a5 :: a6 :: a7 :: b :: t) (.int x :: st) g r n Q := by
  intro p e s m args below meth c H locs ls hF hW hl hL
  refine lv_istore (x := x) (rest := st.map (zz_v C)) hF.1.1 hF.1.2.1 hd (zz_l_has hL) (by rw [← hlen]; simp only [List.length_cons]; omega) rfl (fun ls' h' => ?_)
  exact k p e s m args below meth c H locs ls' hF hW hl (zz_l_set (w := .int x) (i := 8) (L := a0 :: a1 :: a2 :: a3 :: a4 :: a5 :: a6 :: a7 :: b :: t) hlen (Or.inr (fun o ho => by cases ho; exact hk)) h')
theorem zz_istore_9 {a0 a1 a2 a3 a4 a5 a6 a7 a8 b : Option Value} {t : List (Option Value)} (hd : decode M.2.1 pc = .ok (.istore 9, 2)) (hlen : (a0 :: a1 :: a2 :: a3 :: a4 :: a5 :: a6 :: a7 :: a8 :: b :: t).length = M.2.2.1) (hk : zz_ok1 a8 = true) (k : zz_Z C M d mc ms kc ks (pc + 2) (a0 :: a1 :: a2 :: a3 :: a4 :: a5 :: a6 :: a7 :: a8 :: some (.int x) :: t) st g r n Q) : zz_Z C M d mc ms kc ks pc (a0 :: a1 :: a2 :: a3 :: a4 :: a5 :: a6 :: a7 :: a8 :: b :: t) (.int x :: st) g r n Q := by
  intro p e s m args below meth c H locs ls hF hW hl hL
  refine lv_istore (x := x) (rest := st.map (zz_v C)) hF.1.1 hF.1.2.1 hd (zz_l_has hL) (by rw [← hlen]; simp only [List.length_cons]; omega) rfl (fun ls' h' => ?_)
  exact k p e s m args below meth c H locs ls' hF hW hl (zz_l_set (w := .int x) (i := 9) (L := a0 :: a1 :: a2 :: a3 :: a4 :: a5 :: a6 :: a7 :: a8 :: b :: t) hlen (Or.inr (fun o ho => by cases ho; exact hk)) h')
theorem zz_istore_10 {a0 a1 a2 a3 a4 a5 a6 a7 a8 a9 b : Option Value} {t : List (Option Value)} (hd : decode M.2.1 pc = .ok (.istore 10, 2)) (hlen : (a0 :: a1 :: a2 :: a3 :: a4 :: a5 :: a6 :: a7 :: a8 :: a9 :: b :: t).length = M.2.2.1) (hk : zz_ok1 a9 = true) (k : zz_Z C M d mc ms kc ks (pc + 2) (a0 :: a1 :: a2 :: a3 :: a4 :: a5 :: a6 :: a7 :: a8 :: a9 :: some (.int x) :: t) st g r n Q) : zz_Z C M d mc ms kc ks pc (a0 :: a1 :: a2 :: a3 :: a4 :: a5 :: a6 :: a7 :: a8 :: a9 :: b :: t) (.int x :: st) g r n Q := by
  intro p e s m args below meth c H locs ls hF hW hl hL
  refine lv_istore (x := x) (rest := st.map (zz_v C)) hF.1.1 hF.1.2.1 hd (zz_l_has hL) (by rw [← hlen]; simp only [List.length_cons]; omega) rfl (fun ls' h' => ?_)
  exact k p e s m args below meth c H locs ls' hF hW hl (zz_l_set (w := .int x) (i := 10) (L := a0 :: a1 :: a2 :: a3 :: a4 :: a5 :: a6 :: a7 :: a8 :: a9 :: b :: t) hlen (Or.inr (fun o ho => by cases ho; exact hk)) h')
theorem zz_istore_11 {a0 a1 a2 a3 a4 a5 a6 a7 a8 a9 a10 b : Option Value} {t : List (Option Value)} (hd : decode M.2.1 pc = .ok (.istore 11, 2)) (hlen : (a0 :: a1 :: a2 :: a3 :: a4 :: a5 :: a6 :: a7 :: a8 :: a9 :: a10 :: b :: t).length = M.2.2.1) (hk : zz_ok1 a10 = true) (k : zz_Z C M d mc ms kc ks (pc + 2) (a0 :: a1 :: a2 :: a3 :: a4 :: a5 :: a6 :: a7 :: a8 :: a9 :: a10 :: some (.int x) :: t) st g r n Q) : zz_Z C M d mc ms kc ks pc (a0 :: a1 :: a2 :: a3 :: a4 :: a5 :: a6 :: a7 :: a8 :: a9 :: a10 :: b :: t) (.int x :: st) g r n Q := by
  intro p e s m args below meth c H locs ls hF hW hl hL
  refine lv_istore (x := x) (rest := st.map (zz_v C)) hF.1.1 hF.1.2.1 hd (zz_l_has hL) (by rw [← hlen]; simp only [List.length_cons]; omega) rfl (fun ls' h' => ?_)
  exact k p e s m args below meth c H locs ls' hF hW hl (zz_l_set (w := .int x) (i := 11) (L := a0 :: a1 :: a2 :: a3 :: a4 :: a5 :: a6 :: a7 :: a8 :: a9 :: a10 :: b :: t) hlen (Or.inr (fun o ho => by cases ho; exact hk)) h')
theorem zz_istore_12 {a0 a1 a2 a3 a4 a5 a6 a7 a8 a9 a10 a11 b : Option Value} {t : List (Option Value)} (hd : decode M.2.1 pc = .ok (.istore 12, 2)) (hlen : (a0 :: a1 :: a2 :: a3 :: a4 :: a5 :: a6 :: a7 :: a8 :: a9 :: a10 :: a11 :: b :: t).length = M.2.2.1) (hk : zz_ok1 a11 = true) (k : zz_Z C M d mc ms kc ks (pc + 2) (a0 :: a1 :: a2 :: a3 :: a4 :: a5 :: a6 :: a7 :: a8 :: a9 :: a10 :: a11 :: some (.int x) :: t) st g r n Q) : zz_Z C M d mc ms kc ks pc (a0 :: a1 :: a2 :: a3 :: a4 :: a5 :: a6 :: a7 :: a8 :: a9 :: a10 :: a11 :: b :: t) (.int x :: st) g r n Q := by
  intro p e s m args below meth c H locs ls hF hW hl hL
  refine lv_istore (x := x) (rest := st.map (zz_v C)) hF.1.1 hF.1.2.1 hd (zz_l_has hL) (by rw [← hlen]; simp only [List.length_cons]; omega) rfl (fun ls' h' => ?_)
  exact k p e s m args below meth c H locs ls' hF hW hl (zz_l_set (w := .int x) (i := 12) (L := a0 :: a1 :: a2 :: a3 :: a4 :: a5 :: a6 :: a7 :: a8 :: a9 :: a10 :: a11 :: b :: t) hlen (Or.inr (fun o ho => by cases ho; exact hk)) h')
theorem zz_istore_13 {a0 a1 a2 a3 a4 a5 a6 a7 a8 a9 a10 a11 a12 b : Option Value} {t : List (Option Value)} (hd : decode M.2.1 pc = .ok (.istore 13, 2)) (hlen : (a0 :: a1 :: a2 :: a3 :: a4 :: a5 :: a6 :: a7 :: a8 :: a9 :: a10 :: a11 :: a12 :: b :: t).length = M.2.2.1) (hk : zz_ok1 a12 = true) (k : zz_Z C M d mc ms kc ks (pc + 2) (a0 :: a1 :: a2 :: a3 :: a4 :: a5 :: a6 :: a7 :: a8 :: a9 :: a10 :: a11 :: a12 :: some (.int x) :: t) st g r n Q) : zz_Z C M d mc ms kc ks pc (a0 :: a1 :: a2 :: a3 :: a4 :: a5 :: a6 :: a7 :: a8 :: a9 :: a10 :: a11 :: a12 :: b :: t) (.int x :: st) g r n Q := by
  intro p e s m args below meth c H locs ls hF hW hl hL
  refine lv_istore (x := x) (rest := st.map (zz_v C)) hF.1.1 hF.1.2.1 hd (zz_l_has hL) (by rw [← hlen]; simp only [List.length_cons]; omega) rfl (fun ls' h' => ?_)
  exact k p e s m args below meth c H locs ls' hF hW hl (zz_l_set (w := .int x) (i := 13) (L := a0 :: a1 :: a2 :: a3 :: a4 :: a5 :: a6 :: a7 :: a8 :: a9 :: a10 :: a11 :: a12 :: b :: t) hlen (Or.inr (fun o ho => by cases ho; exact hk)) h')
theorem zz_astore_0 {b : Option Value} {a : Nat} {t : List (Option Value)} (hd : decode M.2.1 pc = .ok (.astore_n 0, 1)) (hlen : (b :: t).length = M.2.2.1) (k : zz_Z C M d mc ms kc ks (pc + 1) (some (.ref a) :: t) st g r n Q) : zz_Z C M d mc ms kc ks pc (b :: t) (.ref a :: st) g r n Q := by
  intro p e s m args below meth c H locs ls hF hW hl hL
  refine lv_astore_n (x := zz_A C a) (rest := st.map (zz_v C)) hF.1.1 hF.1.2.1 hd (i := 0) rfl (zz_l_has hL) (by rw [← hlen]; simp only [List.length_cons]; omega) rfl (fun ls' h' => ?_)
  exact k p e s m args below meth c H locs ls' hF hW hl (zz_l_set (w := .ref a) (i := 0) (L := b :: t) hlen (Or.inl rfl) h')
theorem zz_astore_1 {a0 b : Option Value} {a : Nat} {t : List (Option Value)} (hd : decode M.2.1 pc = .ok (.astore_n 1, 1)) (hlen : (a0 :: b :: t).length = M.2.2.1) (hk : zz_ok1 a0 = true) (k : zz_Z C M d mc ms kc ks (pc + 1) (a0 :: some (.ref a) :: t) st g r n Q) : zz_Z C M d mc ms kc ks pc (a0 :: b :: t) (.ref a :: st) g r n Q := by
  intro p e s m args below meth c H locs ls hF hW hl hL
  refine lv_astore_n (x := zz_A C a) (rest := st.map (zz_v C)) hF.1.1 hF.1.2.1 hd (i := 1) rfl (zz_l_has hL) (by rw [← hlen]; simp only [List.length_cons]; omega) rfl (fun ls' h' => ?_)
  exact k p e s m args below meth c H locs ls' hF hW hl (zz_l_set (w := .ref a) (i := 1) (L := a0 :: b :: t) hlen (Or.inr (fun o ho => by cases ho; exact hk)) h')
theorem zz_astore_2 {a0 a1 b : Option Value} {a : Nat} {t : List (Option Value)} (hd : decode M.2.1 pc = .ok (.astore_n 2, 1)) (hlen : (a0 :: a1 :: b :: t).length = M.2.2.1) (hk : zz_ok1 a1 = true) (k : zz_Z C M d mc ms kc ks (pc + 1) (a0 :: a1 :: some (.ref a) :: t) st g r n Q) : zz_Z C M d mc ms kc ks pc (a0 :: a1 :: b :: t) (.ref a :: st) g r n Q := by
  intro p e s m args below meth c H locs ls hF hW hl hL
  refine lv_astore_n (x := zz_A C a) (rest := st.map (zz_v C)) hF.1.1 hF.1.2.1 hd (i := 2) rfl (zz_l_has hL) (by rw [← hlen]; simp only [List.length_cons]; omega) rfl (fun ls' h' => ?_)
  exact k p e s m args below meth c H locs ls' hF hW hl (zz_l_set (w := .ref a) (i := 2) (L := a0 :: a1 :: b :: t) hlen (Or.inr (fun o ho => by cases ho; exact hk)) h')
theorem zz_astore_3 {a0 a1 a2 b : Option Value} {a : Nat} {t : List (Option Value)} (hd : decode M.2.1 pc = .ok (.astore_n 3, 1)) (hlen : (a0 :: a1 :: a2 :: b :: t).length = M.2.2.1) (hk : zz_ok1 a2 = true) (k : zz_Z C M d mc ms kc ks (pc + 1) (a0 :: a1 :: a2 :: some (.ref a) :: t) st g r n Q) : zz_Z C M d mc ms kc ks pc (a0 :: a1 :: a2 :: b :: t) (.ref a :: st) g r n Q := by
  intro p e s m args below meth c H locs ls hF hW hl hL
  refine lv_astore_n (x := zz_A C a) (rest := st.map (zz_v C)) hF.1.1 hF.1.2.1 hd (i := 3) rfl (zz_l_has hL) (by rw [← hlen]; simp only [List.length_cons]; omega) rfl (fun ls' h' => ?_)
  exact k p e s m args below meth c H locs ls' hF hW hl (zz_l_set (w := .ref a) (i := 3) (L := a0 :: a1 :: a2 :: b :: t) hlen (Or.inr (fun o ho => by cases ho; exact hk)) h')
theorem zz_astore_4 {a0 a1 a2 a3 b : Option Value} {a : Nat} {t : List (Option Value)} (hd : decode M.2.1 pc = .ok (.astore 4, 2)) (hlen : (a0 :: a1 :: a2 :: a3 :: b :: t).length = M.2.2.1) (hk : zz_ok1 a3 = true) (k : zz_Z C M d mc ms kc ks (pc + 2) (a0 :: a1 :: a2 :: a3 :: some (.ref a) :: t) st g r n Q) : zz_Z C M d mc ms kc ks pc (a0 :: a1 :: a2 :: a3 :: b :: t) (.ref a :: st) g r n Q := by
  intro p e s m args below meth c H locs ls hF hW hl hL
  refine lv_astore (x := zz_A C a) (rest := st.map (zz_v C)) hF.1.1 hF.1.2.1 hd (zz_l_has hL) (by rw [← hlen]; simp only [List.length_cons]; omega) rfl (fun ls' h' => ?_)
  exact k p e s m args below meth c H locs ls' hF hW hl (zz_l_set (w := .ref a) (i := 4) (L := a0 :: a1 :: a2 :: a3 :: b :: t) hlen (Or.inr (fun o ho => by cases ho; exact hk)) h')
theorem zz_astore_5 {a0 a1 a2 a3 a4 b : Option Value} {a : Nat} {t : List (Option Value)} (hd : decode M.2.1 pc = .ok (.astore 5, 2)) (hlen : (a0 :: a1 :: a2 :: a3 :: a4 :: b :: t).length = M.2.2.1) (hk : zz_ok1 a4 = true) (k : zz_Z C M d mc ms kc ks (pc + 2) (a0 :: a1 :: a2 :: a3 :: a4 :: some (.ref a) :: t) st g r n Q) : zz_Z C M d mc ms kc ks pc (a0 :: a1 :: a2 :: a3 :: a4 :: b :: t) (.ref a :: st) g r n Q := by
  intro p e s m args below meth c H locs ls hF hW hl hL
  refine lv_astore (x := zz_A C a) (rest := st.map (zz_v C)) hF.1.1 hF.1.2.1 hd (zz_l_has hL) (by rw [← hlen]; simp only [List.length_cons]; omega) rfl (fun ls' h' => ?_)
  exact k p e s m args below meth c H locs ls' hF hW hl (zz_l_set (w := .ref a) (i := 5) (L := a0 :: a1 :: a2 :: a3 :: a4 :: b :: t) hlen (Or.inr (fun o ho => by cases ho; exact hk)) h')
theorem zz_astore_6 {a0 a1 a2 a3 a4 a5 b : Option Value} {a : Nat} {t : List (Option Value)} (hd : decode M.2.1 pc = .ok (.astore 6, 2)) (hlen : (a0 :: a1 :: a2 :: a3 :: a4 :: a5 :: b :: t).length = M.2.2.1) (hk : zz_ok1 a5 = true) (k : zz_Z C M d mc ms kc ks (pc + 2) (a0 :: a1 :: a2 :: a3 :: a4 :: a5 :: some (.ref a) :: t) st g r n Q) : zz_Z C M d mc ms kc ks pc (a0 :: a1 :: a2 :: a3 :: a4 :: a5 :: b :: t) (.ref a :: st) g r n Q := by
  intro p e s m args below meth c H locs ls hF hW hl hL
  refine lv_astore (x := zz_A C a) (rest := st.map (zz_v C)) hF.1.1 hF.1.2.1 hd (zz_l_has hL) (by rw [← hlen]; simp only [List.length_cons]; omega) rfl (fun ls' h' => ?_)
  exact k p e s m args below meth c H locs ls' hF hW hl (zz_l_set (w := .ref a) (i := 6) (L := a0 :: a1 :: a2 :: a3 :: a4 :: a5 :: b :: t) hlen (Or.inr (fun o ho => by cases ho; exact hk)) h')
theorem zz_astore_7 {a0 a1 a2 a3 a4 a5 a6 b : Option Value} {a : Nat} {t : List (Option Value)} (hd : decode M.2.1 pc = .ok (.astore 7, 2)) (hlen : (a0 :: a1 :: a2 :: a3 :: a4 :: a5 :: a6 :: b :: t).length = M.2.2.1) (hk : zz_ok1 a6 = true) (k : zz_Z C M d mc ms kc ks (pc + 2) (a0 :: a1 :: a2 :: a3 :: a4 :: a5 :: a6 :: some (.ref a) :: t) st g r n Q) : zz_Z C M d mc ms kc ks pc (a0 :: a1 :: a2 :: a3 :: a4 :: a5 :: a6 :: b :: t) (.ref a :: st) g r n Q := by
  intro p e s m args below meth c H locs ls hF hW hl hL
  refine lv_astore (x := zz_A C a) (rest := st.map (zz_v C)) hF.1.1 hF.1.2.1 hd (zz_l_has hL) (by rw [← hlen]; simp only [List.length_cons]; omega) rfl (fun ls' h' => ?_)
  exact k p e s m args below meth c H locs ls' hF hW hl (zz_l_set (w := .ref a) (i := 7) (L := a0 :: a1 :: a2 :: a3 :: a4 :: a5 :: a6 :: b :: t) hlen (Or.inr (fun o ho => by cases ho; exact hk)) h')
theorem zz_astore_8 {a0 a1 a2 a3 a4 a5 a6 a7 b : Option Value} {a : Nat} {t : List (Option Value)} (hd : decode M.2.1 pc = .ok (.astore 8, 2)) (hlen : (a0 :: a1 :: a2 :: a3 :: a4 :: a5 :: a6 :: a7 :: b :: t).length = M.2.2.1) (hk : zz_ok1 a7 = true) (k : zz_Z C M d mc ms kc ks (pc + 2) (a0 :: a1 :: a2 :: a3 :: a4 :: a5 :: a6 :: a7 :: some (.ref a) :: t) st g r n Q) : zz_Z C M d mc ms kc ks pc (a0 :: a1 :: a2 :: a3 :: a4 :: a5 :: a6 :: a7 :: b :: t) (.ref a :: st) g r n Q := by
  intro p e s m args below meth c H locs ls hF hW hl hL
  refine lv_astore (x := zz_A C a) (rest := st.map (zz_v C)) hF.1.1 hF.1.2.1 hd (zz_l_has hL) (by rw [← hlen]; simp only [List.length_cons]; omega) rfl (fun ls' h' => ?_)
  exact k p e s m args below meth c H locs ls' hF hW hl (zz_l_set (w := .ref a) (i := 8) (L := a0 :: a1 :: a2 :: a3 :: a4 :: a5 :: a6 :: a7 :: b :: t) hlen (Or.inr (fun o ho => by cases ho; exact hk)) h')
theorem zz_astore_9 {a0 a1 a2 a3 a4 a5 a6 a7 a8 b : Option Value} {a : Nat} {t : List (Option Value)} (hd : decode M.2.1 pc = .ok (.astore 9, 2)) (hlen : (a0 :: a1 :: a2 :: a3 :: a4 :: a5 :: a6 :: a7 :: a8 :: b :: t).length = M.2.2.1) (hk : zz_ok1 a8 = true) (k : zz_Z C M d mc ms kc ks (pc + 2) (a0 :: a1 :: a2 :: a3 :: a4 :: a5 :: a6 :: a7 :: a8 :: some (.ref a) :: t) st g r n Q) : zz_Z C M d mc ms kc ks pc (a0 :: a1 :: a2 :: a3 :: a4 :: a5 :: a6 :: a7 :: a8 :: b :: t) (.ref a :: st) g r n Q := by
  intro p e s m args below meth c H locs ls hF hW hl hL
  refine lv_astore (x := zz_A C a) (rest := st.map (zz_v C)) hF.1.1 hF.1.2.1 hd (zz_l_has hL) (by rw [← hlen]; simp only [List.length_cons]; omega) rfl (fun ls' h' => ?_)
  exact k p e s m args below meth c H locs ls' hF hW hl (zz_l_set (w := .ref a) (i := 9) (L := a0 :: a1 :: a2 :: a3 :: a4 :: a5 :: a6 :: a7 :: a8 :: b :: t) hlen (Or.inr (fun o ho => by cases ho; exact hk)) h')
theorem zz_astore_10 {a0 a1 a2 a3 a4 a5 a6 a7 a8 a9 b : Option Value} {a : Nat} {t : List (Option Value)} (hd : decode M.2.1 pc = .ok (.astore 10, 2)) (hlen : (a0 :: a1 :: a2 :: a3 :: a4 :: a5 :: a6 :: a7 :: a8 :: a9 :: b :: t).length = M.2.2.1) (hk : zz_ok1 a9 = true) (k : zz_Z C M d mc ms kc ks (pc + 2) (a0 :: a1 :: a2 :: a3 :: a4 :: a5 :: a6 :: a7 :: a8 :: a9 :: some (.ref a) :: t) st g r n Q) : zz_Z C M d mc ms kc ks pc (a0 :: a1 :: a2 :: a3 :: a4 :: a5 :: a6 :: a7 :: a8 :: a9 :: b :: t) (.ref a :: st) g r n Q := by
  intro p e s m args below meth c H locs ls hF hW hl hL
  refine lv_astore (x := zz_A C a) (rest := st.map (zz_v C)) hF.1.1 hF.1.2.1 hd (zz_l_has hL) (by rw [← hlen]; simp only [List.length_cons]; omega) rfl (fun ls' h' => ?_)
  exact k p e s m args below meth c H locs ls' hF hW hl (zz_l_set (w := .ref a) (i := 10) (L := a0 :: a1 :: a2 :: a3 :: a4 :: a5 :: a6 :: a7 :: a8 :: a9 :: b :: t) hlen (Or.inr (fun o ho => by cases ho; exact hk)) h')
theorem zz_astore_11 {a0 a1 a2 a3 a4 a5 a6 a7 a8 a9 a10 b : Option Value} {a : Nat} {t : List (Option Value)} (hd : decode M.2.1 pc = .ok (.astore 11, 2)) (hlen : (a0 :: a1 :: a2 :: a3 :: a4 :: a5 :: a6 :: a7 :: a8 :: a9 :: a10 :: b :: t).length = M.2.2.1) (hk : zz_ok1 a10 = true) (k : zz_Z C M d mc ms kc ks (pc + 2) (a0 :: a1 :: a2 :: a3 :: a4 :: a5 :: a6 :: a7 :: a8 :: a9 :: a10 :: some (.ref a) :: t) st g r n Q) : zz_Z C M d mc ms kc ks pc (a0 :: a1 :: a2 :: a3 :: a4 :: a5 :: a6 :: a7 :: a8 :: a9 :: a10 :: b :: t) (.ref a :: st) g r n Q := by
  intro p e s m args below meth c H locs ls hF hW hl hL
  refine lv_astore (x := zz_A C a) (rest := st.map (zz_v C)) hF.1.1 hF.1.2.1 hd (zz_l_has hL) (by rw [← hlen]; simp only [List.length_cons]; omega) rfl (fun ls' h' => ?_)
  exact k p e s m args below meth c H locs ls' hF hW hl (zz_l_set (w := .ref a) (i := 11) (L := a0 :: a1 :: a2 :: a3 :: a4 :: a5 :: a6 :: a7 :: a8 :: a9 :: a10 :: b :: t) hlen (Or.inr (fun o ho => by cases ho; exact hk)) h')
theorem zz_astore_12 {a0 a1 a2 a3 a4 a5 a6 a7 a8 a9 a10 a11 b : Option Value} {a : Nat} {t : List (Option Value)} (hd : decode M.2.1 pc = .ok (.astore 12, 2)) (hlen : (a0 :: a1 :: a2 :: a3 :: a4 :: a5 :: a6 :: a7 :: a8 :: a9 :: a10 :: a11 :: b :: t).length = M.2.2.1) (hk : zz_ok1 a11 = true) (k : zz_Z C M d mc ms kc ks (pc + 2) (a0 :: a1 :: a2 :: a3 :: a4 :: a5 :: a6 :: a7 :: a8 :: a9 :: a10 :: a11 :: some (.ref a) :: t) st g r n Q) : zz_Z C M d mc ms kc ks pc (a0 :: a1 :: a2 :: a3 :: a4 :: a5 :: a6 :: a7 :: a8 :: a9 :: a10 :: a11 :: b :: t) (.ref a :: st) g r n Q := by
  intro p e s m args below meth c H locs ls hF hW hl hL
  refine lv_astore (x := zz_A C a) (rest := st.map (zz_v C)) hF.1.1 hF.1.2.1 hd (zz_l_has hL) (by rw [← hlen]; simp only [List.length_cons]; omega) rfl (fun ls' h' => ?_)
  exact k p e s m args below meth c H locs ls' hF hW hl (zz_l_set (w := .ref a) (i := 12) (L := a0 :: a1 :: a2 :: a3 :: a4 :: a5 :: a6 :: a7 :: a8 :: a9 :: a10 :: a11 :: b :: t) hlen (Or.inr (fun o ho => by cases ho; exact hk)) h')
theorem zz_astore_13 {a0 a1 a2 a3 a4 a5 a6 a7 a8 a9 a10 a11 a12 b : Option Value} {a : Nat} {t : List (Option Value)} (hd : decode M.2.1 pc = .ok (.astore 13, 2)) (hlen : (a0 :: a1 :: a2 :: a3 :: a4 :: a5 :: a6 :: a7 :: a8 :: a9 :: a10 :: a11 :: a12 :: b :: t).length = M.2.2.1) (hk : zz_ok1 a12 = true) (k : zz_Z C M d mc ms kc ks (pc + 2) (a0 :: a1 :: a2 :: a3 :: a4 :: a5 :: a6 :: a7 :: a8 :: a9 :: a10 :: a11 :: a12 :: some (.ref a) :: t) st g r n Q) : zz_Z C M d mc ms kc ks pc (a0 :: a1 :: a2 :: a3 :: a4 :: a5 :: a6 :: a7 :: a8 :: a9 :: a10 :: a11 :: a12 :: b :: t) (.ref a :: st) g r n Q := by
  intro p e s m args below meth c H locs ls hF hW hl hL
  refine lv_astore (x := zz_A C a) (rest := st.map (zz_v C)) hF.1.1 hF.1.2.1 hd (zz_l_has hL) (by rw [← hlen]; simp only [List.length_cons]; omega) rfl (fun ls' h' => ?_)
  exact k p e s m args below meth c H locs ls' hF hW hl (zz_l_set (w := .ref a) (i := 13) (L := a0 :: a1 :: a2 :: a3 :: a4 :: a5 :: a6 :: a7 :: a8 :: a9 :: a10 :: a11 :: a12 :: b :: t) hlen (Or.inr (fun o ho => by cases ho; exact hk)) h')
theorem zz_iinc_0 {t : List (Option Value)} {j : Int} (z : Int32) (hd : decode M.2.1 pc = .ok (.iinc 0 j, 3)) (hlen : (some (.int x) :: t).length = M.2.2.1) (hz : x + Int32.ofInt j = z) (k : zz_Z C M d mc ms kc ks (pc + 3) (some (.int z) :: t) st g r n Q) : zz_Z C M d mc ms kc ks pc (some (.int x) :: t) st g r n Q := by
  intro p e s m args below meth c H locs ls hF hW hl hL
  obtain ⟨q, hq⟩ := List.getElem?_of_mem (zz_as_in (C := C) (L := some (.int x) :: t) (i := 0) (w := .int x) rfl)
  refine lv_iinc (x := x) hF.1.1 hF.1.2.1 hd (zz_l_has hL) hq hz (by rw [← hlen]; simp only [List.length_cons]; omega) rfl (fun ls' h' => ?_)
  exact k p e s m args below meth c H locs ls' hF hW hl (zz_l_set (w := .int z) (i := 0) (L := some (.int x) :: t) hlen (Or.inl rfl) h')
theorem zz_iinc_1 {a0 : Option Value} {t : List (Option Value)} {j : Int} (z : Int32) (hd : decode M.2.1 pc = .ok (.iinc 1 j, 3)) (hlen : (a0 :: some (.int x) :: t).length = M.2.2.1) (hk : zz_ok1 a0 = true) (hz : x + Int32.ofInt j = z) (k : zz_Z C M d mc ms kc ks (pc + 3) (a0 :: some (.int z) :: t) st g r n Q) : zz_Z C M d mc ms kc ks pc (a0 :: some (.int x) :: t) st g r n Q := by
  intro p e s m args below meth c H locs ls hF hW hl hL
  obtain ⟨q, hq⟩ := List.getElem?_of_mem (zz_as_in (C := C) (L := a0 :: some (.int x) :: t) (i := 1) (w := .int x) rfl)
  refine lv_iinc (x := x) hF.1.1 hF.1.2.1 hd (zz_l_has hL) hq hz (by rw [← hlen]; simp only [List.length_cons]; omega) rfl (fun ls' h' => ?_)
  exact k p e s m args below meth c H locs ls' hF hW hl (zz_l_set (w := .int z) (i := 1) (L := a0 :: some (.int x) :: t) hlen (Or.inr (fun o ho => by cases ho; exact hk)) h')
theorem zz_iinc_2 {a0 a1 : Option Value} {t : List (Option Value)} {j : Int} (z : Int32) (hd : decode M.2.1 pc = .ok (.iinc 2 j, 3)) (hlen : (a0 :: a1 :: some (.int x) :: t).length = M.2.2.1) (hk : zz_ok1 a1 = true) (hz : x + Int32.ofInt j = z) (k : zz_Z C M d mc ms kc ks (pc + 3) (a0 :: a1 :: some (.int z) :: t) st g r n Q) : zz_Z C M d mc ms kc ks pc (a0 :: a1 :: some (.int x) :: t) st g r n Q := by
  intro p e s m args below meth c H locs ls hF hW hl hL
  obtain ⟨q, hq⟩ := List.getElem?_of_mem (zz_as_in (C := C) (L := a0 :: a1 :: some (.int x) :: t) (i := 2) (w := .int x) rfl)
  refine lv_iinc (x := x) hF.1.1 hF.1.2.1 hd (zz_l_has hL) hq hz (by rw [← hlen]; simp only [List.length_cons]; omega) rfl (fun ls' h' => ?_)
  exact k p e s m args below meth c H locs ls' hF hW hl (zz_l_set (w := .int z) (i := 2) (L := a0 :: a1 :: some (.int x) :: t) hlen (Or.inr (fun o ho => by cases ho; exact hk)) h')
theorem zz_iinc_3 {a0 a1 a2 : Option Value} {t : List (Option Value)} {j : Int} (z : Int32) (hd : decode M.2.1 pc = .ok (.iinc 3 j, 3)) (hlen : (a0 :: a1 :: a2 :: some (.int x) :: t).length = M.2.2.1) (hk : zz_ok1 a2 = true) (hz : x + Int32.ofInt j = z) (k : zz_Z C M d mc ms kc ks (pc + 3) (a0 :: a1 :: a2 :: some (.int z) :: t) st g r n Q) : zz_Z C M d mc ms kc ks pc (a0 :: a1 :: a2 :: some (.int x) :: t) st g r n Q := by
  intro p e s m args below meth c H locs ls hF hW hl hL
  obtain ⟨q, hq⟩ := List.getElem?_of_mem (zz_as_in (C := C) (L := a0 :: a1 :: a2 :: some (.int x) :: t) (i := 3) (w := .int x) rfl)
  refine lv_iinc (x := x) hF.1.1 hF.1.2.1 hd (zz_l_has hL) hq hz (by rw [← hlen]; simp only [List.length_cons]; omega) rfl (fun ls' h' => ?_)
  exact k p e s m args below meth c H locs ls' hF hW hl (zz_l_set (w := .int z) (i := 3) (L := a0 :: a1 :: a2 :: some (.int x) :: t) hlen (Or.inr (fun o ho => by cases ho; exact hk)) h')
theorem zz_iinc_4 {a0 a1 a2 a3 : Option Value} {t : List (Option Value)} {j : Int} (z : Int32) (hd : decode M.2.1 pc = .ok (.iinc 4 j, 3)) (hlen : (a0 :: a1 :: a2 :: a3 :: some (.int x) :: t).length = M.2.2.1) (hk : zz_ok1 a3 = true) (hz : x + Int32.ofInt j = z) (k : zz_Z C M d mc ms kc ks (pc + 3) (a0 :: a1 :: a2 :: a3 :: some (.int z) :: t) st g r n Q) : zz_Z C M d mc ms kc ks pc (a0 :: a1 :: a2 :: a3 :: some (.int x) :: t) st g r n Q := by
  intro p e s m args below meth c H locs ls hF hW hl hL
  obtain ⟨q, hq⟩ := List.getElem?_of_mem (zz_as_in (C := C) (L := a0 :: a1 :: a2 :: a3 :: some (.int x) :: t) (i := 4) (w := .int x) rfl)
  refine lv_iinc (x := x) hF.1.1 hF.1.2.1 hd (zz_l_has hL) hq hz (by rw [← hlen]; simp only [List.length_cons]; omega) rfl (fun ls' h' => ?_)
  exact k p e s m args below meth c H locs ls' hF hW hl (zz_l_set (w := .int z) (i := 4) (L := a0 :: a1 :: a2 :: a3 :: some (.int x) :: t) hlen (Or.inr (fun o ho => by cases ho; exact hk)) h')
theorem zz_iinc_5 {a0 a1 a2 a3 a4 : Option Value} {t : List (Option Value)} {j : Int} (z : Int32) (hd : decode M.2.1 pc = .ok (.iinc 5 j, 3)) (hlen : (a0 :: a1 :: a2 :: a3 :: a4 :: some (.int x) :: t).length = M.2.2.1) (hk : zz_ok1 a4 = true) (hz : x + Int32.ofInt j = z) (k : zz_Z C M d mc ms kc ks (pc + 3) (a0 :: a1 :: a2 :: a3 :: a4 :: some (.int z) :: t) st g r n Q) : zz_Z C M d mc ms kc ks pc (a0 :: a1 :: a2 :: a3 :: a4 :: some (.int x) :: t) st g r n Q := by
  intro p e s m args below meth c H locs ls hF hW hl hL
  obtain ⟨q, hq⟩ := List.getElem?_of_mem (zz_as_in (C := C) (L := a0 :: a1 :: a2 :: a3 :: a4 :: some (.int x) :: t) (i := 5) (w := .int x) rfl)
  refine lv_iinc (x := x) hF.1.1 hF.1.2.1 hd (zz_l_has hL) hq hz (by rw [← hlen]; simp only [List.length_cons]; omega) rfl (fun ls' h' => ?_)
  exact k p e s m args below meth c H locs ls' hF hW hl (zz_l_set (w := .int z) (i := 5) (L := a0 :: a1 :: a2 :: a3 :: a4 :: some (.int x) :: t) hlen (Or.inr (fun o ho => by cases ho; exact hk)) h')
theorem zz_iinc_6 {a0 a1 a2 a3 a4 a5 : Option Value} {t : List (Option Value)} {j : Int} (z : Int32) (hd : decode M.2.1 pc = .ok (.iinc 6 j, 3)) (hlen : (a0 :: a1 :: a2 :: a3 :: a4 :: a5 :: some (.int x) :: t).length = M.2.2.1) (hk : zz_ok1 a5 = true) (hz : x + Int32.ofInt j = z) (k : zz_Z C M d mc ms kc ks (pc + 3) (a0 :: a1 :: a2 :: a3 :: a4 :: a5 :: some (.int z) :: t) st g r n Q) : zz_Z C M d mc ms kc ks pc (a0 :: a1 :: a2 :: a3 :: a4 :: a5 :: some (.int x) :: t) st g r n Q := by
  intro p e s m args below meth c H locs ls hF hW hl hL
  obtain ⟨q, hq⟩ := List.getElem?_of_mem (zz_as_in (C := C) (L := a0 :: a1 :: a2 :: a3 :: a4 :: a5 :: some (.int x) :: t) (i := 6) (w := .int x) rfl)
  refine lv_iinc (x := x) hF.1.1 hF.1.2.1 hd (zz_l_has hL) hq hz (by rw [← hlen]; simp only [List.length_cons]; omega) rfl (fun ls' h' => ?_)
  exact k p e s m args below meth c H locs ls' hF hW hl (zz_l_set (w := .int z) (i := 6) (L := a0 :: a1 :: a2 :: a3 :: a4 :: a5 :: some (.int x) :: t) hlen (Or.inr (fun o ho => by cases ho; exact hk)) h')
theorem zz_iinc_7 {a0 a1 a2 a3 a4 a5 a6 : Option Value} {t : List (Option Value)} {j : Int} (z : Int32) (hd : decode M.2.1 pc = .ok (.iinc 7 j, 3)) (hlen : (a0 :: a1 :: a2 :: a3 :: a4 :: a5 :: a6 :: some (.int x) :: t).length = M.2.2.1) (hk : zz_ok1 a6 = true) (hz : x + Int32.ofInt j = z) (k : zz_Z C M d mc ms kc ks (pc + 3) (a0 :: a1 :: a2 :: a3 :: a4 :: a5 :: a6 :: some (.int z) :: t) st g r n Q) : zz_Z C M d mc ms kc ks pc (a0 :: a1 :: a2 :: a3 :: a4 :: a5 :: a6 :: some (.int x) :: t) st g r n Q := by
  intro p e s m args below meth c H locs ls hF hW hl hL
  obtain ⟨q, hq⟩ := List.getElem?_of_mem (zz_as_in (C := C) (L := a0 :: a1 :: a2 :: a3 :: a4 :: a5 :: a6 :: some (.int x) :: t) (i := 7) (w := .int x) rfl)
  refine lv_iinc (x := x) hF.1.1 hF.1.2.1 hd (zz_l_has hL) hq hz (by rw [← hlen]; simp only [List.length_cons]; omega) rfl (fun ls' h' => ?_)
  exact k p e s m args below meth c H locs ls' hF hW hl (zz_l_set (w := .int z) (i := 7) (L := a0 :: a1 :: a2 :: a3 :: a4 :: a5 :: a6 :: some (.int x) :: t) hlen (Or.inr (fun o ho => by cases ho; exact hk)) h')
theorem zz_iinc_8 {a0 a1 a2 a3 a4 a5 a6 a7 : Option Value} {t : List (Option Value)} {j : Int} (z : Int32) (hd : decode M.2.1 pc = .ok (.iinc 8 j, 3)) (hlen : (a0 :: a1 :: a2 :: a3 :: a4 :: a5 :: a6 :: a7 :: some (.int x) :: t).length = M.2.2.1) (hk : zz_ok1 a7 = true) (hz : x + Int32.ofInt j = z) (k : zz_Z C M d mc ms kc ks (pc + 3) (a0 :: a1 :: a2 :: a3 :: a4 :: a5 :: a6 :: a7 :: some (.int z) :: t) st g r n Q) : zz_Z C M d mc ms kc ks pc (a0 :: a1 :: a2 :: a3 :: a4 :: a5 :: a6 :: a7 :: some (.int x) :: t) st g r n Q := by
  intro p e s m args below meth c H locs ls hF hW hl hL
  obtain ⟨q, hq⟩ := List.getElem?_of_mem (zz_as_in (C := C) (L := a0 :: a1 :: a2 :: a3 :: a4 :: a5 :: a6 :: a7 :: some (.int x) :: t) (i := 8) (w := .int x) rfl)
  refine lv_iinc (x := x) hF.1.1 hF.1.2.1 hd (zz_l_has hL) hq hz (by rw [← hlen]; simp only [List.length_cons]; omega) rfl (fun ls' h' => ?_)
  exact k p e s m args below meth c H locs ls' hF hW hl (zz_l_set (w := .int z) (i := 8) (L := a0 :: a1 :: a2 :: a3 :: a4 :: a5 :: a6 :: a7 :: some (.int x) :: t) hlen (Or.inr (fun o ho => by cases ho; exact hk)) h')
theorem zz_iinc_9 {a0 a1 a2 a3 a4 a5 a6 a7 a8 : Option Value} {t : List (Option Value)} {j : Int} (z : Int32) (hd : decode M.2.1 pc = .ok (.iinc 9 j, 3)) (hlen : (a0 :: a1 :: a2 :: a3 :: a4 :: a5 :: a6 :: a7 :: a8 :: some (.int x) :: t).length = M.2.2.1) (hk : zz_ok1 a8 = true) (hz : x + Int32.ofInt j = z) (k : zz_Z C M d mc ms kc ks (pc + 3) (a0 :: a1 :: a2 :: a3 :: a4 :: a5 :: a6 :: a7 :: a8 :: some (.int z) :: t) st g r n Q) : zz_Z C M d mc ms kc ks pc (a0 :: a1 :: a2 :: a3 :: a4 :: a5 :: a6 :: a7 :: a8 :: some (.int x) :: t) st g r n Q := by
  intro p e s m args below meth c H locs ls hF hW hl hL
  obtain ⟨q, hq⟩ := List.getElem?_of_mem (zz_as_in (C := C) (L := a0 :: a1 :: a2 :: a3 :: a4 :: a5 :: a6 :: a7 :: a8 :: some (.int x) :: t) (i := 9) (w := .int x) rfl)
  refine lv_iinc (x := x) hF.1.1 hF.1.2.1 hd (zz_l_has hL) hq hz (by rw [← hlen]; simp only [List.length_cons]; omega) rfl (fun ls' h' => ?_)
  exact k p e s m args below meth c H locs ls' hF hW hl (zz_l_set (w := .int z) (i := 9) (L := a0 :: a1 :: a2 :: a3 :: a4 :: a5 :: a6 :: a7 :: a8 :: some (.int x) :: t) hlen (Or.inr (fun o ho => by cases ho; exact hk)) h')
theorem zz_iinc_10 {a0 a1 a2 a3 a4 a5 a6 a7 a8 a9 : Option Value} {t : List (Option Value)} {j : Int} (z : Int32) (hd : decode M.2.1 pc = .ok (.iinc 10 j, 3)) (hlen : (a0 :: a1 :: a2 :: a3 :: a4 :: a5 :: a6 :: a7 :: a8 :: a9 :: some (.int x) :: t).length = M.2.2.1) (hk : zz_ok1 a9 = true) (hz : x + Int32.ofInt j = z) (k : zz_Z C M d mc ms kc ks (pc + 3) (a0 :: a1 :: a2 :: a3 :: a4 :: a5 :: a6 :: a7 :: a8 :: a9 :: some (.int z) :: t) st g r n Q) : zz_Z C M d mc ms kc ks pc (a0 :: a1 :: a2 :: a3 :: a4 :: a5 :: a6 :: a7 :: a8 :: a9 :: some (.int x) :: t) st g r n Q := by
  intro p e s m args below meth c H locs ls hF hW hl hL
  obtain ⟨q, hq⟩ := List.getElem?_of_mem (zz_as_in (C := C) (L := a0 :: a1 :: a2 :: a3 :: a4 :: a5 :: a6 :: a7 :: a8 :: a9 :: some (.int x) :: t) (i := 10) (w := .int x) rfl)
  refine lv_iinc (x := x) hF.1.1 hF.1.2.1 hd (zz_l_has hL) hq hz (by rw [← hlen]; simp only [List.length_cons]; omega) rfl (fun ls' h' => ?_)
  exact k p e s m args below meth c H locs ls' hF hW hl (zz_l_set (w := .int z) (i := 10) (L := a0 :: a1 :: a2 :: a3 :: a4 :: a5 :: a6 :: a7 :: a8 :: a9 :: some (.int x) :: t) hlen (Or.inr (fun o ho => by cases ho; exact hk)) h')
theorem zz_iinc_11 {a0 a1 a2 a3 a4 a5 a6 a7 a8 a9 a10 : Option Value} {t : List (Option Value)} {j : Int} (z : Int32) (hd : decode M.2.1 pc = .ok (.iinc 11 j, 3)) (hlen : (a0 :: a1 :: a2 :: a3 :: a4 :: a5 :: a6 :: a7 :: a8 :: a9 :: a10 :: some (.int x) :: t).length = M.2.2.1) (hk : zz_ok1 a10 = true) (hz : x + Int32.ofInt j = z) (k : zz_Z C M d mc ms kc ks (pc + 3) (a0 :: a1 :: a2 :: a3 :: a4 :: a5 :: a6 :: a7 :: a8 :: a9 :: a10 :: some (.int z) :: t) st g r n Q) : zz_Z C M d mc ms kc ks pc (a0 :: a1 :: a2 :: a3 :: a4 :: a5 :: a6 :: a7 :: a8 :: a9 :: a10 :: some (.int x) :: t) st g r n Q := by
  intro p e s m args below meth c H locs ls hF hW hl hL
  obtain ⟨q, hq⟩ := List.getElem?_of_mem (zz_as_in (C := C) (L := a0 :: a1 :: a2 :: a3 :: a4 :: a5 :: a6 :: a7 :: a8 :: a9 :: a10 :: some (.int x) :: t) (i := 11) (w := .int x) rfl)
  refine lv_iinc (x := x) hF.1.1 hF.1.2.1 hd (zz_l_has hL) hq hz (by rw [← hlen]; simp only [List.length_cons]; omega) rfl (fun ls' h' => ?_)
  exact k p e s m args below meth c H locs ls' hF hW hl (zz_l_set (w := .int z) (i := 11) (L := a0 :: a1 :: a2 :: a3 :: a4 :: a5 :: a6 :: a7 :: a8 :: a9 :: a10 :: some (.int x) :: t) hlen (Or.inr (fun o ho => by cases ho; exact hk)) h')
theorem zz_iinc_12 {a0 a1 a2 a3 a4 a5 a6 a7 a8 a9 a10 a11 : Option Value} {t : List (Option Value)} {j : Int} (z : Int32) (hd : decode M.2.1 pc = .ok (.iinc 12 j, 3)) (hlen : (a0 :: a1 :: a2 :: a3 :: a4 :: a5 :: a6 :: a7 :: a8 :: a9 :: a10 :: a11 :: some (.int x) :: t).length = M.2.2.1) (hk : zz_ok1 a11 = true) (hz : x + Int32.ofInt j = z) (k : zz_Z C M d mc ms kc ks (pc + 3) (a0 :: a1 :: a2 :: a3 :: a4 :: a5 :: a6 :: a7 :: a8 :: a9 :: a10 :: a11 :: some (.int z) :: t) st g r n Q) : zz_Z C M d mc ms kc ks pc (a0 :: a1 :: a2 :: a3 :: a4 :: a5 :: a6 :: a7 :: a8 :: a9 :: a10 :: a11 :: some (.int x) :: t) st g r n Q := by
  intro p e s m args below meth c H locs ls hF hW hl hL
  obtain ⟨q, hq⟩ := List.getElem?_of_mem (zz_as_in (C := C) (L := a0 :: a1 :: a2 :: a3 :: a4 :: a5 :: a6 :: a7 :: a8 :: a9 :: a10 :: a11 :: some (.int x) :: t) (i := 12) (w := .int x) rfl)
  refine lv_iinc (x := x) hF.1.1 hF.1.2.1 hd (zz_l_has hL) hq hz (by rw [← hlen]; simp only [List.length_cons]; omega) rfl (fun ls' h' => ?_)
  exact k p e s m args below meth c H locs ls' hF hW hl (zz_l_set (w := .int z) (i := 12) (L := a0 :: a1 :: a2 :: a3 :: a4 :: a5 :: a6 :: a7 :: a8 :: a9 :: a10 :: a11 :: some (.int x) :: t) hlen (Or.inr (fun o ho => by cases ho; exact hk)) h')
theorem zz_iinc_13 {a0 a1 a2 a3 a4 a5 a6 a7 a8 a9 a10 a11 a12 : Option Value} {t : List (Option Value)} {j : Int} (z : Int32) (hd : decode M.2.1 pc = .ok (.iinc 13 j, 3)) (hlen : (a0 :: a1 :: a2 :: a3 :: a4 :: a5 :: a6 :: a7 :: a8 :: a9 :: a10 :: a11 :: a12 :: some (.int x) :: t).length = M.2.2.1) (hk : zz_ok1 a12 = true) (hz : x + Int32.ofInt j = z) (k : zz_Z C M d mc ms kc ks (pc + 3) (a0 :: a1 :: a2 :: a3 :: a4 :: a5 :: a6 :: a7 :: a8 :: a9 :: a10 :: a11 :: a12 :: some (.int z) :: t) st g r n Q) : zz_Z C M d mc ms kc ks pc (a0 :: a1 :: a2 :: a3 :: a4 :: a5 :: a6 :: a7 :: a8 :: a9 :: a10 :: a11 :: a12 :: some (.int x) :: t) st g r n Q := by
  intro p e s m args below meth c H locs ls hF hW hl hL
  obtain ⟨q, hq⟩ := List.getElem?_of_mem (zz_as_in (C := C) (L := a0 :: a1 :: a2 :: a3 :: a4 :: a5 :: a6 :: a7 :: a8 :: a9 :: a10 :: a11 :: a12 :: some (.int x) :: t) (i := 13) (w := .int x) rfl)
  refine lv_iinc (x := x) hF.1.1 hF.1.2.1 hd (zz_l_has hL) hq hz (by rw [← hlen]; simp only [List.length_cons]; omega) rfl (fun ls' h' => ?_)
  exact k p e s m args below meth c H locs ls' hF hW hl (zz_l_set (w := .int z) (i := 13) (L := a0 :: a1 :: a2 :: a3 :: a4 :: a5 :: a6 :: a7 :: a8 :: a9 :: a10 :: a11 :: a12 :: some (.int x) :: t) hlen (Or.inr (fun o ho => by cases ho; exact hk)) h')
theorem zz_iret (hr : M.2.2.2 = some .int) (hd : decode M.2.1 pc = .ok (.ireturn, 1)) (hkc : kc ≤ mc) (hks : ks ≤ ms) (hq : Q (some (.int x)) g r n) : zz_Z C M d mc ms kc ks pc L [.int x] g r n Q := by
  intro p e s m args below meth c H locs ls hF hW hl hL
  exact W.widen (k := mc) (n := ms) hkc hks (W.iret (v := x) hF.1.1 hF.1.2.1 (hF.1.2.2.1.trans hr) (fun t ht _ => ⟨some (.int x), g, r, n, rfl, hq, by rw [ht]; exact hW⟩) hl hd hF.1.2.2.2.1)
theorem zz_zret {ty : FieldType} (hr : M.2.2.2 = some ty) (hn : Jvm.narrow ty (.int x) = .int x) (hd : decode M.2.1 pc = .ok (.ireturn, 1)) (hkc : kc ≤ mc) (hks : ks ≤ ms) (hq : Q (some (.int x)) g r n) : zz_Z C M d mc ms kc ks pc L [.int x] g r n Q := by
  intro p e s m args below meth c H locs ls hF hW hl hL
  exact W.widen (k := mc) (n := ms) hkc hks (W.zret (v := x) hF.1.1 hF.1.2.1 (hF.1.2.2.1.trans hr) hn (fun t ht _ => ⟨some (.int x), g, r, n, rfl, hq, by rw [ht]; exact hW⟩) hl hd hF.1.2.2.2.1)
theorem zz_vret (hr : M.2.2.2 = none) (hd : decode M.2.1 pc = .ok (.return_, 1)) (hkc : kc ≤ mc) (hks : ks ≤ ms) (hq : Q none g r n) : zz_Z C M d mc ms kc ks pc L [] g r n Q := by
  intro p e s m args below meth c H locs ls hF hW hl hL
  exact W.widen (k := mc) (n := ms) hkc hks (W.vret hF.1.1 hF.1.2.1 (hF.1.2.2.1.trans hr) (fun t ht _ => ⟨none, g, r, n, rfl, hq, by rw [ht]; exact hW⟩) hl hd hF.1.2.2.2.1)
theorem zz_aret {a : Nat} {rt : FieldType} (hr : M.2.2.2 = some rt) (hrt : (∃ n, rt = .object n) ∨ ∃ t, rt = .array t) (hd : decode M.2.1 pc = .ok (.areturn, 1)) (hkc : kc ≤ mc) (hks : ks ≤ ms) (hq : Q (some (.ref a)) g r n) : zz_Z C M d mc ms kc ks pc L [.ref a] g r n Q := by
  intro p e s m args below meth c H locs ls hF hW hl hL
  exact W.widen (k := mc) (n := ms) hkc hks (W.aret (v := .ref (zz_A C a)) hF.1.1 hF.1.2.1 (hF.1.2.2.1.trans hr) hrt (Or.inr ⟨_, rfl⟩) (fun t ht _ => ⟨some (.ref a), g, r, n, rfl, hq, by rw [ht]; exact hW⟩) hl hd hF.1.2.2.2.1)
end ZZ
end
section
/-! rows of the logic that read or write cells -/
def zz_u (g : zz_G) (k j : Nat) (x : Int32) : zz_G := fun a b => if a = k ∧ b = j then x else g a b
def zz_ur (r : zz_R) (k j : Nat) (o : Option Nat) : zz_R := fun a b => if a = k ∧ b = j then o else r a b
theorem zz_u_same (g : zz_G) (k j : Nat) (x : Int32) : zz_u g k j x k j = x := if_pos ⟨rfl, rfl⟩
theorem zz_u_ne1 (g : zz_G) {k j a b : Nat} (x : Int32) (h : a ≠ k) : zz_u g k j x a b = g a b := if_neg fun q => h q.1
theorem zz_u_ne2 (g : zz_G) {k j a b : Nat} (x : Int32) (h : b ≠ j) : zz_u g k j x a b = g a b := if_neg fun q => h q.2
theorem zz_u_row (g : zz_G) {k j a : Nat} (x : Int32) (h : a ≠ k) : zz_u g k j x a = g a := funext fun b => zz_u_ne1 g x h
theorem zz_ur_row (r : zz_R) {k j a : Nat} (o : Option Nat) (h : a ≠ k) : zz_ur r k j o a = r a := funext fun b => if_neg fun q => h q.1
theorem zz_W.at {C : zz_C} {g : zz_G} {r : zz_R} {n : Nat} {H : Heap} (h : zz_W C g r n H) {k : Nat} (hk : k < n) {sh : Nat × Nat × Nat} (hs : zz_sh k = sh) : va_at C.2.2.2.1 vwCl (zz_S C + k, zz_cel C sh (g k) (r k)) H := hs ▸ h.2.2.1 k hk
theorem zz_W.low {C : zz_C} {g : zz_G} {r : zz_R} {n : Nat} {H : Heap} (h : zz_W C g r n H) {k : Nat} (hk : k < n) : zz_A C k = zz_S C + k := zz_low (Nat.lt_trans hk h.2.1)
theorem zz_W.obj {C : zz_C} {g : zz_G} {r : zz_R} {n : Nat} {H : Heap} (h : zz_W C g r n H) {k ci N : Nat} (hk : k < n) (hs : zz_sh k = (0, ci, N)) : ∃ rr : vw_C, vwCl[ci]? = some rr ∧ t_OB (zz_A C k) (C.2.2.2.1.1 ci) rr.2.2 (C.2.2.2.1.2 ci) H (vp_V ((List.range N).map fun j => zz_fv C (zz_fr ci j) (g k j) (r k j))) := by
  rw [h.low hk]
  exact h.at hk hs
theorem zz_W.ints {C : zz_C} {g : zz_G} {r : zz_R} {n : Nat} {H : Heap} (h : zz_W C g r n H) {k N : Nat} (hk : k < n) (hs : zz_sh k = (1, 0, N)) : H[zz_A C k]? = some (arrV (C.2.2.2.2 0) N (fun j => .int (g k j))) := by
  rw [h.low hk]
  exact h.at hk hs
theorem zz_W.refs {C : zz_C} {g : zz_G} {r : zz_R} {n : Nat} {H : Heap} (h : zz_W C g r n H) {k t N : Nat} (hk : k < n) (hs : zz_sh k = (2, t, N)) : H[zz_A C k]? = some (arrV (C.2.2.2.2 t) N (fun j => va_rf ((r k j).map (zz_A C)))) := by
  rw [h.low hk]
  exact h.at hk hs
/-- one cell written -/
theorem zz_W.put {C : zz_C} {g g' : zz_G} {r r' : zz_R} {n : Nat} {H H1 : Heap} (h : zz_W C g r n H) {k : Nat} (hk : k < n) (hz : H1.size = H.size) (ho : ∀ q : Nat, q ≠ zz_A C k → H1[q]? = H[q]?) (hg : ∀ a, a ≠ k → g' a = g a) (hr : ∀ a, a ≠ k → r' a = r a) (hc : va_at C.2.2.2.1 vwCl (zz_A C k, zz_cel C (zz_sh k) (g' k) (r' k)) H1) : zz_W C g' r' n H1 := by
  have hlow := h.low hk
  refine ⟨hz.trans h.1, h.2.1, fun a ha => ?_, fun q hq => ?_⟩
  · by_cases hak : a = k
    · subst hak
      rw [← hlow]
      exact hc
    · rw [hg a hak, hr a hak]
      exact (h.2.2.1 a ha).kept (ho _ (by rw [hlow]; show zz_S C + a ≠ zz_S C + k; omega))
  · rw [ho q (by rw [hlow]; omega)]
    exact h.2.2.2 q hq
/-- what the tables say of a class, of a field's name in a class's pool -/
def zz_CF (ci : Nat) (Cn : String) (T : u_T) (N : Nat) (ty : Nat → FieldType) : Prop := vwCl[ci]? = some (Cn, T, N) ∧ (∀ w ∈ u_ws Cn T N, w ∈ zz_tbl) ∧ (∀ k, k < N → parseFieldDescriptor (T k).2.2.1 = some (ty k)) ∧ (∀ a, a < N → ∀ b, b < N → a ≠ b → (T a).2.1 ≠ (T b).2.1)
def zz_FL (own : String) (ix ci j N : Nat) (t : FieldType) (fin : Bool) : Prop := ∃ (Cn : String) (T : u_T) (ty : Nat → FieldType), zz_CF ci Cn T N ty ∧ j < N ∧ Cond.fieldLink own ix (T j).1 (T j).2.1 (T j).2.2.1 ∈ zz_tbl ∧ ty j = t ∧ (T j).2.2.2 = fin ∧ (T j).1 = Cn
theorem zz_range {α : Type} {N j : Nat} (f : Nat → α) (h : j < N) : ((List.range N).map f)[j]? = some (f j) := by rw [List.getElem?_map, List.getElem?_range h]; rfl
section ZH
variable {C : zz_C} {M : zz_M} {d mc ms kc ks pc : Nat} {L : List (Option Value)} {st : List Value} {g : zz_G} {r : zz_R} {n : Nat} {Q : zz_Q}
variable {x : Int32} {a k j ci N ix : Nat} {t : FieldType} {fin : Bool}
theorem zz_get (hfl : zz_FL M.1.cls ix ci j N t fin) (hs : zz_sh k = (0, ci, N)) (hk : k < n) {v : Value} (hv : zz_fv C (zz_fr ci j) (g k j) (r k j) = zz_v C v) (hd : decode M.2.1 pc = .ok (.getfield ix, 3)) (kk : zz_Z C M d mc ms kc ks (pc + 3) L (v :: st) g r n Q) : zz_Z C M d mc ms kc ks pc L (.ref k :: st) g r n Q := by
  intro p e s m args below meth c H locs ls hF hW hl hL
  obtain ⟨Cn, T, ty, ⟨hc, hin, hty, hnm⟩, hj, hlink, -, -, -⟩ := hfl
  obtain ⟨rr, h1, cell, q1, q2, q3, q4⟩ := hW.obj hk hs
  have hrr : rr = (Cn, T, N) := Option.some.inj (h1.symm.trans hc)
  subst hrr
  obtain ⟨hS, hfc, kC, hkC, hkind⟩ := hF.2.2.1.1.1 ci _ hc
  obtain ⟨cf, kf, fi, f, hi, hsl⟩ := hS j hj
  refine W.getf (v := zz_v C v) hF.1.1 hF.1.2.1 hF.1.2.2.2.2.2.1 (hF.2.1 _ hlink) hi (u_facts hfc hkC (u_lays hF.2.1 hin hj) hi).1 q1 (by rw [q3]; exact fun h => by cases h) ?_ rfl rfl hd (kk p e s m args below meth c H locs ls hF hW hl hL)
  rw [hsl, q4 j hj]
  show some (vp_V _ j) = _
  simp only [vp_V, List.getD_eq_getElem?_getD, zz_range _ hj, Option.getD_some, hv]
theorem zz_getI (hfl : zz_FL M.1.cls ix ci j N t fin) (hs : zz_sh k = (0, ci, N)) (hf : zz_fr ci j = false) (hk : k < n) (hd : decode M.2.1 pc = .ok (.getfield ix, 3)) (kk : zz_Z C M d mc ms kc ks (pc + 3) L (.int (g k j) :: st) g r n Q) : zz_Z C M d mc ms kc ks pc L (.ref k :: st) g r n Q :=
  zz_get hfl hs hk (v := .int (g k j)) (by rw [hf]; rfl) hd kk
theorem zz_getR (hfl : zz_FL M.1.cls ix ci j N t fin) (hs : zz_sh k = (0, ci, N)) (hf : zz_fr ci j = true) (hk : k < n) (hr : r k j = some a) (hd : decode M.2.1 pc = .ok (.getfield ix, 3)) (kk : zz_Z C M d mc ms kc ks (pc + 3) L (.ref a :: st) g r n Q) : zz_Z C M d mc ms kc ks pc L (.ref k :: st) g r n Q :=
  zz_get hfl hs hk (v := .ref a) (by rw [hf, hr]; rfl) hd kk
theorem zz_getN (hfl : zz_FL M.1.cls ix ci j N t fin) (hs : zz_sh k = (0, ci, N)) (hf : zz_fr ci j = true) (hk : k < n) (hr : r k j = none) (hd : decode M.2.1 pc = .ok (.getfield ix, 3)) (kk : zz_Z C M d mc ms kc ks (pc + 3) L (.null :: st) g r n Q) : zz_Z C M d mc ms kc ks pc L (.ref k :: st) g r n Q :=
  zz_get hfl hs hk (v := .null) (by rw [hf, hr]; rfl) hd kk
/-- a field written: what the cell becomes -/
theorem zz_fld {cell : Cell} {iS : Nat → Nat} {f f' : Nat → Value} {w : Value} (hN : ∀ i, i < N → cell.slots[iS i]? = some (vp_V ((List.range N).map f) i)) (hap : ∀ a b, a < N → b < N → a ≠ b → iS a ≠ iS b) (hj : j < N) (hw : f' j = w) (ho : ∀ i, i ≠ j → f' i = f i) : ∀ i, i < N → (cell.setSlot (iS j) w).slots[iS i]? = some (vp_V ((List.range N).map f') i) := by
  intro i hi
  rw [t_set hN hap hj w i hi]
  by_cases hij : i = j
  · subst hij
    simp [updV, vp_V, zz_range _ hi, hw]
  · simp [updV, vp_V, hij, zz_range _ hi, ho i hij]
theorem zz_put {g' : zz_G} {r' : zz_R} {v : Value} (hfl : zz_FL M.1.cls ix ci j N t fin) (hs : zz_sh k = (0, ci, N)) (hk : k < n) (hfin : fin = false ∨ (M.1.name = "<init>" ∧ ∃ Cn T, vwCl[ci]? = some (Cn, T, N) ∧ Cn = M.1.cls)) (hn : Jvm.narrow t (zz_v C v) = zz_v C v) (hfit : fits t (zz_v C v) = true)
    (hv : zz_fv C (zz_fr ci j) (g' k j) (r' k j) = zz_v C v) (hg1 : ∀ a, a ≠ k → g' a = g a) (hr1 : ∀ a, a ≠ k → r' a = r a) (hg2 : ∀ i, i ≠ j → g' k i = g k i) (hr2 : ∀ i, i ≠ j → r' k i = r k i)
    (hd : decode M.2.1 pc = .ok (.putfield ix, 3)) (kk : zz_Z C M d mc ms kc ks (pc + 3) L st g' r' n Q) : zz_Z C M d mc ms kc ks pc L (v :: .ref k :: st) g r n Q := by
  intro p e s m args below meth c H locs ls hF hW hl hL
  obtain ⟨Cn, T, ty, ⟨hc, hin, hty, hnm⟩, hj, hlink, htj, hfj, hcl⟩ := hfl
  have hap := va_apart (own := M.1.cls) hF.2.1 hin ty hty hnm hF.2.2.1.1 hc
  obtain ⟨rr, h1, cell, q1, q2, q3, q4⟩ := hW.obj hk hs
  have hrr : rr = (Cn, T, N) := Option.some.inj (h1.symm.trans hc)
  subst hrr
  obtain ⟨hS, hfc, kC, hkC, hkind⟩ := hF.2.2.1.1.1 ci _ hc
  obtain ⟨cf, kf, fi, f, hi, hsl⟩ := hS j hj
  have hst := (u_facts hfc hkC (u_lays hF.2.1 hin hj) hi).1
  have hlay := hF.2.1 _ (hin _ (u_in_lay hj))
  have hpd := hty j hj
  rw [htj] at hpd
  have hold : zz_old C (zz_A C k) := by rw [hW.low hk]; exact Nat.le_add_right _ _
  have fin_kk : ∀ H' : Heap, H'[zz_A C k]? = some (cell.setSlot f.slot (zz_v C v)) → H'.size = H.size → (∀ q, q ≠ zz_A C k → H'[q]? = H[q]?) → W p C.1 e (zz_rm d mc ms) s m args below meth c H' (locs ++ [⟨zz_A C k, f.slot⟩]) kc ks (MQ below (zz_end C Q) args s mc ms (zz_old C)) (F0 m (pc + 3) ls (st.map (zz_v C))) := by
    intro H' e1 e2 e3
    refine kk p e s m args below meth c H' _ ls hF (hW.put hk e2 e3 hg1 hr1 ?_) (t_lc hl hold) hL
    rw [hs]
    refine ⟨_, hc, _, e1, q2, q3, ?_⟩
    rw [hsl]
    exact zz_fld q4 hap hj hv (fun i hij => by rw [hg2 i hij, hr2 i hij])
  by_cases hfb : (T j).2.2.2 = true
  · rcases hfin with h0 | ⟨h0, Cn', T', h0c, h0e⟩
    · rw [hfj, h0] at hfb
      cases hfb
    · unfold u_lay at hlay
      rw [if_pos hfb] at hlay
      have hcn : Cn = M.1.cls := by
        have := Option.some.inj (hc.symm.trans h0c)
        rw [← h0e]
        exact congrArg Prod.fst this
      have hcf : m.cls = cf := by
        obtain ⟨_, _, c', _, _, _, -, -, hf', -, -, -, hown2, -⟩ := Cond.laysFinal_spec hlay
        have e1 : c' = cf := by have := hi.symm.trans hf'; simp at this; exact this.1.symm
        rw [hcl, hcn] at hown2
        rw [← e1]
        exact Option.some.inj (hF.1.2.2.2.2.2.1.symm.trans hown2)
      have h6 := u_fits hfc hkC hkind (Or.inr hlay) hi hpd hn hfit
      exact W.putFinK hF.1.1 hF.1.2.1 hF.1.2.2.2.2.2.1 (hF.2.1 _ hlink) hi hst hcf (hF.1.2.2.2.2.2.2.trans h0) (by rw [q2]; exact h6) q1 q3 (by rw [hsl]; exact k2_hasslot (q4 j hj)) rfl rfl hd fin_kk
  · unfold u_lay at hlay
    rw [if_neg hfb] at hlay
    have h6 := u_store hfc hkC hkind hlay hi hpd hn hfit
    exact W.putK hF.1.1 hF.1.2.1 (f := f) ⟨hF.1.2.2.2.2.2.1, hF.2.1 _ hlink, ⟨_, _, _, hi⟩, hst⟩ (by rw [q2]; exact h6) q1 q3 (by rw [hsl]; exact k2_hasslot (q4 j hj)) rfl rfl hd fin_kk
theorem zz_putI (hfl : zz_FL M.1.cls ix ci j N .int false) (hs : zz_sh k = (0, ci, N)) (hf : zz_fr ci j = false) (hk : k < n) (hd : decode M.2.1 pc = .ok (.putfield ix, 3)) (kk : zz_Z C M d mc ms kc ks (pc + 3) L st (zz_u g k j x) r n Q) : zz_Z C M d mc ms kc ks pc L (.int x :: .ref k :: st) g r n Q :=
  zz_put (v := .int x) hfl hs hk (Or.inl rfl) rfl rfl (by rw [hf, zz_u_same]; rfl) (fun a h => zz_u_row g x h) (fun _ _ => rfl) (fun i h => zz_u_ne2 g x h) (fun _ _ => rfl) hd kk
theorem zz_putZ (hfl : zz_FL M.1.cls ix ci j N .boolean false) (hs : zz_sh k = (0, ci, N)) (hf : zz_fr ci j = false) (hk : k < n) (hx : x = 0 ∨ x = 1) (hd : decode M.2.1 pc = .ok (.putfield ix, 3)) (kk : zz_Z C M d mc ms kc ks (pc + 3) L st (zz_u g k j x) r n Q) : zz_Z C M d mc ms kc ks pc L (.int x :: .ref k :: st) g r n Q :=
  zz_put (v := .int x) hfl hs hk (Or.inl rfl) (by rcases hx with rfl | rfl <;> rfl) (by rcases hx with rfl | rfl <;> rfl) (by rw [hf, zz_u_same]; rfl) (fun a h => zz_u_row g x h) (fun _ _ => rfl) (fun i h => zz_u_ne2 g x h) (fun _ _ => rfl) hd kk
theorem zz_putR (hfl : zz_FL M.1.cls ix ci j N t fin) (hs : zz_sh k = (0, ci, N)) (hf : zz_fr ci j = true) (hk : k < n) (hfin : fin = false ∨ (M.1.name = "<init>" ∧ ∃ Cn T, vwCl[ci]? = some (Cn, T, N) ∧ Cn = M.1.cls)) (hn : Jvm.narrow t (.ref (zz_A C a)) = .ref (zz_A C a)) (hfit : fits t (.ref (zz_A C a)) = true) (hd : decode M.2.1 pc = .ok (.putfield ix, 3)) (kk : zz_Z C M d mc ms kc ks (pc + 3) L st g (zz_ur r k j (some a)) n Q) : zz_Z C M d mc ms kc ks pc L (.ref a :: .ref k :: st) g r n Q :=
  zz_put (v := .ref a) hfl hs hk hfin hn hfit (by rw [hf]; show va_rf ((zz_ur r k j (some a) k j).map (zz_A C)) = _; rw [show zz_ur r k j (some a) k j = some a from if_pos ⟨rfl, rfl⟩]; rfl) (fun _ _ => rfl) (fun b h => zz_ur_row r (some a) h) (fun _ _ => rfl) (fun i h => if_neg fun q => h q.2) hd kk
theorem zz_putN (hfl : zz_FL M.1.cls ix ci j N t fin) (hs : zz_sh k = (0, ci, N)) (hf : zz_fr ci j = true) (hk : k < n) (hfin : fin = false ∨ (M.1.name = "<init>" ∧ ∃ Cn T, vwCl[ci]? = some (Cn, T, N) ∧ Cn = M.1.cls)) (hn : Jvm.narrow t .null = .null) (hfit : fits t .null = true) (hd : decode M.2.1 pc = .ok (.putfield ix, 3)) (kk : zz_Z C M d mc ms kc ks (pc + 3) L st g (zz_ur r k j none) n Q) : zz_Z C M d mc ms kc ks pc L (.null :: .ref k :: st) g r n Q :=
  zz_put (v := .null) hfl hs hk hfin hn hfit (by rw [hf]; show va_rf ((zz_ur r k j none k j).map (zz_A C)) = _; rw [show zz_ur r k j none k j = none from if_pos ⟨rfl, rfl⟩]; rfl) (fun _ _ => rfl) (fun b h => zz_ur_row r none h) (fun _ _ => rfl) (fun i h => if_neg fun q => h q.2) hd kk
/-- arrays of ints: the index is the number j -/
theorem zz_idx {i : Int32} (h0 : ¬ i < 0) (hj : i.toNatClampNeg = j) (hlt : j < N) (z : Nat → Value) (cA : ClassId) : ¬ (i < 0 ∨ (arrV cA N z).slots.size ≤ i.toNatClampNeg) := by
  rw [arrV_size, hj]
  intro q
  rcases q with q | q
  · exact h0 q
  · omega
theorem zz_iald {i : Int32} (j : Nat) (hj : i.toNatClampNeg = j) (h0 : ¬ i < 0) (hlt : j < N) (hs : zz_sh k = (1, 0, N)) (hk : k < n) (hd : decode M.2.1 pc = .ok (.iaload, 1)) (kk : zz_Z C M d mc ms kc ks (pc + 1) L (.int (g k j) :: st) g r n Q) : zz_Z C M d mc ms kc ks pc L (.int i :: .ref k :: st) g r n Q := by
  intro p e s m args below meth c H locs ls hF hW hl hL
  exact W.iald (v := .int (g k j)) hF.1.1 hF.1.2.1 (hW.ints hk hs) ((hF.2.2.1.1.2 0 _ rfl).1 N (fun j => .int (g k j))) (fun q => by cases q) (zz_idx h0 hj hlt _ _) (by rw [hj, arrV_read _ _ hlt]) rfl rfl hd (kk p e s m args below meth c H locs ls hF hW hl hL)
theorem zz_iast {i : Int32} (j : Nat) (hj : i.toNatClampNeg = j) (h0 : ¬ i < 0) (hlt : j < N) (hs : zz_sh k = (1, 0, N)) (hk : k < n) (hd : decode M.2.1 pc = .ok (.iastore, 1)) (kk : zz_Z C M d mc ms kc ks (pc + 1) L st (zz_u g k j x) r n Q) : zz_Z C M d mc ms kc ks pc L (.int x :: .int i :: .ref k :: st) g r n Q := by
  intro p e s m args below meth c H locs ls hF hW hl hL
  have hold : zz_old C (zz_A C k) := by rw [hW.low hk]; exact Nat.le_add_right _ _
  refine W.iast (x := x) hF.1.1 hF.1.2.1 (hW.ints hk hs) ((hF.2.2.1.1.2 0 _ rfl).1 N (fun j => .int (g k j))) (fun q => by cases q) (zz_idx h0 hj hlt _ _) rfl rfl hd fun H' e1 e2 e3 => ?_
  refine kk p e s m args below meth c H' _ ls hF (hW.put hk e2 e3 (fun a h => zz_u_row g x h) (fun _ _ => rfl) ?_) (t_lc hl hold) hL
  rw [hs]
  show H'[zz_A C k]? = some (arrV _ N (fun i => .int (zz_u g k j x k i)))
  rw [e1, hj, arrV_store]
  congr 2
  funext q
  by_cases hq : q = j
  · subst hq
    simp [updV, zz_u_same]
  · simp [updV, hq, zz_u_ne2 g x hq]
theorem zz_alenI (hs : zz_sh k = (1, 0, N)) (hk : k < n) {v : Int32} (hv : Int32.ofNat N = v) (hd : decode M.2.1 pc = .ok (.arraylength, 1)) (kk : zz_Z C M d mc ms kc ks (pc + 1) L (.int v :: st) g r n Q) : zz_Z C M d mc ms kc ks pc L (.ref k :: st) g r n Q := by
  intro p e s m args below meth c H locs ls hF hW hl hL
  subst hv
  exact W.alen (n := Int32.ofNat N) hF.1.1 hF.1.2.1 (hW.ints hk hs) ((hF.2.2.1.1.2 0 _ rfl).1 N (fun j => .int (g k j))) (by rw [arrV_size] <;> rfl) rfl rfl hd (kk p e s m args below meth c H locs ls hF hW hl hL)
/-- arrays of references: kinds 1 (Text), 2 (Way), 3 (int[]) -/
theorem zz_aald {i : Int32} {tk : Nat} (j : Nat) (hj : i.toNatClampNeg = j) (h0 : ¬ i < 0) (hlt : j < N) (htk : tk = 1 ∨ tk = 2 ∨ tk = 3) (hs : zz_sh k = (2, tk, N)) (hk : k < n) (hr : r k j = some a) (hd : decode M.2.1 pc = .ok (.aaload, 1)) (kk : zz_Z C M d mc ms kc ks (pc + 1) L (.ref a :: st) g r n Q) : zz_Z C M d mc ms kc ks pc L (.int i :: .ref k :: st) g r n Q := by
  intro p e s m args below meth c H locs ls hF hW hl hL
  have hv : (arrV (C.2.2.2.2 tk) N (fun j => va_rf ((r k j).map (zz_A C)))).slots[i.toNatClampNeg]? = some (.ref (zz_A C a)) := by
    rw [hj, arrV_read _ _ hlt, hr]
    rfl
  have kk' := kk p e s m args below meth c H locs ls hF hW hl hL
  rcases htk with h | h | h <;> subst h
  · exact W.aald (v := .ref (zz_A C a)) (ty := .object "SixFigures$Text") hF.1.1 hF.1.2.1 (hW.refs hk hs) ((hF.2.2.1.1.2 1 _ rfl).1 N _) rfl (fun q => by cases q) (zz_idx h0 hj hlt _ _) hv rfl rfl hd kk'
  · exact W.aald (v := .ref (zz_A C a)) (ty := .object "SixFigures$Way") hF.1.1 hF.1.2.1 (hW.refs hk hs) ((hF.2.2.1.1.2 2 _ rfl).1 N _) rfl (fun q => by cases q) (zz_idx h0 hj hlt _ _) hv rfl rfl hd kk'
  · exact W.aald (v := .ref (zz_A C a)) (ty := .array .int) hF.1.1 hF.1.2.1 (hW.refs hk hs) ((hF.2.2.1.1.2 3 _ rfl).1 N _) rfl (fun q => by cases q) (zz_idx h0 hj hlt _ _) hv rfl rfl hd kk'
end ZH
end
section
/-! calls -/
theorem zz_good {ws : List Cond} (h : ∀ w ∈ ws, w ∈ zz_tbl) : GoodIn zz_tbl ws := fun w hw => ⟨h w hw, good_of_word (List.mem_filter.mp (h w hw)).2⟩
theorem zz_ws_in {M : zz_M} (h : Cond.code M.1 M.2.1 M.2.2.1 M.2.2.2 ∈ zz_tbl) : ∀ w ∈ zz_ws M, w ∈ zz_tbl := fun w hw => (List.mem_cons.mp hw).elim (fun e => e ▸ h) id
def zz_notMH (y : MethodName) (n : Nat) : Prop := y.cls ≠ "java/lang/invoke/MethodHandle" ∧ y.cls ≠ "java/lang/invoke/VarHandle" ∧ (parseMethodDescriptor y.desc).map (fun d => d.parameters.length) = some n
/-- a method of a class of ours, by its own name (final, or private) -/
def zz_CV (own : String) (ix ci N na : Nat) (M : zz_M) : Prop := (Cond.methodLink own ix M.1 ∈ zz_tbl ∧ Cond.instanceMethod M.1 ∈ zz_tbl ∧ Cond.selects M.1.cls M.1 M.1 ∈ zz_tbl ∧ Cond.initialized M.1.cls ∈ zz_tbl ∧ Cond.code M.1 M.2.1 M.2.2.1 M.2.2.2 ∈ zz_tbl) ∧ zz_notMH M.1 na ∧ M.2.2.1 ≤ 21 ∧ ∃ T, vwCl[ci]? = some (M.1.cls, T, N)
/-- a static one -/
def zz_CS (own : String) (ix na : Nat) (M : zz_M) : Prop := (Cond.methodLink own ix M.1 ∈ zz_tbl ∧ Cond.static M.1 ∈ zz_tbl ∧ Cond.initialized M.1.cls ∈ zz_tbl ∧ Cond.code M.1 M.2.1 M.2.2.1 M.2.2.2 ∈ zz_tbl) ∧ zz_notMH M.1 na ∧ M.2.2.1 ≤ 21
theorem zz_room {d : Nat} {mc ms mc' ms' maxL : Nat} (h : maxL ≤ 21) : (zz_rm d mc' ms').frames + 1 ≤ (zz_rm (d + 1) mc ms).frames ∧ 8 + (maxL + 11) + (zz_rm d mc' ms').locals ≤ (zz_rm (d + 1) mc ms).locals := ⟨Nat.le_refl _, by show 8 + (maxL + 11) + 40 * d ≤ 40 * (d + 1); omega⟩
section ZC
variable {C : zz_C} {M M' : zz_M} {d mc ms mc' ms' kc ks pc : Nat} {L : List (Option Value)} {st : List Value} {g : zz_G} {r : zz_R} {n : Nat} {Q Q' : zz_Q}
variable {k ci N ix na : Nat}
theorem zz_blind {as : List Value} : FrameBlind (va_Pc (as.map (zz_v C)) (fun U => zz_W C g r n U.heap ∧ zz_K C U)) := fun a U fr mk q => ⟨q.1, q.2.1, zz_K.same (u := U) rfl q.2.2⟩
/-- behind a call -/
theorem zz_back {p : Program} {e : Env} {R : Room} {s : State} {m : MethodId} {args av : Array Value} {below : List Frame} {meth : Method} {c : Code} {H : Heap} {locs : List Loc} {cells slots : Nat} {Qw : State → Prop} {ls : Array Slot} {st0 rest : List Value}
    (hr : va_Run p C.1 e R s m args below meth c H locs cells slots mc' ms' (F0 m pc ls st0) rest (zz_end C Q' av) (zz_old C)) (hl : ∀ q ∈ locs, zz_old C q.base)
    (kk : ∀ (v : Option Value) (g' : zz_G) (r' : zz_R) (n' : Nat) (H1 : Heap) (locs1 : List Loc), Q' v g' r' n' → zz_W C g' r' n' H1 → (∀ q ∈ locs1, zz_old C q.base) → W p C.1 e R s m args below meth c H1 locs1 (cells + mc') (slots + ms') Qw (F0 m (pc + 3) ls ((v.map (zz_v C)).toList ++ rest))) : W p C.1 e R s m args below meth c H locs cells slots Qw (F0 m pc ls st0) := by
  intro T hT X
  obtain ⟨v, st₀, t, T', Lo, h0, X', hL, e1, e2, ⟨v', g', r', n', hv, hq, hw⟩, hst⟩ := hr T hT X
  cases hv
  obtain ⟨t2, a1, b1⟩ := kk v' g' r' n' T'.heap (locs ++ Lo) hq (by rw [e1]; exact hw) (t_lL hl hL) T' rfl X'
  exact ⟨t2, hst t2 a1, b1⟩
theorem zz_callVg {as : List Value} (hcl : zz_CV M.1.cls ix ci N na M') (hna : as.length = na) (hs : zz_sh k = (0, ci, N)) (hk : k < n) (hcat : (st.map fun v => v.category).sum ≤ 8) (hmc : kc + mc' ≤ mc) (hms : ks + ms' ≤ ms) (hd : decode M.2.1 pc = .ok (.invokevirtual ix, 3)) (hT : zz_T C M' d mc' ms' (.ref k :: as) g r n Q')
    (kk : ∀ v g' r' n', Q' v g' r' n' → zz_Z C M (d + 1) mc ms (kc + mc') (ks + ms') (pc + 3) L (v.toList ++ st) g' r' n' Q) : zz_Z C M (d + 1) mc ms kc ks pc L (as.reverse ++ .ref k :: st) g r n Q := by
  intro p e s m args below meth c H locs ls hF hW hl hL
  obtain ⟨⟨w1, w2, w3, w4, w5⟩, hmh, hml, T, hci⟩ := hcl
  have hst : (as.reverse ++ Value.ref k :: st).map (zz_v C) = (as.map (zz_v C)).reverse ++ .ref (zz_A C k) :: st.map (zz_v C) := by rw [List.map_append, List.map_reverse]; rfl
  rw [hst]
  refine zz_back (va_runV (C := M'.1.cls) (As := as.map (zz_v C)) (n := na) (nL := M.2.2.1) ⟨hF.1.1, hF.1.2.1, hF.1.2.2.2.2.1, hF.1.2.2.2.2.2.1, hF.2.1⟩ hT
    (cwV na hF.2.1 (zz_good fun w hw => ?_) rfl rfl rfl ⟨rfl, hmh⟩ (zz_room hml))
    ⟨zz_blind (as := .ref k :: as), ?_, fun U hU hW1 => ⟨rfl, by rw [hU]; exact hW, hF.2.2.1.warm hW1⟩⟩ rfl (by rw [List.length_map]; exact hna) hL.1 rfl (lv_room (by rw [zz_cats]; exact hcat)) hd ⟨hmc, hms⟩) hl ?_
  · rcases List.mem_append.mp hw with h | h
    · simp only [List.mem_cons, List.not_mem_nil, or_false] at h
      rcases h with rfl | rfl | rfl | rfl
      · exact w1
      · exact w2
      · exact w3
      · exact w4
    · exact zz_ws_in w5 w h
  · obtain ⟨rr, h1, cell, q1, q2, q3, -⟩ := hW.obj hk hs
    exact ⟨cell, q1, by rw [q3]; rfl, by rw [q2]; exact (hF.2.2.1.1.1 ci _ hci).2.1⟩
  · intro v g' r' n' H1 locs1 hq hW1 hl1
    have := kk v g' r' n' hq p e s m args below meth c H1 locs1 ls hF hW1 hl1 hL
    rw [List.map_append] at this
    have e2 : (v.toList).map (zz_v C) = (v.map (zz_v C)).toList := by cases v <;> rfl
    rw [e2] at this
    exact this
theorem zz_callSg {as : List Value} (hcl : zz_CS M.1.cls ix na M') (hna : as.length = na) (hcat : (st.map fun v => v.category).sum ≤ 8) (hmc : kc + mc' ≤ mc) (hms : ks + ms' ≤ ms) (hd : decode M.2.1 pc = .ok (.invokestatic ix, 3)) (hT : zz_T C M' d mc' ms' as g r n Q')
    (kk : ∀ v g' r' n', Q' v g' r' n' → zz_Z C M (d + 1) mc ms (kc + mc') (ks + ms') (pc + 3) L (v.toList ++ st) g' r' n' Q) : zz_Z C M (d + 1) mc ms kc ks pc L (as.reverse ++ st) g r n Q := by
  intro p e s m args below meth c H locs ls hF hW hl hL
  obtain ⟨⟨w1, w2, w4, w5⟩, hmh, hml⟩ := hcl
  have hst : (as.reverse ++ st).map (zz_v C) = (as.map (zz_v C)).reverse ++ st.map (zz_v C) := by rw [List.map_append, List.map_reverse]
  rw [hst]
  refine zz_back (va_runS (As := as.map (zz_v C)) (n := na) (nL := M.2.2.1) ⟨hF.1.1, hF.1.2.1, hF.1.2.2.2.2.1, hF.1.2.2.2.2.2.1, hF.2.1⟩ hT
    (va_cwS na hF.2.1 (zz_good fun w hw => ?_) rfl rfl rfl hmh (zz_room hml))
    ⟨zz_blind (as := as), fun U hU hW1 => ⟨rfl, by rw [hU]; exact hW, hF.2.2.1.warm hW1⟩⟩ rfl (by rw [List.length_map]; exact hna) hL.1 rfl (lv_room (by rw [zz_cats]; exact hcat)) hd ⟨hmc, hms⟩) hl ?_
  · rcases List.mem_append.mp hw with h | h
    · simp only [List.mem_cons, List.not_mem_nil, or_false] at h
      rcases h with rfl | rfl | rfl
      · exact w1
      · exact w2
      · exact w4
    · exact zz_ws_in w5 w h
  · intro v g' r' n' H1 locs1 hq hW1 hl1
    have := kk v g' r' n' hq p e s m args below meth c H1 locs1 ls hF hW1 hl1 hL
    rw [List.map_append] at this
    have e2 : (v.toList).map (zz_v C) = (v.map (zz_v C)).toList := by cases v <;> rfl
    rw [e2] at this
    exact this
theorem zz_callV0i (hcl : zz_CV M.1.cls ix ci N 0 M') (hs : zz_sh k = (0, ci, N)) (hk : k < n) (hcat : (st.map fun v => v.category).sum ≤ 8) (hmc : kc + mc' ≤ mc) (hms : ks + ms' ≤ ms) (hd : decode M.2.1 pc = .ok (.invokevirtual ix, 3)) (hT : zz_T C M' d mc' ms' (.ref k :: []) g r n (fun v g' r' n' => ∃ z, v = some z ∧ zz_Z C M (d + 1) mc ms (kc + mc') (ks + ms') (pc + 3) L (z :: st) g' r' n' Q)) : zz_Z C M (d + 1) mc ms kc ks pc L (.ref k :: st) g r n Q :=
  zz_callVg (as := []) hcl rfl hs hk hcat hmc hms hd hT (fun v g' r' n' h => by obtain ⟨z, rfl, h⟩ := h; exact h)
theorem zz_callV0v (hcl : zz_CV M.1.cls ix ci N 0 M') (hs : zz_sh k = (0, ci, N)) (hk : k < n) (hcat : (st.map fun v => v.category).sum ≤ 8) (hmc : kc + mc' ≤ mc) (hms : ks + ms' ≤ ms) (hd : decode M.2.1 pc = .ok (.invokevirtual ix, 3)) (hT : zz_T C M' d mc' ms' (.ref k :: []) g r n (fun v g' r' n' => v = none ∧ zz_Z C M (d + 1) mc ms (kc + mc') (ks + ms') (pc + 3) L st g' r' n' Q)) : zz_Z C M (d + 1) mc ms kc ks pc L (.ref k :: st) g r n Q :=
  zz_callVg (as := []) hcl rfl hs hk hcat hmc hms hd hT (fun v g' r' n' h => by obtain ⟨rfl, h⟩ := h; exact h)
theorem zz_callS0i (hcl : zz_CS M.1.cls ix 0 M') (hcat : (st.map fun v => v.category).sum ≤ 8) (hmc : kc + mc' ≤ mc) (hms : ks + ms' ≤ ms) (hd : decode M.2.1 pc = .ok (.invokestatic ix, 3)) (hT : zz_T C M' d mc' ms' [] g r n (fun v g' r' n' => ∃ z, v = some z ∧ zz_Z C M (d + 1) mc ms (kc + mc') (ks + ms') (pc + 3) L (z :: st) g' r' n' Q)) : zz_Z C M (d + 1) mc ms kc ks pc L st g r n Q :=
  zz_callSg (as := []) hcl rfl hcat hmc hms hd hT (fun v g' r' n' h => by obtain ⟨z, rfl, h⟩ := h; exact h)
theorem zz_callS0v (hcl : zz_CS M.1.cls ix 0 M') (hcat : (st.map fun v => v.category).sum ≤ 8) (hmc : kc + mc' ≤ mc) (hms : ks + ms' ≤ ms) (hd : decode M.2.1 pc = .ok (.invokestatic ix, 3)) (hT : zz_T C M' d mc' ms' [] g r n (fun v g' r' n' => v = none ∧ zz_Z C M (d + 1) mc ms (kc + mc') (ks + ms') (pc + 3) L st g' r' n' Q)) : zz_Z C M (d + 1) mc ms kc ks pc L st g r n Q :=
  zz_callSg (as := []) hcl rfl hcat hmc hms hd hT (fun v g' r' n' h => by obtain ⟨rfl, h⟩ := h; exact h)
theorem zz_callV1i {x1 : Value} (hcl : zz_CV M.1.cls ix ci N 1 M') (hs : zz_sh k = (0, ci, N)) (hk : k < n) (hcat : (st.map fun v => v.category).sum ≤ 8) (hmc : kc + mc' ≤ mc) (hms : ks + ms' ≤ ms) (hd : decode M.2.1 pc = .ok (.invokevirtual ix, 3)) (hT : zz_T C M' d mc' ms' (.ref k :: [x1]) g r n (fun v g' r' n' => ∃ z, v = some z ∧ zz_Z C M (d + 1) mc ms (kc + mc') (ks + ms') (pc + 3) L (z :: st) g' r' n' Q)) : zz_Z C M (d + 1) mc ms kc ks pc L (x1 :: .ref k :: st) g r n Q :=
  zz_callVg (as := [x1]) hcl rfl hs hk hcat hmc hms hd hT (fun v g' r' n' h => by obtain ⟨z, rfl, h⟩ := h; exact h)
theorem zz_callV1v {x1 : Value} (hcl : zz_CV M.1.cls ix ci N 1 M') (hs : zz_sh k = (0, ci, N)) (hk : k < n) (hcat : (st.map fun v => v.category).sum ≤ 8) (hmc : kc + mc' ≤ mc) (hms : ks + ms' ≤ ms) (hd : decode M.2.1 pc = .ok (.invokevirtual ix, 3)) (hT : zz_T C M' d mc' ms' (.ref k :: [x1]) g r n (fun v g' r' n' => v = none ∧ zz_Z C M (d + 1) mc ms (kc + mc') (ks + ms') (pc + 3) L st g' r' n' Q)) : zz_Z C M (d + 1) mc ms kc ks pc L (x1 :: .ref k :: st) g r n Q :=
  zz_callVg (as := [x1]) hcl rfl hs hk hcat hmc hms hd hT (fun v g' r' n' h => by obtain ⟨rfl, h⟩ := h; exact h)
theorem zz_callS1i {x1 : Value} (hcl : zz_CS M.1.cls ix 1 M') (hcat : (st.map fun v => v.category).sum ≤ 8) (hmc : kc + mc' ≤ mc) (hms : ks + ms' ≤ ms) (hd : decode M.2.1 pc = .ok (.invokestatic ix, 3)) (hT : zz_T C M' d mc' ms' [x1] g r n (fun v g' r' n' => ∃ z, v = some z ∧ zz_Z C M (d + 1) mc ms (kc + mc') (ks + ms') (pc + 3) L (z :: st) g' r' n' Q)) : zz_Z C M (d + 1) mc ms kc ks pc L (x1 :: st) g r n Q :=
  zz_callSg (as := [x1]) hcl rfl hcat hmc hms hd hT (fun v g' r' n' h => by obtain ⟨z, rfl, h⟩ := h; exact h)
theorem zz_callS1v {x1 : Value} (hcl : zz_CS M.1.cls ix 1 M') (hcat : (st.map fun v => v.category).sum ≤ 8) (hmc : kc + mc' ≤ mc) (hms : ks + ms' ≤ ms) (hd : decode M.2.1 pc = .ok (.invokestatic ix, 3)) (hT : zz_T C M' d mc' ms' [x1] g r n (fun v g' r' n' => v = none ∧ zz_Z C M (d + 1) mc ms (kc + mc') (ks + ms') (pc + 3) L st g' r' n' Q)) : zz_Z C M (d + 1) mc ms kc ks pc L (x1 :: st) g r n Q :=
  zz_callSg (as := [x1]) hcl rfl hcat hmc hms hd hT (fun v g' r' n' h => by obtain ⟨rfl, h⟩ := h; exact h)
theorem zz_callV2i {x1 x2 : Value} (hcl : zz_CV M.1.cls ix ci N 2 M') (hs : zz_sh k = (0, ci, N)) (hk : k < n) (hcat : (st.map fun v => v.category).sum ≤ 8) (hmc : kc + mc' ≤ mc) (hms : ks + ms' ≤ ms) (hd : decode M.2.1 pc = .ok (.invokevirtual ix, 3)) (hT : zz_T C M' d mc' ms' (.ref k :: [x1, x2]) g r n (fun v g' r' n' => ∃ z, v = some z ∧ zz_Z C M (d + 1) mc ms (kc + mc') (ks + ms') (pc + 3) L (z :: st) g' r' n' Q)) : zz_Z C M (d + 1) mc ms kc ks pc L (x2 :: x1 :: .ref k :: st) g r n Q :=
  zz_callVg (as := [x1, x2]) hcl rfl hs hk hcat hmc hms hd hT (fun v g' r' n' h => by obtain ⟨z, rfl, h⟩ := h; exact h)
theorem zz_callV2v {x1 x2 : Value} (hcl : zz_CV M.1.cls ix ci N 2 M') (hs : zz_sh k = (0, ci, N)) (hk : k < n) (hcat : (st.map fun v => v.category).sum ≤ 8) (hmc : kc + mc' ≤ mc) (hms : ks + ms' ≤ ms) (hd : decode M.2.1 pc = .ok (.invokevirtual ix, 3)) (hT : zz_T C M' d mc' ms' (.ref k :: [x1, x2]) g r n (fun v g' r' n' => v = none ∧ zz_Z C M (d + 1) mc ms (kc + mc') (ks + ms') (pc + 3) L st g' r' n' Q)) : zz_Z C M (d + 1) mc ms kc ks pc L (x2 :: x1 :: .ref k :: st) g r n Q :=
  zz_callVg (as := [x1, x2]) hcl rfl hs hk hcat hmc hms hd hT (fun v g' r' n' h => by obtain ⟨rfl, h⟩ := h; exact h)
theorem zz_callS2i {x1 x2 : Value} (hcl : zz_CS M.1.cls ix 2 M') (hcat : (st.map fun v => v.category).sum ≤ 8) (hmc : kc + mc' ≤ mc) (hms : ks + ms' ≤ ms) (hd : decode M.2.1 pc = .ok (.invokestatic ix, 3)) (hT : zz_T C M' d mc' ms' [x1, x2] g r n (fun v g' r' n' => ∃ z, v = some z ∧ zz_Z C M (d + 1) mc ms (kc + mc') (ks + ms') (pc + 3) L (z :: st) g' r' n' Q)) : zz_Z C M (d + 1) mc ms kc ks pc L (x2 :: x1 :: st) g r n Q :=
  zz_callSg (as := [x1, x2]) hcl rfl hcat hmc hms hd hT (fun v g' r' n' h => by obtain ⟨z, rfl, h⟩ := h; exact h)
theorem zz_callS2v {x1 x2 : Value} (hcl : zz_CS M.1.cls ix 2 M') (hcat : (st.map fun v => v.category).sum ≤ 8) (hmc : kc + mc' ≤ mc) (hms : ks + ms' ≤ ms) (hd : decode M.2.1 pc = .ok (.invokestatic ix, 3)) (hT : zz_T C M' d mc' ms' [x1, x2] g r n (fun v g' r' n' => v = none ∧ zz_Z C M (d + 1) mc ms (kc + mc') (ks + ms') (pc + 3) L st g' r' n' Q)) : zz_Z C M (d + 1) mc ms kc ks pc L (x2 :: x1 :: st) g r n Q :=
  zz_callSg (as := [x1, x2]) hcl rfl hcat hmc hms hd hT (fun v g' r' n' h => by obtain ⟨rfl, h⟩ := h; exact h)
theorem zz_callV3i {x1 x2 x3 : Value} (hcl : zz_CV M.1.cls ix ci N 3 M') (hs : zz_sh k = (0, ci, N)) (hk : k < n) (hcat : (st.map fun v => v.category).sum ≤ 8) (hmc : kc + mc' ≤ mc) (hms : ks + ms' ≤ ms) (hd : decode M.2.1 pc = .ok (.invokevirtual ix, 3)) (hT : zz_T C M' d mc' ms' (.ref k :: [x1, x2, x3]) g r n (fun v g' r' n' => ∃ z, v = some z ∧ zz_Z C M (d + 1) mc ms (kc + mc') (ks + ms') (pc + 3) L (z :: st) g' r' n' Q)) : zz_Z C M (d + 1) mc ms kc ks pc L (x3 :: x2 :: x1 :: .ref k :: st) g r n Q :=
  zz_callVg (as := [x1, x2, x3]) hcl rfl hs hk hcat hmc hms hd hT (fun v g' r' n' h => by obtain ⟨z, rfl, h⟩ := h; exact h)
theorem zz_callV3v {x1 x2 x3 : Value} (hcl : zz_CV M.1.cls ix ci N 3 M') (hs : zz_sh k = (0, ci, N)) (hk : k < n) (hcat : (st.map fun v => v.category).sum ≤ 8) (hmc : kc + mc' ≤ mc) (hms : ks + ms' ≤ ms) (hd : decode M.2.1 pc = .ok (.invokevirtual ix, 3)) (hT : zz_T C M' d mc' ms' (.ref k :: [x1, x2, x3]) g r n (fun v g' r' n' => v = none ∧ zz_Z C M (d + 1) mc ms (kc + mc') (ks + ms') (pc + 3) L st g' r' n' Q)) : zz_Z C M (d + 1) mc ms kc ks pc L (x3 :: x2 :: x1 :: .ref k :: st) g r n Q :=
  zz_callVg (as := [x1, x2, x3]) hcl rfl hs hk hcat hmc hms hd hT (fun v g' r' n' h => by obtain ⟨rfl, h⟩ := h; exact h)
theorem zz_callS3i {x1 x2 x3 : Value} (hcl : zz_CS M.1.cls ix 3 M') (hcat : (st.map fun v => v.category).sum ≤ 8) (hmc : kc + mc' ≤ mc) (hms : ks + ms' ≤ ms) (hd : decode M.2.1 pc = .ok (.invokestatic ix, 3)) (hT : zz_T C M' d mc' ms' [x1, x2, x3] g r n (fun v g' r' n' => ∃ z, v = some z ∧ zz_Z C M (d + 1) mc ms (kc + mc') (ks + ms') (pc + 3) L (z :: st) g' r' n' Q)) : zz_Z C M (d + 1) mc ms kc ks pc L (x3 :: x2 :: x1 :: st) g r n Q :=
  zz_callSg (as := [x1, x2, x3]) hcl rfl hcat hmc hms hd hT (fun v g' r' n' h => by obtain ⟨z, rfl, h⟩ := h; exact h)
theorem zz_callS3v {x1 x2 x3 : Value} (hcl : zz_CS M.1.cls ix 3 M') (hcat : (st.map fun v => v.category).sum ≤ 8) (hmc : kc + mc' ≤ mc) (hms : ks + ms' ≤ ms) (hd : decode M.2.1 pc = .ok (.invokestatic ix, 3)) (hT : zz_T C M' d mc' ms' [x1, x2, x3] g r n (fun v g' r' n' => v = none ∧ zz_Z C M (d + 1) mc ms (kc + mc') (ks + ms') (pc + 3) L st g' r' n' Q)) : zz_Z C M (d + 1) mc ms kc ks pc L (x3 :: x2 :: x1 :: st) g r n Q :=
  zz_callSg (as := [x1, x2, x3]) hcl rfl hcat hmc hms hd hT (fun v g' r' n' h => by obtain ⟨rfl, h⟩ := h; exact h)
theorem zz_callV4i {x1 x2 x3 x4 : Value} (hcl : zz_CV M.1.cls ix ci N 4 M') (hs : zz_sh k = (0, ci, N)) (hk : k < n) (hcat : (st.map fun v => v.category).sum ≤ 8) (hmc : kc + mc' ≤ mc) (hms : ks + ms' ≤ ms) (hd : decode M.2.1 pc = .ok (.invokevirtual ix, 3)) (hT : zz_T C M' d mc' ms' (.ref k :: [x1, x2, x3, x4]) g r n (fun v g' r' n' => ∃ z, v = some z ∧ zz_Z C M (d + 1) mc ms (kc + mc') (ks + ms') (pc + 3) L (z :: st) g' r' n' Q)) : zz_Z C M (d + 1) mc ms kc ks pc L (x4 :: x3 :: x2 :: x1 :: .ref k :: st) g r n Q :=
  zz_callVg (as := [x1, x2, x3, x4]) hcl rfl hs hk hcat hmc hms hd hT (fun v g' r' n' h => by obtain ⟨z, rfl, h⟩ := h; exact h)
theorem zz_callV4v {x1 x2 x3 x4 : Value} (hcl : zz_CV M.1.cls ix ci N 4 M') (hs : zz_sh k = (0, ci, N)) (hk : k < n) (hcat : (st.map fun v => v.category).sum ≤ 8) (hmc : kc + mc' ≤ mc) (hms : ks + ms' ≤ ms) (hd : decode M.2.1 pc = .ok (.invokevirtual ix, 3)) (hT : zz_T C M' d mc' ms' (.ref k :: [x1, x2, x3, x4]) g r n (fun v g' r' n' => v = none ∧ zz_Z C M (d + 1) mc ms (kc + mc') (ks + ms') (pc + 3) L st g' r' n' Q)) : zz_Z C M (d + 1) mc ms kc ks pc L (x4 :: x3 :: x2 :: x1 :: .ref k :: st) g r n Q :=
  zz_callVg (as := [x1, x2, x3, x4]) hcl rfl hs hk hcat hmc hms hd hT (fun v g' r' n' h => by obtain ⟨rfl, h⟩ := h; exact h)
theorem zz_callS4i {x1 x2 x3 x4 : Value} (hcl : zz_CS M.1.cls ix 4 M') (hcat : (st.map fun v => v.category).sum ≤ 8) (hmc : kc + mc' ≤ mc) (hms : ks + ms' ≤ ms) (hd : decode M.2.1 pc = .ok (.invokestatic ix, 3)) (hT : zz_T C M' d mc' ms' [x1, x2, x3, x4] g r n (fun v g' r' n' => ∃ z, v = some z ∧ zz_Z C M (d + 1) mc ms (kc + mc') (ks + ms') (pc + 3) L (z :: st) g' r' n' Q)) : zz_Z C M (d + 1) mc ms kc ks pc L (x4 :: x3 :: x2 :: x1 :: st) g r n Q :=
  zz_callSg (as := [x1, x2, x3, x4]) hcl rfl hcat hmc hms hd hT (fun v g' r' n' h => by obtain ⟨z, rfl, h⟩ := h; exact h)
theorem zz_callS4v {x1 x2 x3 x4 : Value} (hcl : zz_CS M.1.cls ix 4 M') (hcat : (st.map fun v => v.category).sum ≤ 8) (hmc : kc + mc' ≤ mc) (hms : ks + ms' ≤ ms) (hd : decode M.2.1 pc = .ok (.invokestatic ix, 3)) (hT : zz_T C M' d mc' ms' [x1, x2, x3, x4] g r n (fun v g' r' n' => v = none ∧ zz_Z C M (d + 1) mc ms (kc + mc') (ks + ms') (pc + 3) L st g' r' n' Q)) : zz_Z C M (d + 1) mc ms kc ks pc L (x4 :: x3 :: x2 :: x1 :: st) g r n Q :=
  zz_callSg (as := [x1, x2, x3, x4]) hcl rfl hcat hmc hms hd hT (fun v g' r' n' h => by obtain ⟨rfl, h⟩ := h; exact h)
theorem zz_callV5i {x1 x2 x3 x4 x5 : Value} (hcl : zz_CV M.1.cls ix ci N 5 M') (hs : zz_sh k = (0, ci, N)) (hk : k < n) (hcat : (st.map fun v => v.category).sum ≤ 8) (hmc : kc + mc' ≤ mc) (hms : ks + ms' ≤ ms) (hd : decode M.2.1 pc = .ok (.invokevirtual ix, 3)) (hT : zz_T C M' d mc' ms' (.ref k :: [x1, x2, x3, x4, x5]) g r n (fun v g' r' n' => ∃ z, v = some z ∧ zz_Z C M (d + 1) mc ms (kc + mc') (ks + ms') (pc + 3) L (z :: st) g' r' n' Q)) : zz_Z C M (d + 1) mc ms kc ks pc L (x5 :: x4 :: x3 :: x2 :: x1 :: .ref k :: st) g r n Q :=
  zz_callVg (as := [x1, x2, x3, x4, x5]) hcl rfl hs hk hcat hmc hms hd hT (fun v g' r' n' h => by obtain ⟨z, rfl, h⟩ := h; exact h)
theorem zz_callV5v {x1 x2 x3 x4 x5 : Value} (hcl : zz_CV M.1.cls ix ci N 5 M') (hs : zz_sh k = (0, ci, N)) (hk : k < n) (hcat : (st.map fun v => v.category).sum ≤ 8) (hmc : kc + mc' ≤ mc) (hms : ks + ms' ≤ ms) (hd : decode M.2.1 pc = .ok (.invokevirtual ix, 3)) (hT : zz_T C M' d mc' ms' (.ref k :: [x1, x2, x3, x4, x5]) g r n (fun v g' r' n' => v = none ∧ zz_Z C M (d + 1) mc ms (kc + mc') (ks + ms') (pc + 3) L st g' r' n' Q)) : zz_Z C M (d + 1) mc ms kc ks pc L (x5 :: x4 :: x3 :: x2 :: x1 :: .ref k :: st) g r n Q :=
  zz_callVg (as := [x1, x2, x3, x4, x5]) hcl rfl hs hk hcat hmc hms hd hT (fun v g' r' n' h => by obtain ⟨rfl, h⟩ := h; exact h)
theorem zz_callS5i {x1 x2 x3 x4 x5 : Value} (hcl : zz_CS M.1.cls ix 5 M') (hcat : (st.map fun v => v.category).sum ≤ 8) (hmc : kc + mc' ≤ mc) (hms : ks + ms' ≤ ms) (hd : decode M.2.1 pc = .ok (.invokestatic ix, 3)) (hT : zz_T C M' d mc' ms' [x1, x2, x3, x4, x5] g r n (fun v g' r' n' => ∃ z, v = some z ∧ zz_Z C M (d + 1) mc ms (kc + mc') (ks + ms') (pc + 3) L (z :: st) g' r' n' Q)) : zz_Z C M (d + 1) mc ms kc ks pc L (x5 :: x4 :: x3 :: x2 :: x1 :: st) g r n Q :=
  zz_callSg (as := [x1, x2, x3, x4, x5]) hcl rfl hcat hmc hms hd hT (fun v g' r' n' h => by obtain ⟨z, rfl, h⟩ := h; exact h)
theorem zz_callS5v {x1 x2 x3 x4 x5 : Value} (hcl : zz_CS M.1.cls ix 5 M') (hcat : (st.map fun v => v.category).sum ≤ 8) (hmc : kc + mc' ≤ mc) (hms : ks + ms' ≤ ms) (hd : decode M.2.1 pc = .ok (.invokestatic ix, 3)) (hT : zz_T C M' d mc' ms' [x1, x2, x3, x4, x5] g r n (fun v g' r' n' => v = none ∧ zz_Z C M (d + 1) mc ms (kc + mc') (ks + ms') (pc + 3) L st g' r' n' Q)) : zz_Z C M (d + 1) mc ms kc ks pc L (x5 :: x4 :: x3 :: x2 :: x1 :: st) g r n Q :=
  zz_callSg (as := [x1, x2, x3, x4, x5]) hcl rfl hcat hmc hms hd hT (fun v g' r' n' h => by obtain ⟨rfl, h⟩ := h; exact h)
end ZC
end

section
-- ===== PART A: goes FIRST, ahead of the names: the tables' words, and 'selects' of the private methods out of them =====
/-- a private method of a class that the tables say can be made, by its rows of tables_1 -/
def lw_okq (q : MethodName × Nat) : Prop := (q.1.cls ≠ "java/lang/invoke/MethodHandle" ∧ q.1.cls ≠ "java/lang/invoke/VarHandle") ∧ Cond.instantiable q.1.cls q.2 ∈ tables_1 ∧ Cond.privateMethod q.1 ∈ tables_1 ∧ Cond.instanceMethod q.1 ∈ tables_1
theorem lw_p0 : lw_okq (⟨"NextKeys", "found", "(I)I"⟩, 8) := ⟨⟨by decide +kernel, by decide +kernel⟩, List.mem_of_getElem? (i := 14) (by decide +kernel), List.mem_of_getElem? (i := 131) (by decide +kernel), List.mem_of_getElem? (i := 132) (by decide +kernel)⟩
theorem lw_p1 : lw_okq (⟨"NextKeys", "fine", "(I)I"⟩, 8) := ⟨⟨by decide +kernel, by decide +kernel⟩, List.mem_of_getElem? (i := 14) (by decide +kernel), List.mem_of_getElem? (i := 150) (by decide +kernel), List.mem_of_getElem? (i := 151) (by decide +kernel)⟩
theorem lw_p2 : lw_okq (⟨"NextKeys$Tape", "advance", "()V"⟩, 7) := ⟨⟨by decide +kernel, by decide +kernel⟩, List.mem_of_getElem? (i := 24) (by decide +kernel), List.mem_of_getElem? (i := 194) (by decide +kernel), List.mem_of_getElem? (i := 195) (by decide +kernel)⟩
theorem lw_p3 : lw_okq (⟨"NextKeys$Tape", "takeFigures", "()V"⟩, 7) := ⟨⟨by decide +kernel, by decide +kernel⟩, List.mem_of_getElem? (i := 24) (by decide +kernel), List.mem_of_getElem? (i := 201) (by decide +kernel), List.mem_of_getElem? (i := 202) (by decide +kernel)⟩
theorem lw_p4 : lw_okq (⟨"NextKeys$Tape", "expect", "(I)V"⟩, 7) := ⟨⟨by decide +kernel, by decide +kernel⟩, List.mem_of_getElem? (i := 24) (by decide +kernel), List.mem_of_getElem? (i := 206) (by decide +kernel), List.mem_of_getElem? (i := 207) (by decide +kernel)⟩
theorem lw_p5 : lw_okq (⟨"NextKeys$Tape", "fail", "(I)V"⟩, 7) := ⟨⟨by decide +kernel, by decide +kernel⟩, List.mem_of_getElem? (i := 24) (by decide +kernel), List.mem_of_getElem? (i := 210) (by decide +kernel), List.mem_of_getElem? (i := 211) (by decide +kernel)⟩
theorem lw_p6 : lw_okq (⟨"NextKeys$Tape", "readNumber", "(II)I"⟩, 7) := ⟨⟨by decide +kernel, by decide +kernel⟩, List.mem_of_getElem? (i := 24) (by decide +kernel), List.mem_of_getElem? (i := 214) (by decide +kernel), List.mem_of_getElem? (i := 215) (by decide +kernel)⟩
theorem lw_p7 : lw_okq (⟨"NextKeys$Tape", "readSet", "(LNextKeys$Shelf;)V"⟩, 7) := ⟨⟨by decide +kernel, by decide +kernel⟩, List.mem_of_getElem? (i := 24) (by decide +kernel), List.mem_of_getElem? (i := 240) (by decide +kernel), List.mem_of_getElem? (i := 241) (by decide +kernel)⟩
theorem lw_p8 : lw_okq (⟨"NextKeys", "setWith", "(II)LNextKeys$KeySet;"⟩, 8) := ⟨⟨by decide +kernel, by decide +kernel⟩, List.mem_of_getElem? (i := 14) (by decide +kernel), List.mem_of_getElem? (i := 328) (by decide +kernel), List.mem_of_getElem? (i := 329) (by decide +kernel)⟩
theorem lw_p9 : lw_okq (⟨"NextKeys", "turned", "(LNextKeys$KeySet;II)I"⟩, 8) := ⟨⟨by decide +kernel, by decide +kernel⟩, List.mem_of_getElem? (i := 14) (by decide +kernel), List.mem_of_getElem? (i := 345) (by decide +kernel), List.mem_of_getElem? (i := 346) (by decide +kernel)⟩
theorem lw_p10 : lw_okq (⟨"NextKeys", "setAt", "(I)LNextKeys$KeySet;"⟩, 8) := ⟨⟨by decide +kernel, by decide +kernel⟩, List.mem_of_getElem? (i := 14) (by decide +kernel), List.mem_of_getElem? (i := 397) (by decide +kernel), List.mem_of_getElem? (i := 398) (by decide +kernel)⟩
theorem lw_p11 : lw_okq (⟨"NextKeys$KeySet", "upperWord", "()I"⟩, 6) := ⟨⟨by decide +kernel, by decide +kernel⟩, List.mem_of_getElem? (i := 250) (by decide +kernel), List.mem_of_getElem? (i := 584) (by decide +kernel), List.mem_of_getElem? (i := 585) (by decide +kernel)⟩
theorem lw_p12 : lw_okq (⟨"NextKeys$Shelf", "isCovered", "(III)Z"⟩, 4) := ⟨⟨by decide +kernel, by decide +kernel⟩, List.mem_of_getElem? (i := 218) (by decide +kernel), List.mem_of_getElem? (i := 659) (by decide +kernel), List.mem_of_getElem? (i := 660) (by decide +kernel)⟩
theorem lw_p13 : lw_okq (⟨"NextKeys$Asks", "answer", "(LNextKeys$KeySet;II)I"⟩, 2) := ⟨⟨by decide +kernel, by decide +kernel⟩, List.mem_of_getElem? (i := 82) (by decide +kernel), List.mem_of_getElem? (i := 744) (by decide +kernel), List.mem_of_getElem? (i := 745) (by decide +kernel)⟩
theorem lw_p14 : lw_okq (⟨"NextKeys$Asks", "body", "(LNextKeys$KeySet;II)I"⟩, 2) := ⟨⟨by decide +kernel, by decide +kernel⟩, List.mem_of_getElem? (i := 82) (by decide +kernel), List.mem_of_getElem? (i := 753) (by decide +kernel), List.mem_of_getElem? (i := 754) (by decide +kernel)⟩
theorem lw_p15 : lw_okq (⟨"NextKeys$Asks", "leave", "(I)V"⟩, 2) := ⟨⟨by decide +kernel, by decide +kernel⟩, List.mem_of_getElem? (i := 82) (by decide +kernel), List.mem_of_getElem? (i := 757) (by decide +kernel), List.mem_of_getElem? (i := 758) (by decide +kernel)⟩
def lw_privs_1 : List (MethodName × Nat) := [(⟨"NextKeys", "found", "(I)I"⟩, 8), (⟨"NextKeys", "fine", "(I)I"⟩, 8), (⟨"NextKeys$Tape", "advance", "()V"⟩, 7), (⟨"NextKeys$Tape", "takeFigures", "()V"⟩, 7), (⟨"NextKeys$Tape", "expect", "(I)V"⟩, 7), (⟨"NextKeys$Tape", "fail", "(I)V"⟩, 7), (⟨"NextKeys$Tape", "readNumber", "(II)I"⟩, 7), (⟨"NextKeys$Tape", "readSet", "(LNextKeys$Shelf;)V"⟩, 7), (⟨"NextKeys", "setWith", "(II)LNextKeys$KeySet;"⟩, 8), (⟨"NextKeys", "turned", "(LNextKeys$KeySet;II)I"⟩, 8), (⟨"NextKeys", "setAt", "(I)LNextKeys$KeySet;"⟩, 8), (⟨"NextKeys$KeySet", "upperWord", "()I"⟩, 6), (⟨"NextKeys$Shelf", "isCovered", "(III)Z"⟩, 4), (⟨"NextKeys$Asks", "answer", "(LNextKeys$KeySet;II)I"⟩, 2), (⟨"NextKeys$Asks", "body", "(LNextKeys$KeySet;II)I"⟩, 2), (⟨"NextKeys$Asks", "leave", "(I)V"⟩, 2)]
theorem lw_r1 : ∀ q ∈ lw_privs_1, lw_okq q := List.forall_mem_cons.mpr ⟨lw_p0, List.forall_mem_cons.mpr ⟨lw_p1, List.forall_mem_cons.mpr ⟨lw_p2, List.forall_mem_cons.mpr ⟨lw_p3, List.forall_mem_cons.mpr ⟨lw_p4, List.forall_mem_cons.mpr ⟨lw_p5, List.forall_mem_cons.mpr ⟨lw_p6, List.forall_mem_cons.mpr ⟨lw_p7, List.forall_mem_cons.mpr ⟨lw_p8, List.forall_mem_cons.mpr ⟨lw_p9, List.forall_mem_cons.mpr ⟨lw_p10, List.forall_mem_cons.mpr ⟨lw_p11, List.forall_mem_cons.mpr ⟨lw_p12, List.forall_mem_cons.mpr ⟨lw_p13, List.forall_mem_cons.mpr ⟨lw_p14, List.forall_mem_cons.mpr ⟨lw_p15, fun _ h => absurd h List.not_mem_nil⟩⟩⟩⟩⟩⟩⟩⟩⟩⟩⟩⟩⟩⟩⟩⟩
theorem lw_p16 : lw_okq (⟨"NextKeys", "rowsThere", "()I"⟩, 8) := ⟨⟨by decide +kernel, by decide +kernel⟩, List.mem_of_getElem? (i := 14) (by decide +kernel), List.mem_of_getElem? (i := 777) (by decide +kernel), List.mem_of_getElem? (i := 778) (by decide +kernel)⟩
theorem lw_p17 : lw_okq (⟨"NextKeysModel", "find", "(I)I"⟩, 15) := ⟨⟨by decide +kernel, by decide +kernel⟩, List.mem_of_getElem? (i := 785) (by decide +kernel), List.mem_of_getElem? (i := 851) (by decide +kernel), List.mem_of_getElem? (i := 852) (by decide +kernel)⟩
theorem lw_p18 : lw_okq (⟨"NextKeysModel", "well", "(I)I"⟩, 15) := ⟨⟨by decide +kernel, by decide +kernel⟩, List.mem_of_getElem? (i := 785) (by decide +kernel), List.mem_of_getElem? (i := 856) (by decide +kernel), List.mem_of_getElem? (i := 857) (by decide +kernel)⟩
theorem lw_p19 : lw_okq (⟨"NextKeysModel", "isSpan", "(III)Z"⟩, 15) := ⟨⟨by decide +kernel, by decide +kernel⟩, List.mem_of_getElem? (i := 785) (by decide +kernel), List.mem_of_getElem? (i := 871) (by decide +kernel), List.mem_of_getElem? (i := 872) (by decide +kernel)⟩
theorem lw_p20 : lw_okq (⟨"NextKeysModel", "reads", "()Z"⟩, 15) := ⟨⟨by decide +kernel, by decide +kernel⟩, List.mem_of_getElem? (i := 785) (by decide +kernel), List.mem_of_getElem? (i := 889) (by decide +kernel), List.mem_of_getElem? (i := 890) (by decide +kernel)⟩
theorem lw_p21 : lw_okq (⟨"NextKeysModel", "readsLaw", "()Z"⟩, 15) := ⟨⟨by decide +kernel, by decide +kernel⟩, List.mem_of_getElem? (i := 785) (by decide +kernel), List.mem_of_getElem? (i := 893) (by decide +kernel), List.mem_of_getElem? (i := 894) (by decide +kernel)⟩
theorem lw_p22 : lw_okq (⟨"NextKeysModel", "sign", "(I)Z"⟩, 15) := ⟨⟨by decide +kernel, by decide +kernel⟩, List.mem_of_getElem? (i := 785) (by decide +kernel), List.mem_of_getElem? (i := 897) (by decide +kernel), List.mem_of_getElem? (i := 898) (by decide +kernel)⟩
theorem lw_p23 : lw_okq (⟨"NextKeysModel", "isLetter", "(I)Z"⟩, 15) := ⟨⟨by decide +kernel, by decide +kernel⟩, List.mem_of_getElem? (i := 785) (by decide +kernel), List.mem_of_getElem? (i := 901) (by decide +kernel), List.mem_of_getElem? (i := 902) (by decide +kernel)⟩
theorem lw_p24 : lw_okq (⟨"NextKeysModel", "refuse", "(I)Z"⟩, 15) := ⟨⟨by decide +kernel, by decide +kernel⟩, List.mem_of_getElem? (i := 785) (by decide +kernel), List.mem_of_getElem? (i := 905) (by decide +kernel), List.mem_of_getElem? (i := 906) (by decide +kernel)⟩
theorem lw_p25 : lw_okq (⟨"NextKeysModel", "readsNumber", "(II)Z"⟩, 15) := ⟨⟨by decide +kernel, by decide +kernel⟩, List.mem_of_getElem? (i := 785) (by decide +kernel), List.mem_of_getElem? (i := 909) (by decide +kernel), List.mem_of_getElem? (i := 910) (by decide +kernel)⟩
theorem lw_p26 : lw_okq (⟨"NextKeysModel", "isFigure", "(I)Z"⟩, 15) := ⟨⟨by decide +kernel, by decide +kernel⟩, List.mem_of_getElem? (i := 785) (by decide +kernel), List.mem_of_getElem? (i := 913) (by decide +kernel), List.mem_of_getElem? (i := 914) (by decide +kernel)⟩
theorem lw_p27 : lw_okq (⟨"NextKeysModel", "readsSet", "()Z"⟩, 15) := ⟨⟨by decide +kernel, by decide +kernel⟩, List.mem_of_getElem? (i := 785) (by decide +kernel), List.mem_of_getElem? (i := 922) (by decide +kernel), List.mem_of_getElem? (i := 923) (by decide +kernel)⟩
theorem lw_p28 : lw_okq (⟨"NextKeysModel", "copyShelf", "(II)V"⟩, 15) := ⟨⟨by decide +kernel, by decide +kernel⟩, List.mem_of_getElem? (i := 785) (by decide +kernel), List.mem_of_getElem? (i := 927) (by decide +kernel), List.mem_of_getElem? (i := 928) (by decide +kernel)⟩
theorem lw_p29 : lw_okq (⟨"NextKeysModel", "turnOne", "(IIZ)I"⟩, 15) := ⟨⟨by decide +kernel, by decide +kernel⟩, List.mem_of_getElem? (i := 785) (by decide +kernel), List.mem_of_getElem? (i := 944) (by decide +kernel), List.mem_of_getElem? (i := 945) (by decide +kernel)⟩
theorem lw_p30 : lw_okq (⟨"NextKeysModel", "isSet", "(I)Z"⟩, 15) := ⟨⟨by decide +kernel, by decide +kernel⟩, List.mem_of_getElem? (i := 785) (by decide +kernel), List.mem_of_getElem? (i := 948) (by decide +kernel), List.mem_of_getElem? (i := 949) (by decide +kernel)⟩
theorem lw_p31 : lw_okq (⟨"NextKeysModel", "isKey", "(J)Z"⟩, 15) := ⟨⟨by decide +kernel, by decide +kernel⟩, List.mem_of_getElem? (i := 785) (by decide +kernel), List.mem_of_getElem? (i := 952) (by decide +kernel), List.mem_of_getElem? (i := 953) (by decide +kernel)⟩
def lw_privs_2 : List (MethodName × Nat) := [(⟨"NextKeys", "rowsThere", "()I"⟩, 8), (⟨"NextKeysModel", "find", "(I)I"⟩, 15), (⟨"NextKeysModel", "well", "(I)I"⟩, 15), (⟨"NextKeysModel", "isSpan", "(III)Z"⟩, 15), (⟨"NextKeysModel", "reads", "()Z"⟩, 15), (⟨"NextKeysModel", "readsLaw", "()Z"⟩, 15), (⟨"NextKeysModel", "sign", "(I)Z"⟩, 15), (⟨"NextKeysModel", "isLetter", "(I)Z"⟩, 15), (⟨"NextKeysModel", "refuse", "(I)Z"⟩, 15), (⟨"NextKeysModel", "readsNumber", "(II)Z"⟩, 15), (⟨"NextKeysModel", "isFigure", "(I)Z"⟩, 15), (⟨"NextKeysModel", "readsSet", "()Z"⟩, 15), (⟨"NextKeysModel", "copyShelf", "(II)V"⟩, 15), (⟨"NextKeysModel", "turnOne", "(IIZ)I"⟩, 15), (⟨"NextKeysModel", "isSet", "(I)Z"⟩, 15), (⟨"NextKeysModel", "isKey", "(J)Z"⟩, 15)]
theorem lw_r2 : ∀ q ∈ lw_privs_2, lw_okq q := List.forall_mem_cons.mpr ⟨lw_p16, List.forall_mem_cons.mpr ⟨lw_p17, List.forall_mem_cons.mpr ⟨lw_p18, List.forall_mem_cons.mpr ⟨lw_p19, List.forall_mem_cons.mpr ⟨lw_p20, List.forall_mem_cons.mpr ⟨lw_p21, List.forall_mem_cons.mpr ⟨lw_p22, List.forall_mem_cons.mpr ⟨lw_p23, List.forall_mem_cons.mpr ⟨lw_p24, List.forall_mem_cons.mpr ⟨lw_p25, List.forall_mem_cons.mpr ⟨lw_p26, List.forall_mem_cons.mpr ⟨lw_p27, List.forall_mem_cons.mpr ⟨lw_p28, List.forall_mem_cons.mpr ⟨lw_p29, List.forall_mem_cons.mpr ⟨lw_p30, List.forall_mem_cons.mpr ⟨lw_p31, fun _ h => absurd h List.not_mem_nil⟩⟩⟩⟩⟩⟩⟩⟩⟩⟩⟩⟩⟩⟩⟩⟩
theorem lw_p32 : lw_okq (⟨"NextKeysModel", "top", "()I"⟩, 15) := ⟨⟨by decide +kernel, by decide +kernel⟩, List.mem_of_getElem? (i := 785) (by decide +kernel), List.mem_of_getElem? (i := 956) (by decide +kernel), List.mem_of_getElem? (i := 957) (by decide +kernel)⟩
theorem lw_p33 : lw_okq (⟨"NextKeysModel", "isShelf", "()Z"⟩, 15) := ⟨⟨by decide +kernel, by decide +kernel⟩, List.mem_of_getElem? (i := 785) (by decide +kernel), List.mem_of_getElem? (i := 960) (by decide +kernel), List.mem_of_getElem? (i := 961) (by decide +kernel)⟩
theorem lw_p34 : lw_okq (⟨"NextKeysModel", "hasKey", "(III)Z"⟩, 15) := ⟨⟨by decide +kernel, by decide +kernel⟩, List.mem_of_getElem? (i := 785) (by decide +kernel), List.mem_of_getElem? (i := 964) (by decide +kernel), List.mem_of_getElem? (i := 965) (by decide +kernel)⟩
theorem lw_p35 : lw_okq (⟨"NextKeysModel", "keepPast", "()V"⟩, 15) := ⟨⟨by decide +kernel, by decide +kernel⟩, List.mem_of_getElem? (i := 785) (by decide +kernel), List.mem_of_getElem? (i := 971) (by decide +kernel), List.mem_of_getElem? (i := 972) (by decide +kernel)⟩
theorem lw_p36 : lw_okq (⟨"NextKeysModel", "turnKey", "(III)V"⟩, 15) := ⟨⟨by decide +kernel, by decide +kernel⟩, List.mem_of_getElem? (i := 785) (by decide +kernel), List.mem_of_getElem? (i := 975) (by decide +kernel), List.mem_of_getElem? (i := 976) (by decide +kernel)⟩
theorem lw_p37 : lw_okq (⟨"NextKeysModel", "keysOf", "(II)I"⟩, 15) := ⟨⟨by decide +kernel, by decide +kernel⟩, List.mem_of_getElem? (i := 785) (by decide +kernel), List.mem_of_getElem? (i := 979) (by decide +kernel), List.mem_of_getElem? (i := 980) (by decide +kernel)⟩
theorem lw_p38 : lw_okq (⟨"NextKeysModel", "leastOf", "(I)I"⟩, 15) := ⟨⟨by decide +kernel, by decide +kernel⟩, List.mem_of_getElem? (i := 785) (by decide +kernel), List.mem_of_getElem? (i := 1022) (by decide +kernel), List.mem_of_getElem? (i := 1023) (by decide +kernel)⟩
theorem lw_p39 : lw_okq (⟨"NextKeysModel", "above", "(II)I"⟩, 15) := ⟨⟨by decide +kernel, by decide +kernel⟩, List.mem_of_getElem? (i := 785) (by decide +kernel), List.mem_of_getElem? (i := 1026) (by decide +kernel), List.mem_of_getElem? (i := 1027) (by decide +kernel)⟩
theorem lw_p40 : lw_okq (⟨"NextKeysModel", "greatestOf", "(I)I"⟩, 15) := ⟨⟨by decide +kernel, by decide +kernel⟩, List.mem_of_getElem? (i := 785) (by decide +kernel), List.mem_of_getElem? (i := 1031) (by decide +kernel), List.mem_of_getElem? (i := 1032) (by decide +kernel)⟩
theorem lw_p41 : lw_okq (⟨"NextKeysModel", "below", "(II)I"⟩, 15) := ⟨⟨by decide +kernel, by decide +kernel⟩, List.mem_of_getElem? (i := 785) (by decide +kernel), List.mem_of_getElem? (i := 1035) (by decide +kernel), List.mem_of_getElem? (i := 1036) (by decide +kernel)⟩
theorem lw_p42 : lw_okq (⟨"NextKeysModel", "nextOf", "(II)I"⟩, 15) := ⟨⟨by decide +kernel, by decide +kernel⟩, List.mem_of_getElem? (i := 785) (by decide +kernel), List.mem_of_getElem? (i := 1043) (by decide +kernel), List.mem_of_getElem? (i := 1044) (by decide +kernel)⟩
theorem lw_p43 : lw_okq (⟨"NextKeysModel", "lowBits", "()I"⟩, 15) := ⟨⟨by decide +kernel, by decide +kernel⟩, List.mem_of_getElem? (i := 785) (by decide +kernel), List.mem_of_getElem? (i := 1055) (by decide +kernel), List.mem_of_getElem? (i := 1056) (by decide +kernel)⟩
theorem lw_p44 : lw_okq (⟨"NextKeysModel", "clusterOf", "(II)I"⟩, 15) := ⟨⟨by decide +kernel, by decide +kernel⟩, List.mem_of_getElem? (i := 785) (by decide +kernel), List.mem_of_getElem? (i := 1059) (by decide +kernel), List.mem_of_getElem? (i := 1060) (by decide +kernel)⟩
theorem lw_p45 : lw_okq (⟨"NextKeysModel", "summaryOf", "(I)I"⟩, 15) := ⟨⟨by decide +kernel, by decide +kernel⟩, List.mem_of_getElem? (i := 785) (by decide +kernel), List.mem_of_getElem? (i := 1081) (by decide +kernel), List.mem_of_getElem? (i := 1082) (by decide +kernel)⟩
theorem lw_p46 : lw_okq (⟨"NextKeysModel", "highBits", "()I"⟩, 15) := ⟨⟨by decide +kernel, by decide +kernel⟩, List.mem_of_getElem? (i := 785) (by decide +kernel), List.mem_of_getElem? (i := 1085) (by decide +kernel), List.mem_of_getElem? (i := 1086) (by decide +kernel)⟩
theorem lw_p47 : lw_okq (⟨"NextKeysModel", "nodesIn", "(I)I"⟩, 15) := ⟨⟨by decide +kernel, by decide +kernel⟩, List.mem_of_getElem? (i := 785) (by decide +kernel), List.mem_of_getElem? (i := 1093) (by decide +kernel), List.mem_of_getElem? (i := 1094) (by decide +kernel)⟩
def lw_privs_3 : List (MethodName × Nat) := [(⟨"NextKeysModel", "top", "()I"⟩, 15), (⟨"NextKeysModel", "isShelf", "()Z"⟩, 15), (⟨"NextKeysModel", "hasKey", "(III)Z"⟩, 15), (⟨"NextKeysModel", "keepPast", "()V"⟩, 15), (⟨"NextKeysModel", "turnKey", "(III)V"⟩, 15), (⟨"NextKeysModel", "keysOf", "(II)I"⟩, 15), (⟨"NextKeysModel", "leastOf", "(I)I"⟩, 15), (⟨"NextKeysModel", "above", "(II)I"⟩, 15), (⟨"NextKeysModel", "greatestOf", "(I)I"⟩, 15), (⟨"NextKeysModel", "below", "(II)I"⟩, 15), (⟨"NextKeysModel", "nextOf", "(II)I"⟩, 15), (⟨"NextKeysModel", "lowBits", "()I"⟩, 15), (⟨"NextKeysModel", "clusterOf", "(II)I"⟩, 15), (⟨"NextKeysModel", "summaryOf", "(I)I"⟩, 15), (⟨"NextKeysModel", "highBits", "()I"⟩, 15), (⟨"NextKeysModel", "nodesIn", "(I)I"⟩, 15)]
theorem lw_r3 : ∀ q ∈ lw_privs_3, lw_okq q := List.forall_mem_cons.mpr ⟨lw_p32, List.forall_mem_cons.mpr ⟨lw_p33, List.forall_mem_cons.mpr ⟨lw_p34, List.forall_mem_cons.mpr ⟨lw_p35, List.forall_mem_cons.mpr ⟨lw_p36, List.forall_mem_cons.mpr ⟨lw_p37, List.forall_mem_cons.mpr ⟨lw_p38, List.forall_mem_cons.mpr ⟨lw_p39, List.forall_mem_cons.mpr ⟨lw_p40, List.forall_mem_cons.mpr ⟨lw_p41, List.forall_mem_cons.mpr ⟨lw_p42, List.forall_mem_cons.mpr ⟨lw_p43, List.forall_mem_cons.mpr ⟨lw_p44, List.forall_mem_cons.mpr ⟨lw_p45, List.forall_mem_cons.mpr ⟨lw_p46, List.forall_mem_cons.mpr ⟨lw_p47, fun _ h => absurd h List.not_mem_nil⟩⟩⟩⟩⟩⟩⟩⟩⟩⟩⟩⟩⟩⟩⟩⟩
theorem lw_p48 : lw_okq (⟨"NextKeysModel", "depthIn", "(I)I"⟩, 15) := ⟨⟨by decide +kernel, by decide +kernel⟩, List.mem_of_getElem? (i := 785) (by decide +kernel), List.mem_of_getElem? (i := 1115) (by decide +kernel), List.mem_of_getElem? (i := 1116) (by decide +kernel)⟩
theorem lw_p49 : lw_okq (⟨"NextKeysModel", "isWord", "(III)Z"⟩, 15) := ⟨⟨by decide +kernel, by decide +kernel⟩, List.mem_of_getElem? (i := 785) (by decide +kernel), List.mem_of_getElem? (i := 1152) (by decide +kernel), List.mem_of_getElem? (i := 1153) (by decide +kernel)⟩
theorem lw_p50 : lw_okq (⟨"NextKeysModel", "wordMany", "()I"⟩, 15) := ⟨⟨by decide +kernel, by decide +kernel⟩, List.mem_of_getElem? (i := 785) (by decide +kernel), List.mem_of_getElem? (i := 1156) (by decide +kernel), List.mem_of_getElem? (i := 1157) (by decide +kernel)⟩
theorem lw_p51 : lw_okq (⟨"NextKeysModel", "wordOf", "(III)I"⟩, 15) := ⟨⟨by decide +kernel, by decide +kernel⟩, List.mem_of_getElem? (i := 785) (by decide +kernel), List.mem_of_getElem? (i := 1160) (by decide +kernel), List.mem_of_getElem? (i := 1161) (by decide +kernel)⟩
theorem lw_p52 : lw_okq (⟨"NextKeysModel", "sumOf", "(I)I"⟩, 15) := ⟨⟨by decide +kernel, by decide +kernel⟩, List.mem_of_getElem? (i := 785) (by decide +kernel), List.mem_of_getElem? (i := 1177) (by decide +kernel), List.mem_of_getElem? (i := 1178) (by decide +kernel)⟩
theorem lw_p53 : lw_okq (⟨"NextKeysModel", "isCovered", "(III)Z"⟩, 15) := ⟨⟨by decide +kernel, by decide +kernel⟩, List.mem_of_getElem? (i := 785) (by decide +kernel), List.mem_of_getElem? (i := 1210) (by decide +kernel), List.mem_of_getElem? (i := 1211) (by decide +kernel)⟩
theorem lw_p54 : lw_okq (⟨"NextKeysModel", "allKeys", "()I"⟩, 15) := ⟨⟨by decide +kernel, by decide +kernel⟩, List.mem_of_getElem? (i := 785) (by decide +kernel), List.mem_of_getElem? (i := 1234) (by decide +kernel), List.mem_of_getElem? (i := 1235) (by decide +kernel)⟩
theorem lw_p55 : lw_okq (⟨"NextKeysModel", "allNodes", "()I"⟩, 15) := ⟨⟨by decide +kernel, by decide +kernel⟩, List.mem_of_getElem? (i := 785) (by decide +kernel), List.mem_of_getElem? (i := 1238) (by decide +kernel), List.mem_of_getElem? (i := 1239) (by decide +kernel)⟩
theorem lw_p56 : lw_okq (⟨"NextKeysModel", "isOf", "(II)Z"⟩, 15) := ⟨⟨by decide +kernel, by decide +kernel⟩, List.mem_of_getElem? (i := 785) (by decide +kernel), List.mem_of_getElem? (i := 1259) (by decide +kernel), List.mem_of_getElem? (i := 1260) (by decide +kernel)⟩
theorem lw_p57 : lw_okq (⟨"NextKeysModel", "sizeOf", "(I)I"⟩, 15) := ⟨⟨by decide +kernel, by decide +kernel⟩, List.mem_of_getElem? (i := 785) (by decide +kernel), List.mem_of_getElem? (i := 1267) (by decide +kernel), List.mem_of_getElem? (i := 1268) (by decide +kernel)⟩
theorem lw_p58 : lw_okq (⟨"NextKeysModel", "begin", "(I)V"⟩, 15) := ⟨⟨by decide +kernel, by decide +kernel⟩, List.mem_of_getElem? (i := 785) (by decide +kernel), List.mem_of_getElem? (i := 1271) (by decide +kernel), List.mem_of_getElem? (i := 1272) (by decide +kernel)⟩
theorem lw_p59 : lw_okq (⟨"NextKeysModel", "aboveSize", "(I)I"⟩, 15) := ⟨⟨by decide +kernel, by decide +kernel⟩, List.mem_of_getElem? (i := 785) (by decide +kernel), List.mem_of_getElem? (i := 1275) (by decide +kernel), List.mem_of_getElem? (i := 1276) (by decide +kernel)⟩
theorem lw_p60 : lw_okq (⟨"NextKeysModel", "lentSize", "(I)I"⟩, 15) := ⟨⟨by decide +kernel, by decide +kernel⟩, List.mem_of_getElem? (i := 785) (by decide +kernel), List.mem_of_getElem? (i := 1279) (by decide +kernel), List.mem_of_getElem? (i := 1280) (by decide +kernel)⟩
theorem lw_p61 : lw_okq (⟨"NextKeysModel", "aboveMark", "(I)I"⟩, 15) := ⟨⟨by decide +kernel, by decide +kernel⟩, List.mem_of_getElem? (i := 785) (by decide +kernel), List.mem_of_getElem? (i := 1283) (by decide +kernel), List.mem_of_getElem? (i := 1284) (by decide +kernel)⟩
theorem lw_p62 : lw_okq (⟨"NextKeysModel", "plainMark", "(I)I"⟩, 15) := ⟨⟨by decide +kernel, by decide +kernel⟩, List.mem_of_getElem? (i := 785) (by decide +kernel), List.mem_of_getElem? (i := 1287) (by decide +kernel), List.mem_of_getElem? (i := 1288) (by decide +kernel)⟩
theorem lw_p63 : lw_okq (⟨"NextKeysModel", "lentMark", "(I)I"⟩, 15) := ⟨⟨by decide +kernel, by decide +kernel⟩, List.mem_of_getElem? (i := 785) (by decide +kernel), List.mem_of_getElem? (i := 1291) (by decide +kernel), List.mem_of_getElem? (i := 1292) (by decide +kernel)⟩
def lw_privs_4 : List (MethodName × Nat) := [(⟨"NextKeysModel", "depthIn", "(I)I"⟩, 15), (⟨"NextKeysModel", "isWord", "(III)Z"⟩, 15), (⟨"NextKeysModel", "wordMany", "()I"⟩, 15), (⟨"NextKeysModel", "wordOf", "(III)I"⟩, 15), (⟨"NextKeysModel", "sumOf", "(I)I"⟩, 15), (⟨"NextKeysModel", "isCovered", "(III)Z"⟩, 15), (⟨"NextKeysModel", "allKeys", "()I"⟩, 15), (⟨"NextKeysModel", "allNodes", "()I"⟩, 15), (⟨"NextKeysModel", "isOf", "(II)Z"⟩, 15), (⟨"NextKeysModel", "sizeOf", "(I)I"⟩, 15), (⟨"NextKeysModel", "begin", "(I)V"⟩, 15), (⟨"NextKeysModel", "aboveSize", "(I)I"⟩, 15), (⟨"NextKeysModel", "lentSize", "(I)I"⟩, 15), (⟨"NextKeysModel", "aboveMark", "(I)I"⟩, 15), (⟨"NextKeysModel", "plainMark", "(I)I"⟩, 15), (⟨"NextKeysModel", "lentMark", "(I)I"⟩, 15)]
theorem lw_r4 : ∀ q ∈ lw_privs_4, lw_okq q := List.forall_mem_cons.mpr ⟨lw_p48, List.forall_mem_cons.mpr ⟨lw_p49, List.forall_mem_cons.mpr ⟨lw_p50, List.forall_mem_cons.mpr ⟨lw_p51, List.forall_mem_cons.mpr ⟨lw_p52, List.forall_mem_cons.mpr ⟨lw_p53, List.forall_mem_cons.mpr ⟨lw_p54, List.forall_mem_cons.mpr ⟨lw_p55, List.forall_mem_cons.mpr ⟨lw_p56, List.forall_mem_cons.mpr ⟨lw_p57, List.forall_mem_cons.mpr ⟨lw_p58, List.forall_mem_cons.mpr ⟨lw_p59, List.forall_mem_cons.mpr ⟨lw_p60, List.forall_mem_cons.mpr ⟨lw_p61, List.forall_mem_cons.mpr ⟨lw_p62, List.forall_mem_cons.mpr ⟨lw_p63, fun _ h => absurd h List.not_mem_nil⟩⟩⟩⟩⟩⟩⟩⟩⟩⟩⟩⟩⟩⟩⟩⟩
theorem lw_p64 : lw_okq (⟨"NextKeysModel", "belowSize", "(I)I"⟩, 15) := ⟨⟨by decide +kernel, by decide +kernel⟩, List.mem_of_getElem? (i := 785) (by decide +kernel), List.mem_of_getElem? (i := 1295) (by decide +kernel), List.mem_of_getElem? (i := 1296) (by decide +kernel)⟩
theorem lw_p65 : lw_okq (⟨"NextKeysModel", "belowMark", "(I)I"⟩, 15) := ⟨⟨by decide +kernel, by decide +kernel⟩, List.mem_of_getElem? (i := 785) (by decide +kernel), List.mem_of_getElem? (i := 1299) (by decide +kernel), List.mem_of_getElem? (i := 1300) (by decide +kernel)⟩
def lw_privs_5 : List (MethodName × Nat) := [(⟨"NextKeysModel", "belowSize", "(I)I"⟩, 15), (⟨"NextKeysModel", "belowMark", "(I)I"⟩, 15)]
theorem lw_r5 : ∀ q ∈ lw_privs_5, lw_okq q := List.forall_mem_cons.mpr ⟨lw_p64, List.forall_mem_cons.mpr ⟨lw_p65, fun _ h => absurd h List.not_mem_nil⟩⟩
def lw_privs : List (MethodName × Nat) := lw_privs_1 ++ (lw_privs_2 ++ (lw_privs_3 ++ (lw_privs_4 ++ (lw_privs_5))))
def lw_tbl : List Cond := k2_sels lw_privs ++ tables_1
theorem lw_privs_ok : ∀ q ∈ lw_privs, lw_okq q := by
  show ∀ q ∈ lw_privs_1 ++ (lw_privs_2 ++ (lw_privs_3 ++ (lw_privs_4 ++ (lw_privs_5)))), lw_okq q
  exact List.forall_mem_append.mpr ⟨lw_r1, List.forall_mem_append.mpr ⟨lw_r2, List.forall_mem_append.mpr ⟨lw_r3, List.forall_mem_append.mpr ⟨lw_r4, lw_r5⟩⟩⟩⟩
end
section
def RX0 : String := "NextKeys$Acts"
def TX0 : u_T := fun k => match k with
  | 0 => ("NextKeys$Acts", "changed", "[LNextKeys$KeySet;", true)
  | 1 => ("NextKeys$Acts", "before", "[[I", true)
  | 2 => ("NextKeys$Acts", "coming", "I", false)
  | _ => ("NextKeys$Acts", "kept", "I", false)
def tyX0 : Nat → FieldType := fun k => match k with
  | 0 => .array (.object "NextKeys$KeySet")
  | 1 => .array (.array .int)
  | 2 => .int
  | _ => .int
abbrev wsX00 : List Cond := u_ws RX0 TX0 4
theorem nmX0 : ∀ a, a < 4 → ∀ b, b < 4 → a ≠ b → (TX0 a).2.1 ≠ (TX0 b).2.1 := by decide +kernel
theorem tyX0_ok : ∀ k, k < 4 → parseFieldDescriptor (TX0 k).2.2.1 = some (tyX0 k) := by decide +kernel
abbrev cX0_init : ByteArray := prog_2_method_1_code
def yX0_init : MethodName := ⟨RX0, "<init>", "()V"⟩
abbrev cX0_keep : ByteArray := prog_2_method_2_code
def yX0_keep : MethodName := ⟨RX0, "keep", "(LNextKeys$KeySet;)V"⟩
abbrev cX0_takeBack : ByteArray := prog_2_method_3_code
def yX0_takeBack : MethodName := ⟨RX0, "takeBack", "()V"⟩
abbrev cX0_forget : ByteArray := prog_2_method_4_code
def yX0_forget : MethodName := ⟨RX0, "forget", "()V"⟩
def RX1 : String := "NextKeys$Asks"
def TX1 : u_T := fun k => match k with
  | 0 => ("NextKeys$Asks", "left", "[I", true)
  | _ => ("NextKeys$Asks", "leaving", "I", false)
def tyX1 : Nat → FieldType := fun k => match k with
  | 0 => .array .int
  | _ => .int
abbrev wsX10 : List Cond := u_ws RX1 TX1 2
theorem nmX1 : ∀ a, a < 2 → ∀ b, b < 2 → a ≠ b → (TX1 a).2.1 ≠ (TX1 b).2.1 := by decide +kernel
theorem tyX1_ok : ∀ k, k < 2 → parseFieldDescriptor (TX1 k).2.2.1 = some (tyX1 k) := by decide +kernel
abbrev cX1_init : ByteArray := prog_3_method_1_code
def yX1_init : MethodName := ⟨RX1, "<init>", "()V"⟩
abbrev cX1_answerAnew : ByteArray := prog_3_method_2_code
def yX1_answerAnew : MethodName := ⟨RX1, "answerAnew", "(LNextKeys$KeySet;I)I"⟩
abbrev cX1_leftAt : ByteArray := prog_3_method_3_code
def yX1_leftAt : MethodName := ⟨RX1, "leftAt", "(I)I"⟩
abbrev cX1_answer : ByteArray := prog_3_method_4_code
def yX1_answer : MethodName := ⟨RX1, "answer", "(LNextKeys$KeySet;II)I"⟩
abbrev cX1_body : ByteArray := prog_3_method_5_code
def yX1_body : MethodName := ⟨RX1, "body", "(LNextKeys$KeySet;II)I"⟩
abbrev cX1_leave : ByteArray := prog_3_method_6_code
def yX1_leave : MethodName := ⟨RX1, "leave", "(I)V"⟩
def RX2 : String := "NextKeys$KeySet"
def TX2 : u_T := fun k => match k with
  | 0 => ("NextKeys$KeySet", "number", "I", true)
  | 1 => ("NextKeys$KeySet", "sort", "I", true)
  | 2 => ("NextKeys$KeySet", "top", "I", true)
  | 3 => ("NextKeys$KeySet", "lowBits", "I", true)
  | 4 => ("NextKeys$KeySet", "highBits", "I", true)
  | _ => ("NextKeys$KeySet", "words", "[I", true)
def tyX2 : Nat → FieldType := fun k => match k with
  | 0 => .int
  | 1 => .int
  | 2 => .int
  | 3 => .int
  | 4 => .int
  | _ => .array .int
abbrev wsX20 : List Cond := u_ws RX2 TX2 6
theorem nmX2 : ∀ a, a < 6 → ∀ b, b < 6 → a ≠ b → (TX2 a).2.1 ≠ (TX2 b).2.1 := by decide +kernel
theorem tyX2_ok : ∀ k, k < 6 → parseFieldDescriptor (TX2 k).2.2.1 = some (tyX2 k) := by decide +kernel
abbrev cX2_init : ByteArray := prog_4_method_1_code
def yX2_init : MethodName := ⟨RX2, "<init>", "(III)V"⟩
abbrev cX2_wordsFor : ByteArray := prog_4_method_2_code
def yX2_wordsFor : MethodName := ⟨RX2, "wordsFor", "(I)I"⟩
abbrev cX2_spanIn : ByteArray := prog_4_method_3_code
def yX2_spanIn : MethodName := ⟨RX2, "spanIn", "(III)I"⟩
abbrev cX2_isKey : ByteArray := prog_4_method_4_code
def yX2_isKey : MethodName := ⟨RX2, "isKey", "(I)Z"⟩
abbrev cX2_holds : ByteArray := prog_4_method_5_code
def yX2_holds : MethodName := ⟨RX2, "holds", "(I)Z"⟩
abbrev cX2_put : ByteArray := prog_4_method_6_code
def yX2_put : MethodName := ⟨RX2, "put", "(I)V"⟩
abbrev cX2_turn : ByteArray := prog_4_method_7_code
def yX2_turn : MethodName := ⟨RX2, "turn", "(II)V"⟩
abbrev cX2_become : ByteArray := prog_4_method_8_code
def yX2_become : MethodName := ⟨RX2, "become", "([I)V"⟩
abbrev cX2_becomeJoined : ByteArray := prog_4_method_9_code
def yX2_becomeJoined : MethodName := ⟨RX2, "becomeJoined", "(ILNextKeys$KeySet;LNextKeys$KeySet;)V"⟩
abbrev cX2_joined : ByteArray := prog_4_method_10_code
def yX2_joined : MethodName := ⟨RX2, "joined", "(III)I"⟩
abbrev cX2_moveBy : ByteArray := prog_4_method_11_code
def yX2_moveBy : MethodName := ⟨RX2, "moveBy", "(I)V"⟩
abbrev cX2_cutOut : ByteArray := prog_4_method_12_code
def yX2_cutOut : MethodName := ⟨RX2, "cutOut", "([II)I"⟩
abbrev cX2_wordOf : ByteArray := prog_4_method_13_code
def yX2_wordOf : MethodName := ⟨RX2, "wordOf", "([II)I"⟩
abbrev cX2_size : ByteArray := prog_4_method_14_code
def yX2_size : MethodName := ⟨RX2, "size", "()I"⟩
abbrev cX2_sizeWithin : ByteArray := prog_4_method_15_code
def yX2_sizeWithin : MethodName := ⟨RX2, "sizeWithin", "(II)I"⟩
abbrev cX2_total : ByteArray := prog_4_method_16_code
def yX2_total : MethodName := ⟨RX2, "total", "()I"⟩
abbrev cX2_from : ByteArray := prog_4_method_17_code
def yX2_from : MethodName := ⟨RX2, "from", "(I)I"⟩
abbrev cX2_upTo : ByteArray := prog_4_method_18_code
def yX2_upTo : MethodName := ⟨RX2, "upTo", "(I)I"⟩
abbrev cX2_least : ByteArray := prog_4_method_19_code
def yX2_least : MethodName := ⟨RX2, "least", "()I"⟩
abbrev cX2_greatest : ByteArray := prog_4_method_20_code
def yX2_greatest : MethodName := ⟨RX2, "greatest", "()I"⟩
abbrev cX2_following : ByteArray := prog_4_method_21_code
def yX2_following : MethodName := ⟨RX2, "following", "(I)I"⟩
abbrev cX2_eitherOf : ByteArray := prog_4_method_22_code
def yX2_eitherOf : MethodName := ⟨RX2, "eitherOf", "(II)I"⟩
abbrev cX2_nearest : ByteArray := prog_4_method_23_code
def yX2_nearest : MethodName := ⟨RX2, "nearest", "(I)I"⟩
abbrev cX2_keyAt : ByteArray := prog_4_method_24_code
def yX2_keyAt : MethodName := ⟨RX2, "keyAt", "(I)I"⟩
abbrev cX2_widestFrom : ByteArray := prog_4_method_25_code
def yX2_widestFrom : MethodName := ⟨RX2, "widestFrom", "()I"⟩
abbrev cX2_hasWord : ByteArray := prog_4_method_26_code
def yX2_hasWord : MethodName := ⟨RX2, "hasWord", "(II)Z"⟩
abbrev cX2_wordAt : ByteArray := prog_4_method_27_code
def yX2_wordAt : MethodName := ⟨RX2, "wordAt", "(II)I"⟩
abbrev cX2_upperWord : ByteArray := prog_4_method_28_code
def yX2_upperWord : MethodName := ⟨RX2, "upperWord", "()I"⟩
abbrev cX2_isHigh : ByteArray := prog_4_method_29_code
def yX2_isHigh : MethodName := ⟨RX2, "isHigh", "(I)Z"⟩
abbrev cX2_clusterAt : ByteArray := prog_4_method_30_code
def yX2_clusterAt : MethodName := ⟨RX2, "clusterAt", "(II)I"⟩
abbrev cX2_rootSummary : ByteArray := prog_4_method_31_code
def yX2_rootSummary : MethodName := ⟨RX2, "rootSummary", "()I"⟩
abbrev cX2_rootNodes : ByteArray := prog_4_method_32_code
def yX2_rootNodes : MethodName := ⟨RX2, "rootNodes", "()I"⟩
abbrev cX2_rootDepth : ByteArray := prog_4_method_33_code
def yX2_rootDepth : MethodName := ⟨RX2, "rootDepth", "()I"⟩
abbrev cX2_rootSteps : ByteArray := prog_4_method_34_code
def yX2_rootSteps : MethodName := ⟨RX2, "rootSteps", "(I)I"⟩
def RX3 : String := "NextKeys$Node"
def TX3 : u_T := fun k => match k with
  | _ => ("", "", "", false)
def tyX3 : Nat → FieldType := fun k => match k with
  | _ => .int
abbrev wsX30 : List Cond := u_ws RX3 TX3 0
theorem nmX3 : ∀ a, a < 0 → ∀ b, b < 0 → a ≠ b → (TX3 a).2.1 ≠ (TX3 b).2.1 := by decide +kernel
theorem tyX3_ok : ∀ k, k < 0 → parseFieldDescriptor (TX3 k).2.2.1 = some (tyX3 k) := by decide +kernel
abbrev cX3_lowOf : ByteArray := prog_5_method_2_code
def yX3_lowOf : MethodName := ⟨RX3, "lowOf", "(I)I"⟩
abbrev cX3_highOf : ByteArray := prog_5_method_3_code
def yX3_highOf : MethodName := ⟨RX3, "highOf", "(I)I"⟩
abbrev cX3_leastOf : ByteArray := prog_5_method_4_code
def yX3_leastOf : MethodName := ⟨RX3, "leastOf", "(I)I"⟩
abbrev cX3_greatestOf : ByteArray := prog_5_method_5_code
def yX3_greatestOf : MethodName := ⟨RX3, "greatestOf", "(I)I"⟩
abbrev cX3_withoutLeast : ByteArray := prog_5_method_6_code
def yX3_withoutLeast : MethodName := ⟨RX3, "withoutLeast", "(I)I"⟩
abbrev cX3_clusterIn : ByteArray := prog_5_method_7_code
def yX3_clusterIn : MethodName := ⟨RX3, "clusterIn", "(III)I"⟩
abbrev cX3_summaryIn : ByteArray := prog_5_method_8_code
def yX3_summaryIn : MethodName := ⟨RX3, "summaryIn", "(II)I"⟩
abbrev cX3_about : ByteArray := prog_5_method_9_code
def yX3_about : MethodName := ⟨RX3, "about", "(III)I"⟩
abbrev cX3_nodesOf : ByteArray := prog_5_method_10_code
def yX3_nodesOf : MethodName := ⟨RX3, "nodesOf", "(II)I"⟩
abbrev cX3_depthOf : ByteArray := prog_5_method_11_code
def yX3_depthOf : MethodName := ⟨RX3, "depthOf", "(II)I"⟩
abbrev cX3_stepsAbove : ByteArray := prog_5_method_12_code
def yX3_stepsAbove : MethodName := ⟨RX3, "stepsAbove", "(III)I"⟩
def RX4 : String := "NextKeys$Row"
def TX4 : u_T := fun k => match k with
  | 0 => ("NextKeys$Row", "lane", "I", true)
  | _ => ("NextKeys$Row", "items", "[I", true)
def tyX4 : Nat → FieldType := fun k => match k with
  | 0 => .int
  | _ => .array .int
abbrev wsX40 : List Cond := u_ws RX4 TX4 2
theorem nmX4 : ∀ a, a < 2 → ∀ b, b < 2 → a ≠ b → (TX4 a).2.1 ≠ (TX4 b).2.1 := by decide +kernel
theorem tyX4_ok : ∀ k, k < 2 → parseFieldDescriptor (TX4 k).2.2.1 = some (tyX4 k) := by decide +kernel
abbrev cX4_init : ByteArray := prog_6_method_1_code
def yX4_init : MethodName := ⟨RX4, "<init>", "(II)V"⟩
abbrev cX4_spans : ByteArray := prog_6_method_2_code
def yX4_spans : MethodName := ⟨RX4, "spans", "(II)Z"⟩
abbrev cX4_store : ByteArray := prog_6_method_3_code
def yX4_store : MethodName := ⟨RX4, "store", "(II)I"⟩
def RX5 : String := "NextKeys$Shelf"
def TX5 : u_T := fun k => match k with
  | 0 => ("NextKeys$Shelf", "figures", "I", true)
  | 1 => ("NextKeys$Shelf", "top", "I", true)
  | 2 => ("NextKeys$Shelf", "sets", "[LNextKeys$KeySet;", true)
  | _ => ("NextKeys$Shelf", "held", "I", false)
def tyX5 : Nat → FieldType := fun k => match k with
  | 0 => .int
  | 1 => .int
  | 2 => .array (.object "NextKeys$KeySet")
  | _ => .int
abbrev wsX50 : List Cond := u_ws RX5 TX5 4
theorem nmX5 : ∀ a, a < 4 → ∀ b, b < 4 → a ≠ b → (TX5 a).2.1 ≠ (TX5 b).2.1 := by decide +kernel
theorem tyX5_ok : ∀ k, k < 4 → parseFieldDescriptor (TX5 k).2.2.1 = some (tyX5 k) := by decide +kernel
abbrev cX5_init : ByteArray := prog_7_method_1_code
def yX5_init : MethodName := ⟨RX5, "<init>", "(I)V"⟩
abbrev cX5_append : ByteArray := prog_7_method_2_code
def yX5_append : MethodName := ⟨RX5, "append", "(I)LNextKeys$KeySet;"⟩
abbrev cX5_numbered : ByteArray := prog_7_method_3_code
def yX5_numbered : MethodName := ⟨RX5, "numbered", "(I)LNextKeys$KeySet;"⟩
abbrev cX5_isKey : ByteArray := prog_7_method_4_code
def yX5_isKey : MethodName := ⟨RX5, "isKey", "(I)Z"⟩
abbrev cX5_twin : ByteArray := prog_7_method_5_code
def yX5_twin : MethodName := ⟨RX5, "twin", "()LNextKeys$Shelf;"⟩
abbrev cX5_sizeOfAll : ByteArray := prog_7_method_6_code
def yX5_sizeOfAll : MethodName := ⟨RX5, "sizeOfAll", "()I"⟩
abbrev cX5_nodesOfAll : ByteArray := prog_7_method_7_code
def yX5_nodesOfAll : MethodName := ⟨RX5, "nodesOfAll", "()I"⟩
abbrev cX5_commonFrom : ByteArray := prog_7_method_8_code
def yX5_commonFrom : MethodName := ⟨RX5, "commonFrom", "(I)I"⟩
abbrev cX5_fewestOver : ByteArray := prog_7_method_9_code
def yX5_fewestOver : MethodName := ⟨RX5, "fewestOver", "(II)I"⟩
abbrev cX5_isCovered : ByteArray := prog_7_method_10_code
def yX5_isCovered : MethodName := ⟨RX5, "isCovered", "(III)Z"⟩
abbrev cX5_draw : ByteArray := prog_7_method_11_code
def yX5_draw : MethodName := ⟨RX5, "draw", "(II)V"⟩
def RX6 : String := "NextKeys$Tape"
def TX6 : u_T := fun k => match k with
  | 0 => ("NextKeys$Tape", "bytes", "[I", true)
  | 1 => ("NextKeys$Tape", "length", "I", false)
  | 2 => ("NextKeys$Tape", "at", "I", false)
  | 3 => ("NextKeys$Tape", "behind", "I", false)
  | 4 => ("NextKeys$Tape", "token", "I", false)
  | 5 => ("NextKeys$Tape", "worth", "I", false)
  | _ => ("NextKeys$Tape", "faultFound", "I", false)
def tyX6 : Nat → FieldType := fun k => match k with
  | 0 => .array .int
  | 1 => .int
  | 2 => .int
  | 3 => .int
  | 4 => .int
  | 5 => .int
  | _ => .int
abbrev wsX60 : List Cond := u_ws RX6 TX6 7
theorem nmX6 : ∀ a, a < 7 → ∀ b, b < 7 → a ≠ b → (TX6 a).2.1 ≠ (TX6 b).2.1 := by decide +kernel
theorem tyX6_ok : ∀ k, k < 7 → parseFieldDescriptor (TX6 k).2.2.1 = some (tyX6 k) := by decide +kernel
abbrev cX6_init : ByteArray := prog_8_method_1_code
def yX6_init : MethodName := ⟨RX6, "<init>", "()V"⟩
abbrev cX6_append : ByteArray := prog_8_method_2_code
def yX6_append : MethodName := ⟨RX6, "append", "(I)I"⟩
abbrev cX6_readShelf : ByteArray := prog_8_method_3_code
def yX6_readShelf : MethodName := ⟨RX6, "readShelf", "()LNextKeys$Shelf;"⟩
abbrev cX6_readSet : ByteArray := prog_8_method_4_code
def yX6_readSet : MethodName := ⟨RX6, "readSet", "(LNextKeys$Shelf;)V"⟩
abbrev cX6_fail : ByteArray := prog_8_method_5_code
def yX6_fail : MethodName := ⟨RX6, "fail", "(I)V"⟩
abbrev cX6_expect : ByteArray := prog_8_method_6_code
def yX6_expect : MethodName := ⟨RX6, "expect", "(I)V"⟩
abbrev cX6_readNumber : ByteArray := prog_8_method_7_code
def yX6_readNumber : MethodName := ⟨RX6, "readNumber", "(II)I"⟩
abbrev cX6_advance : ByteArray := prog_8_method_8_code
def yX6_advance : MethodName := ⟨RX6, "advance", "()V"⟩
abbrev cX6_takeFigures : ByteArray := prog_8_method_9_code
def yX6_takeFigures : MethodName := ⟨RX6, "takeFigures", "()V"⟩
abbrev cX6_isFigure : ByteArray := prog_8_method_10_code
def yX6_isFigure : MethodName := ⟨RX6, "isFigure", "(I)Z"⟩
abbrev cX6_sortOf : ByteArray := prog_8_method_11_code
def yX6_sortOf : MethodName := ⟨RX6, "sortOf", "(I)I"⟩
def RX7 : String := "NextKeys"
def TX7 : u_T := fun k => match k with
  | 0 => ("NextKeys", "rows", "[LNextKeys$Row;", true)
  | 1 => ("NextKeys", "tape", "LNextKeys$Tape;", true)
  | 2 => ("NextKeys", "images", "[LNextKeys$Shelf;", true)
  | 3 => ("NextKeys", "acts", "LNextKeys$Acts;", true)
  | 4 => ("NextKeys", "asks", "LNextKeys$Asks;", true)
  | 5 => ("NextKeys", "shelf", "LNextKeys$Shelf;", false)
  | 6 => ("NextKeys", "latestFault", "I", false)
  | _ => ("NextKeys", "latestFinding", "I", false)
def tyX7 : Nat → FieldType := fun k => match k with
  | 0 => .array (.object "NextKeys$Row")
  | 1 => .object "NextKeys$Tape"
  | 2 => .array (.object "NextKeys$Shelf")
  | 3 => .object "NextKeys$Acts"
  | 4 => .object "NextKeys$Asks"
  | 5 => .object "NextKeys$Shelf"
  | 6 => .int
  | _ => .int
abbrev wsX70 : List Cond := u_ws RX7 TX7 8
theorem nmX7 : ∀ a, a < 8 → ∀ b, b < 8 → a ≠ b → (TX7 a).2.1 ≠ (TX7 b).2.1 := by decide +kernel
theorem tyX7_ok : ∀ k, k < 8 → parseFieldDescriptor (TX7 k).2.2.1 = some (tyX7 k) := by decide +kernel
abbrev cX7_init : ByteArray := prog_1_method_1_code
def yX7_init : MethodName := ⟨RX7, "<init>", "()V"⟩
abbrev cX7_row : ByteArray := prog_1_method_2_code
def yX7_row : MethodName := ⟨RX7, "row", "(III)I"⟩
abbrev cX7_set : ByteArray := prog_1_method_3_code
def yX7_set : MethodName := ⟨RX7, "set", "(III)I"⟩
abbrev cX7_copy : ByteArray := prog_1_method_4_code
def yX7_copy : MethodName := ⟨RX7, "copy", "(IIIII)I"⟩
abbrev cX7_drop : ByteArray := prog_1_method_5_code
def yX7_drop : MethodName := ⟨RX7, "drop", "(I)I"⟩
abbrev cX7_feed : ByteArray := prog_1_method_6_code
def yX7_feed : MethodName := ⟨RX7, "feed", "(I)I"⟩
abbrev cX7_shelf : ByteArray := prog_1_method_7_code
def yX7_shelf : MethodName := ⟨RX7, "shelf", "()I"⟩
abbrev cX7_fault : ByteArray := prog_1_method_8_code
def yX7_fault : MethodName := ⟨RX7, "fault", "()I"⟩
abbrev cX7_undo : ByteArray := prog_1_method_9_code
def yX7_undo : MethodName := ⟨RX7, "undo", "()I"⟩
abbrev cX7_add : ByteArray := prog_1_method_10_code
def yX7_add : MethodName := ⟨RX7, "add", "(II)I"⟩
abbrev cX7_take : ByteArray := prog_1_method_11_code
def yX7_take : MethodName := ⟨RX7, "take", "(II)I"⟩
abbrev cX7_flip : ByteArray := prog_1_method_12_code
def yX7_flip : MethodName := ⟨RX7, "flip", "(III)I"⟩
abbrev cX7_join : ByteArray := prog_1_method_13_code
def yX7_join : MethodName := ⟨RX7, "join", "(IIII)I"⟩
abbrev cX7_shift : ByteArray := prog_1_method_14_code
def yX7_shift : MethodName := ⟨RX7, "shift", "(II)I"⟩
abbrev cX7_gather : ByteArray := prog_1_method_15_code
def yX7_gather : MethodName := ⟨RX7, "gather", "(IIII)I"⟩
abbrev cX7_contains : ByteArray := prog_1_method_16_code
def yX7_contains : MethodName := ⟨RX7, "contains", "(II)I"⟩
abbrev cX7_keys : ByteArray := prog_1_method_17_code
def yX7_keys : MethodName := ⟨RX7, "keys", "(I)I"⟩
abbrev cX7_end : ByteArray := prog_1_method_18_code
def yX7_end : MethodName := ⟨RX7, "end", "(II)I"⟩
abbrev cX7_next : ByteArray := prog_1_method_19_code
def yX7_next : MethodName := ⟨RX7, "next", "(II)I"⟩
abbrev cX7_beside : ByteArray := prog_1_method_20_code
def yX7_beside : MethodName := ⟨RX7, "beside", "(III)I"⟩
abbrev cX7_steps : ByteArray := prog_1_method_21_code
def yX7_steps : MethodName := ⟨RX7, "steps", "(II)I"⟩
abbrev cX7_tree : ByteArray := prog_1_method_22_code
def yX7_tree : MethodName := ⟨RX7, "tree", "(II)I"⟩
abbrev cX7_cluster : ByteArray := prog_1_method_23_code
def yX7_cluster : MethodName := ⟨RX7, "cluster", "(III)I"⟩
abbrev cX7_summary : ByteArray := prog_1_method_24_code
def yX7_summary : MethodName := ⟨RX7, "summary", "(II)I"⟩
abbrev cX7_word : ByteArray := prog_1_method_25_code
def yX7_word : MethodName := ⟨RX7, "word", "(III)I"⟩
abbrev cX7_bits : ByteArray := prog_1_method_26_code
def yX7_bits : MethodName := ⟨RX7, "bits", "(IIII)I"⟩
abbrev cX7_share : ByteArray := prog_1_method_27_code
def yX7_share : MethodName := ⟨RX7, "share", "(II)I"⟩
abbrev cX7_rank : ByteArray := prog_1_method_28_code
def yX7_rank : MethodName := ⟨RX7, "rank", "(II)I"⟩
abbrev cX7_nth : ByteArray := prog_1_method_29_code
def yX7_nth : MethodName := ⟨RX7, "nth", "(II)I"⟩
abbrev cX7_near : ByteArray := prog_1_method_30_code
def yX7_near : MethodName := ⟨RX7, "near", "(II)I"⟩
abbrev cX7_tell : ByteArray := prog_1_method_31_code
def yX7_tell : MethodName := ⟨RX7, "tell", "(IIII)I"⟩
abbrev cX7_chase : ByteArray := prog_1_method_32_code
def yX7_chase : MethodName := ⟨RX7, "chase", "(IIII)I"⟩
abbrev cX7_meet : ByteArray := prog_1_method_33_code
def yX7_meet : MethodName := ⟨RX7, "meet", "(I)I"⟩
abbrev cX7_cover : ByteArray := prog_1_method_34_code
def yX7_cover : MethodName := ⟨RX7, "cover", "(III)I"⟩
abbrev cX7_gap : ByteArray := prog_1_method_35_code
def yX7_gap : MethodName := ⟨RX7, "gap", "(II)I"⟩
abbrev cX7_likely : ByteArray := prog_1_method_36_code
def yX7_likely : MethodName := ⟨RX7, "likely", "(IIIII)J"⟩
abbrev cX7_drawn : ByteArray := prog_1_method_37_code
def yX7_drawn : MethodName := ⟨RX7, "drawn", "(III)I"⟩
abbrev cX7_image : ByteArray := prog_1_method_38_code
def yX7_image : MethodName := ⟨RX7, "image", "(I)I"⟩
abbrev cX7_restore : ByteArray := prog_1_method_39_code
def yX7_restore : MethodName := ⟨RX7, "restore", "(I)I"⟩
abbrev cX7_kind : ByteArray := prog_1_method_40_code
def yX7_kind : MethodName := ⟨RX7, "kind", "(I)I"⟩
abbrev cX7_as : ByteArray := prog_1_method_41_code
def yX7_as : MethodName := ⟨RX7, "as", "(II)I"⟩
abbrev cX7_ask : ByteArray := prog_1_method_42_code
def yX7_ask : MethodName := ⟨RX7, "ask", "(II)I"⟩
abbrev cX7_trace : ByteArray := prog_1_method_43_code
def yX7_trace : MethodName := ⟨RX7, "trace", "(I)I"⟩
abbrev cX7_count : ByteArray := prog_1_method_44_code
def yX7_count : MethodName := ⟨RX7, "count", "(I)I"⟩
abbrev cX7_status : ByteArray := prog_1_method_45_code
def yX7_status : MethodName := ⟨RX7, "status", "()I"⟩
abbrev cX7_within : ByteArray := prog_1_method_46_code
def yX7_within : MethodName := ⟨RX7, "within", "(III)Z"⟩
abbrev cX7_isRow : ByteArray := prog_1_method_47_code
def yX7_isRow : MethodName := ⟨RX7, "isRow", "(I)Z"⟩
abbrev cX7_found : ByteArray := prog_1_method_48_code
def yX7_found : MethodName := ⟨RX7, "found", "(I)I"⟩
abbrev cX7_fine : ByteArray := prog_1_method_49_code
def yX7_fine : MethodName := ⟨RX7, "fine", "(I)I"⟩
abbrev cX7_setAt : ByteArray := prog_1_method_50_code
def yX7_setAt : MethodName := ⟨RX7, "setAt", "(I)LNextKeys$KeySet;"⟩
abbrev cX7_setWith : ByteArray := prog_1_method_51_code
def yX7_setWith : MethodName := ⟨RX7, "setWith", "(II)LNextKeys$KeySet;"⟩
abbrev cX7_turned : ByteArray := prog_1_method_52_code
def yX7_turned : MethodName := ⟨RX7, "turned", "(LNextKeys$KeySet;II)I"⟩
abbrev cX7_allKeys : ByteArray := prog_1_method_53_code
def yX7_allKeys : MethodName := ⟨RX7, "allKeys", "(LNextKeys$KeySet;LNextKeys$Row;II)Z"⟩
abbrev cX7_rowsThere : ByteArray := prog_1_method_54_code
def yX7_rowsThere : MethodName := ⟨RX7, "rowsThere", "()I"⟩
abbrev cX7_isSuch : ByteArray := prog_1_method_55_code
def yX7_isSuch : MethodName := ⟨RX7, "isSuch", "(II)Z"⟩
abbrev cX7_sharedFactor : ByteArray := prog_1_method_56_code
def yX7_sharedFactor : MethodName := ⟨RX7, "sharedFactor", "(JJ)J"⟩
abbrev cX7_floatBits : ByteArray := prog_1_method_57_code
def yX7_floatBits : MethodName := ⟨RX7, "floatBits", "(II)I"⟩
def RX8 : String := "NextKeysModel"
def TX8 : u_T := fun k => match k with
  | 0 => ("NextKeysModel", "row", "[I", true)
  | 1 => ("NextKeysModel", "undos", "I", false)
  | 2 => ("NextKeysModel", "isKept", "[Z", true)
  | 3 => ("NextKeysModel", "lanes", "[I", true)
  | 4 => ("NextKeysModel", "sizes", "[I", true)
  | 5 => ("NextKeysModel", "items", "[I", true)
  | 6 => ("NextKeysModel", "tape", "[I", true)
  | 7 => ("NextKeysModel", "length", "I", false)
  | 8 => ("NextKeysModel", "fault", "I", false)
  | 9 => ("NextKeysModel", "status", "I", false)
  | 10 => ("NextKeysModel", "trace", "[I", true)
  | 11 => ("NextKeysModel", "traced", "I", false)
  | 12 => ("NextKeysModel", "at", "I", false)
  | 13 => ("NextKeysModel", "wrong", "I", false)
  | _ => ("NextKeysModel", "number", "I", false)
def tyX8 : Nat → FieldType := fun k => match k with
  | 0 => .array .int
  | 1 => .int
  | 2 => .array .boolean
  | 3 => .array .int
  | 4 => .array .int
  | 5 => .array .int
  | 6 => .array .int
  | 7 => .int
  | 8 => .int
  | 9 => .int
  | 10 => .array .int
  | 11 => .int
  | 12 => .int
  | 13 => .int
  | _ => .int
abbrev wsX80 : List Cond := u_ws RX8 TX8 15
theorem nmX8 : ∀ a, a < 15 → ∀ b, b < 15 → a ≠ b → (TX8 a).2.1 ≠ (TX8 b).2.1 := by decide +kernel
theorem tyX8_ok : ∀ k, k < 15 → parseFieldDescriptor (TX8 k).2.2.1 = some (tyX8 k) := by decide +kernel
abbrev cX8_init : ByteArray := prog_10_method_1_code
def yX8_init : MethodName := ⟨RX8, "<init>", "()V"⟩
abbrev cX8_in : ByteArray := prog_10_method_2_code
def yX8_in : MethodName := ⟨RX8, "in", "(JJJ)Z"⟩
abbrev cX8_has : ByteArray := prog_10_method_3_code
def yX8_has : MethodName := ⟨RX8, "has", "(II)Z"⟩
abbrev cX8_ones : ByteArray := prog_10_method_4_code
def yX8_ones : MethodName := ⟨RX8, "ones", "(I)I"⟩
abbrev cX8_find : ByteArray := prog_10_method_5_code
def yX8_find : MethodName := ⟨RX8, "find", "(I)I"⟩
abbrev cX8_well : ByteArray := prog_10_method_6_code
def yX8_well : MethodName := ⟨RX8, "well", "(I)I"⟩
abbrev cX8_isRow : ByteArray := prog_10_method_7_code
def yX8_isRow : MethodName := ⟨RX8, "isRow", "(I)Z"⟩
abbrev cX8_row : ByteArray := prog_10_method_8_code
def yX8_row : MethodName := ⟨RX8, "row", "(III)I"⟩
abbrev cX8_narrow : ByteArray := prog_10_method_9_code
def yX8_narrow : MethodName := ⟨RX8, "narrow", "(II)I"⟩
abbrev cX8_set : ByteArray := prog_10_method_10_code
def yX8_set : MethodName := ⟨RX8, "set", "(III)I"⟩
abbrev cX8_isSpan : ByteArray := prog_10_method_11_code
def yX8_isSpan : MethodName := ⟨RX8, "isSpan", "(III)Z"⟩
abbrev cX8_copy : ByteArray := prog_10_method_12_code
def yX8_copy : MethodName := ⟨RX8, "copy", "(IIIII)I"⟩
abbrev cX8_drop : ByteArray := prog_10_method_13_code
def yX8_drop : MethodName := ⟨RX8, "drop", "(I)I"⟩
abbrev cX8_feed : ByteArray := prog_10_method_14_code
def yX8_feed : MethodName := ⟨RX8, "feed", "(I)I"⟩
abbrev cX8_isLetter : ByteArray := prog_10_method_15_code
def yX8_isLetter : MethodName := ⟨RX8, "isLetter", "(I)Z"⟩
abbrev cX8_isFigure : ByteArray := prog_10_method_16_code
def yX8_isFigure : MethodName := ⟨RX8, "isFigure", "(I)Z"⟩
abbrev cX8_refuse : ByteArray := prog_10_method_17_code
def yX8_refuse : MethodName := ⟨RX8, "refuse", "(I)Z"⟩
abbrev cX8_sign : ByteArray := prog_10_method_18_code
def yX8_sign : MethodName := ⟨RX8, "sign", "(I)Z"⟩
abbrev cX8_readsNumber : ByteArray := prog_10_method_19_code
def yX8_readsNumber : MethodName := ⟨RX8, "readsNumber", "(II)Z"⟩
abbrev cX8_readsLaw : ByteArray := prog_10_method_20_code
def yX8_readsLaw : MethodName := ⟨RX8, "readsLaw", "()Z"⟩
abbrev cX8_kindOfLetter : ByteArray := prog_10_method_21_code
def yX8_kindOfLetter : MethodName := ⟨RX8, "kindOfLetter", "(I)I"⟩
abbrev cX8_readsSet : ByteArray := prog_10_method_22_code
def yX8_readsSet : MethodName := ⟨RX8, "readsSet", "()Z"⟩
abbrev cX8_reads : ByteArray := prog_10_method_23_code
def yX8_reads : MethodName := ⟨RX8, "reads", "()Z"⟩
abbrev cX8_shelf : ByteArray := prog_10_method_24_code
def yX8_shelf : MethodName := ⟨RX8, "shelf", "()I"⟩
abbrev cX8_fault : ByteArray := prog_10_method_25_code
def yX8_fault : MethodName := ⟨RX8, "fault", "()I"⟩
abbrev cX8_copyShelf : ByteArray := prog_10_method_26_code
def yX8_copyShelf : MethodName := ⟨RX8, "copyShelf", "(II)V"⟩
abbrev cX8_isShelf : ByteArray := prog_10_method_27_code
def yX8_isShelf : MethodName := ⟨RX8, "isShelf", "()Z"⟩
abbrev cX8_isSet : ByteArray := prog_10_method_28_code
def yX8_isSet : MethodName := ⟨RX8, "isSet", "(I)Z"⟩
abbrev cX8_top : ByteArray := prog_10_method_29_code
def yX8_top : MethodName := ⟨RX8, "top", "()I"⟩
abbrev cX8_isKey : ByteArray := prog_10_method_30_code
def yX8_isKey : MethodName := ⟨RX8, "isKey", "(J)Z"⟩
abbrev cX8_hasKey : ByteArray := prog_10_method_31_code
def yX8_hasKey : MethodName := ⟨RX8, "hasKey", "(III)Z"⟩
abbrev cX8_turnKey : ByteArray := prog_10_method_32_code
def yX8_turnKey : MethodName := ⟨RX8, "turnKey", "(III)V"⟩
abbrev cX8_keysOf : ByteArray := prog_10_method_33_code
def yX8_keysOf : MethodName := ⟨RX8, "keysOf", "(II)I"⟩
abbrev cX8_above : ByteArray := prog_10_method_34_code
def yX8_above : MethodName := ⟨RX8, "above", "(II)I"⟩
abbrev cX8_below : ByteArray := prog_10_method_35_code
def yX8_below : MethodName := ⟨RX8, "below", "(II)I"⟩
abbrev cX8_leastOf : ByteArray := prog_10_method_36_code
def yX8_leastOf : MethodName := ⟨RX8, "leastOf", "(I)I"⟩
abbrev cX8_greatestOf : ByteArray := prog_10_method_37_code
def yX8_greatestOf : MethodName := ⟨RX8, "greatestOf", "(I)I"⟩
abbrev cX8_nextOf : ByteArray := prog_10_method_38_code
def yX8_nextOf : MethodName := ⟨RX8, "nextOf", "(II)I"⟩
abbrev cX8_keepPast : ByteArray := prog_10_method_39_code
def yX8_keepPast : MethodName := ⟨RX8, "keepPast", "()V"⟩
abbrev cX8_undo : ByteArray := prog_10_method_40_code
def yX8_undo : MethodName := ⟨RX8, "undo", "()I"⟩
abbrev cX8_turnOne : ByteArray := prog_10_method_41_code
def yX8_turnOne : MethodName := ⟨RX8, "turnOne", "(IIZ)I"⟩
abbrev cX8_add : ByteArray := prog_10_method_42_code
def yX8_add : MethodName := ⟨RX8, "add", "(II)I"⟩
abbrev cX8_take : ByteArray := prog_10_method_43_code
def yX8_take : MethodName := ⟨RX8, "take", "(II)I"⟩
abbrev cX8_flip : ByteArray := prog_10_method_44_code
def yX8_flip : MethodName := ⟨RX8, "flip", "(III)I"⟩
abbrev cX8_join : ByteArray := prog_10_method_45_code
def yX8_join : MethodName := ⟨RX8, "join", "(IIII)I"⟩
abbrev cX8_shift : ByteArray := prog_10_method_46_code
def yX8_shift : MethodName := ⟨RX8, "shift", "(II)I"⟩
abbrev cX8_gather : ByteArray := prog_10_method_47_code
def yX8_gather : MethodName := ⟨RX8, "gather", "(IIII)I"⟩
abbrev cX8_contains : ByteArray := prog_10_method_48_code
def yX8_contains : MethodName := ⟨RX8, "contains", "(II)I"⟩
abbrev cX8_keys : ByteArray := prog_10_method_49_code
def yX8_keys : MethodName := ⟨RX8, "keys", "(I)I"⟩
abbrev cX8_end : ByteArray := prog_10_method_50_code
def yX8_end : MethodName := ⟨RX8, "end", "(II)I"⟩
abbrev cX8_next : ByteArray := prog_10_method_51_code
def yX8_next : MethodName := ⟨RX8, "next", "(II)I"⟩
abbrev cX8_beside : ByteArray := prog_10_method_52_code
def yX8_beside : MethodName := ⟨RX8, "beside", "(III)I"⟩
abbrev cX8_leastBit : ByteArray := prog_10_method_53_code
def yX8_leastBit : MethodName := ⟨RX8, "leastBit", "(I)I"⟩
abbrev cX8_greatestBit : ByteArray := prog_10_method_54_code
def yX8_greatestBit : MethodName := ⟨RX8, "greatestBit", "(I)I"⟩
abbrev cX8_rest : ByteArray := prog_10_method_55_code
def yX8_rest : MethodName := ⟨RX8, "rest", "(I)I"⟩
abbrev cX8_part : ByteArray := prog_10_method_56_code
def yX8_part : MethodName := ⟨RX8, "part", "(III)I"⟩
abbrev cX8_highs : ByteArray := prog_10_method_57_code
def yX8_highs : MethodName := ⟨RX8, "highs", "(III)I"⟩
abbrev cX8_nodes1 : ByteArray := prog_10_method_58_code
def yX8_nodes1 : MethodName := ⟨RX8, "nodes1", "(I)I"⟩
abbrev cX8_nodes2 : ByteArray := prog_10_method_59_code
def yX8_nodes2 : MethodName := ⟨RX8, "nodes2", "(I)I"⟩
abbrev cX8_nodes3 : ByteArray := prog_10_method_60_code
def yX8_nodes3 : MethodName := ⟨RX8, "nodes3", "(I)I"⟩
abbrev cX8_nodes4 : ByteArray := prog_10_method_61_code
def yX8_nodes4 : MethodName := ⟨RX8, "nodes4", "(I)I"⟩
abbrev cX8_nodes5 : ByteArray := prog_10_method_62_code
def yX8_nodes5 : MethodName := ⟨RX8, "nodes5", "(I)I"⟩
abbrev cX8_nodesOf : ByteArray := prog_10_method_63_code
def yX8_nodesOf : MethodName := ⟨RX8, "nodesOf", "(II)I"⟩
abbrev cX8_more : ByteArray := prog_10_method_64_code
def yX8_more : MethodName := ⟨RX8, "more", "(II)I"⟩
abbrev cX8_deep2 : ByteArray := prog_10_method_65_code
def yX8_deep2 : MethodName := ⟨RX8, "deep2", "(I)I"⟩
abbrev cX8_deep3 : ByteArray := prog_10_method_66_code
def yX8_deep3 : MethodName := ⟨RX8, "deep3", "(I)I"⟩
abbrev cX8_deep4 : ByteArray := prog_10_method_67_code
def yX8_deep4 : MethodName := ⟨RX8, "deep4", "(I)I"⟩
abbrev cX8_deep5 : ByteArray := prog_10_method_68_code
def yX8_deep5 : MethodName := ⟨RX8, "deep5", "(I)I"⟩
abbrev cX8_deepOf : ByteArray := prog_10_method_69_code
def yX8_deepOf : MethodName := ⟨RX8, "deepOf", "(II)I"⟩
abbrev cX8_lowBits : ByteArray := prog_10_method_70_code
def yX8_lowBits : MethodName := ⟨RX8, "lowBits", "()I"⟩
abbrev cX8_highBits : ByteArray := prog_10_method_71_code
def yX8_highBits : MethodName := ⟨RX8, "highBits", "()I"⟩
abbrev cX8_clusterOf : ByteArray := prog_10_method_72_code
def yX8_clusterOf : MethodName := ⟨RX8, "clusterOf", "(II)I"⟩
abbrev cX8_summaryOf : ByteArray := prog_10_method_73_code
def yX8_summaryOf : MethodName := ⟨RX8, "summaryOf", "(I)I"⟩
abbrev cX8_nodesIn : ByteArray := prog_10_method_74_code
def yX8_nodesIn : MethodName := ⟨RX8, "nodesIn", "(I)I"⟩
abbrev cX8_depthIn : ByteArray := prog_10_method_75_code
def yX8_depthIn : MethodName := ⟨RX8, "depthIn", "(I)I"⟩
abbrev cX8_stepsIn : ByteArray := prog_10_method_76_code
def yX8_stepsIn : MethodName := ⟨RX8, "stepsIn", "(III)I"⟩
abbrev cX8_steps : ByteArray := prog_10_method_77_code
def yX8_steps : MethodName := ⟨RX8, "steps", "(II)I"⟩
abbrev cX8_tree : ByteArray := prog_10_method_78_code
def yX8_tree : MethodName := ⟨RX8, "tree", "(II)I"⟩
abbrev cX8_nodeTells : ByteArray := prog_10_method_79_code
def yX8_nodeTells : MethodName := ⟨RX8, "nodeTells", "(III)I"⟩
abbrev cX8_cluster : ByteArray := prog_10_method_80_code
def yX8_cluster : MethodName := ⟨RX8, "cluster", "(III)I"⟩
abbrev cX8_summary : ByteArray := prog_10_method_81_code
def yX8_summary : MethodName := ⟨RX8, "summary", "(II)I"⟩
abbrev cX8_wordMany : ByteArray := prog_10_method_82_code
def yX8_wordMany : MethodName := ⟨RX8, "wordMany", "()I"⟩
abbrev cX8_isWord : ByteArray := prog_10_method_83_code
def yX8_isWord : MethodName := ⟨RX8, "isWord", "(III)Z"⟩
abbrev cX8_wordOf : ByteArray := prog_10_method_84_code
def yX8_wordOf : MethodName := ⟨RX8, "wordOf", "(III)I"⟩
abbrev cX8_word : ByteArray := prog_10_method_85_code
def yX8_word : MethodName := ⟨RX8, "word", "(III)I"⟩
abbrev cX8_bits : ByteArray := prog_10_method_86_code
def yX8_bits : MethodName := ⟨RX8, "bits", "(IIII)I"⟩
abbrev cX8_floatOf : ByteArray := prog_10_method_87_code
def yX8_floatOf : MethodName := ⟨RX8, "floatOf", "(II)I"⟩
abbrev cX8_sumOf : ByteArray := prog_10_method_88_code
def yX8_sumOf : MethodName := ⟨RX8, "sumOf", "(I)I"⟩
abbrev cX8_share : ByteArray := prog_10_method_89_code
def yX8_share : MethodName := ⟨RX8, "share", "(II)I"⟩
abbrev cX8_rank : ByteArray := prog_10_method_90_code
def yX8_rank : MethodName := ⟨RX8, "rank", "(II)I"⟩
abbrev cX8_nth : ByteArray := prog_10_method_91_code
def yX8_nth : MethodName := ⟨RX8, "nth", "(II)I"⟩
abbrev cX8_near : ByteArray := prog_10_method_92_code
def yX8_near : MethodName := ⟨RX8, "near", "(II)I"⟩
abbrev cX8_tell : ByteArray := prog_10_method_93_code
def yX8_tell : MethodName := ⟨RX8, "tell", "(IIII)I"⟩
abbrev cX8_chase : ByteArray := prog_10_method_94_code
def yX8_chase : MethodName := ⟨RX8, "chase", "(IIII)I"⟩
abbrev cX8_meet : ByteArray := prog_10_method_95_code
def yX8_meet : MethodName := ⟨RX8, "meet", "(I)I"⟩
abbrev cX8_isCovered : ByteArray := prog_10_method_96_code
def yX8_isCovered : MethodName := ⟨RX8, "isCovered", "(III)Z"⟩
abbrev cX8_cover : ByteArray := prog_10_method_97_code
def yX8_cover : MethodName := ⟨RX8, "cover", "(III)I"⟩
abbrev cX8_gap : ByteArray := prog_10_method_98_code
def yX8_gap : MethodName := ⟨RX8, "gap", "(II)I"⟩
abbrev cX8_likely : ByteArray := prog_10_method_99_code
def yX8_likely : MethodName := ⟨RX8, "likely", "(IIIII)J"⟩
abbrev cX8_allKeys : ByteArray := prog_10_method_100_code
def yX8_allKeys : MethodName := ⟨RX8, "allKeys", "()I"⟩
abbrev cX8_allNodes : ByteArray := prog_10_method_101_code
def yX8_allNodes : MethodName := ⟨RX8, "allNodes", "()I"⟩
abbrev cX8_drawn : ByteArray := prog_10_method_102_code
def yX8_drawn : MethodName := ⟨RX8, "drawn", "(III)I"⟩
abbrev cX8_image : ByteArray := prog_10_method_103_code
def yX8_image : MethodName := ⟨RX8, "image", "(I)I"⟩
abbrev cX8_restore : ByteArray := prog_10_method_104_code
def yX8_restore : MethodName := ⟨RX8, "restore", "(I)I"⟩
abbrev cX8_kind : ByteArray := prog_10_method_105_code
def yX8_kind : MethodName := ⟨RX8, "kind", "(I)I"⟩
abbrev cX8_isOf : ByteArray := prog_10_method_106_code
def yX8_isOf : MethodName := ⟨RX8, "isOf", "(II)Z"⟩
abbrev cX8_as : ByteArray := prog_10_method_107_code
def yX8_as : MethodName := ⟨RX8, "as", "(II)I"⟩
abbrev cX8_begin : ByteArray := prog_10_method_108_code
def yX8_begin : MethodName := ⟨RX8, "begin", "(I)V"⟩
abbrev cX8_lentSize : ByteArray := prog_10_method_109_code
def yX8_lentSize : MethodName := ⟨RX8, "lentSize", "(I)I"⟩
abbrev cX8_aboveSize : ByteArray := prog_10_method_110_code
def yX8_aboveSize : MethodName := ⟨RX8, "aboveSize", "(I)I"⟩
abbrev cX8_belowSize : ByteArray := prog_10_method_111_code
def yX8_belowSize : MethodName := ⟨RX8, "belowSize", "(I)I"⟩
abbrev cX8_sizeOf : ByteArray := prog_10_method_112_code
def yX8_sizeOf : MethodName := ⟨RX8, "sizeOf", "(I)I"⟩
abbrev cX8_lentMark : ByteArray := prog_10_method_113_code
def yX8_lentMark : MethodName := ⟨RX8, "lentMark", "(I)I"⟩
abbrev cX8_plainMark : ByteArray := prog_10_method_114_code
def yX8_plainMark : MethodName := ⟨RX8, "plainMark", "(I)I"⟩
abbrev cX8_aboveMark : ByteArray := prog_10_method_115_code
def yX8_aboveMark : MethodName := ⟨RX8, "aboveMark", "(I)I"⟩
abbrev cX8_belowMark : ByteArray := prog_10_method_116_code
def yX8_belowMark : MethodName := ⟨RX8, "belowMark", "(I)I"⟩
abbrev cX8_ask : ByteArray := prog_10_method_117_code
def yX8_ask : MethodName := ⟨RX8, "ask", "(II)I"⟩
abbrev cX8_trace : ByteArray := prog_10_method_118_code
def yX8_trace : MethodName := ⟨RX8, "trace", "(I)I"⟩
abbrev cX8_count : ByteArray := prog_10_method_119_code
def yX8_count : MethodName := ⟨RX8, "count", "(I)I"⟩
abbrev cX8_status : ByteArray := prog_10_method_120_code
def yX8_status : MethodName := ⟨RX8, "status", "()I"⟩
def RJx8e188 : String := "java/lang/Cloneable"
def TJx8e188 : u_T := fun k => match k with
  | _ => ("", "", "", false)
def tyJx8e188 : Nat → FieldType := fun k => match k with
  | _ => .int
abbrev wsJx8e1880 : List Cond := u_ws RJx8e188 TJx8e188 0
theorem nmJx8e188 : ∀ a, a < 0 → ∀ b, b < 0 → a ≠ b → (TJx8e188 a).2.1 ≠ (TJx8e188 b).2.1 := by decide +kernel
theorem tyJx8e188_ok : ∀ k, k < 0 → parseFieldDescriptor (TJx8e188 k).2.2.1 = some (tyJx8e188 k) := by decide +kernel
def RJ6 : String := "java/lang/Integer"
def TJ6 : u_T := fun k => match k with
  | _ => ("", "", "", false)
def tyJ6 : Nat → FieldType := fun k => match k with
  | _ => .int
abbrev wsJ60 : List Cond := u_ws RJ6 TJ6 0
theorem nmJ6 : ∀ a, a < 0 → ∀ b, b < 0 → a ≠ b → (TJ6 a).2.1 ≠ (TJ6 b).2.1 := by decide +kernel
theorem tyJ6_ok : ∀ k, k < 0 → parseFieldDescriptor (TJ6 k).2.2.1 = some (tyJ6 k) := by decide +kernel
abbrev cJ6_numberOfLeadingZeros_0f7a4 : ByteArray := prog_12_method_47_code
def yJ6_numberOfLeadingZeros_0f7a4 : MethodName := ⟨RJ6, "numberOfLeadingZeros", "(I)I"⟩
abbrev cJ6_numberOfTrailingZeros_0f7a4 : ByteArray := prog_12_method_48_code
def yJ6_numberOfTrailingZeros_0f7a4 : MethodName := ⟨RJ6, "numberOfTrailingZeros", "(I)I"⟩
abbrev cJ6_bitCount_0f7a4 : ByteArray := prog_12_method_49_code
def yJ6_bitCount_0f7a4 : MethodName := ⟨RJ6, "bitCount", "(I)I"⟩
def RJ9 : String := "java/lang/Math"
def TJ9 : u_T := fun k => match k with
  | _ => ("", "", "", false)
def tyJ9 : Nat → FieldType := fun k => match k with
  | _ => .int
abbrev wsJ90 : List Cond := u_ws RJ9 TJ9 0
theorem nmJ9 : ∀ a, a < 0 → ∀ b, b < 0 → a ≠ b → (TJ9 a).2.1 ≠ (TJ9 b).2.1 := by decide +kernel
theorem tyJ9_ok : ∀ k, k < 0 → parseFieldDescriptor (TJ9 k).2.2.1 = some (tyJ9 k) := by decide +kernel
abbrev cJ9_max_7cf53 : ByteArray := prog_13_method_65_code
def yJ9_max_7cf53 : MethodName := ⟨RJ9, "max", "(II)I"⟩
abbrev cJ9_max_f86c9 : ByteArray := prog_13_method_66_code
def yJ9_max_f86c9 : MethodName := ⟨RJ9, "max", "(JJ)J"⟩
abbrev cJ9_min_7cf53 : ByteArray := prog_13_method_69_code
def yJ9_min_7cf53 : MethodName := ⟨RJ9, "min", "(II)I"⟩
def RJ10 : String := "java/lang/System"
def TJ10 : u_T := fun k => match k with
  | _ => ("", "", "", false)
def tyJ10 : Nat → FieldType := fun k => match k with
  | _ => .int
abbrev wsJ100 : List Cond := u_ws RJ10 TJ10 0
theorem nmJ10 : ∀ a, a < 0 → ∀ b, b < 0 → a ≠ b → (TJ10 a).2.1 ≠ (TJ10 b).2.1 := by decide +kernel
theorem tyJ10_ok : ∀ k, k < 0 → parseFieldDescriptor (TJ10 k).2.2.1 = some (tyJ10 k) := by decide +kernel
def RL : String := "NextKeysLaw"
abbrev cL_law : ByteArray := code
def yL_law : MethodName := ⟨RL, "law", "([I)Z"⟩
abbrev vwCl : List vw_C := [(RX0, TX0, 4), (RX1, TX1, 2), (RX2, TX2, 6), (RX4, TX4, 2), (RX5, TX5, 4), (RX6, TX6, 7), (RX7, TX7, 8), (RX8, TX8, 15)]
end
section
/-! Abstract heaps: what is at an address, if anything; nk_J: from here the method comes to an end with an answer and a heap of a kind. -/
abbrev nk_AC : Type := (FieldType × vp_A) ⊕ (Nat × List Value)
abbrev nk_AH : Type := Nat → Option nk_AC
abbrev nk_MI : Type := MethodName × ByteArray × Nat × Option FieldType
abbrev nk_EG : Type := va_G × (FieldType → ClassId) × (Nat → Option (Nat × (Nat → Int32))) × (Nat → Nat)
def nk_e (dA : FieldType → ClassId) (e : nk_AC) : va_E := match e with
  | .inl q => .inl (dA q.1, q.2)
  | .inr o => .inr o
def nk_P (G : nk_EG) (H : nk_AH) (Hc : Heap) : Prop := ∀ (a : Nat) (e : nk_AC), H a = some e → va_at G.1 vwCl (a, nk_e G.2.1 e) Hc
abbrev nk_Ty : List FieldType := [.int, .boolean, .object RX2, .object RX4, .object RX5, .array .int]
abbrev nk_Ts (G : nk_EG) : List (ClassId × FieldType) := nk_Ty.map (fun t => (G.2.1 t, t))
def nk_K (G : nk_EG) (s : State) : Prop := va_K G.1 vwCl (nk_Ts G) s
abbrev nk_sZ : List (String × String × String) := [(RX7, "PARENT", "[I"), (RX1, "SIZE_BODY", "[I"), (RX1, "MARK_BODY", "[I")]
def nk_Z (G : nk_EG) (A : Nat → Prop) (s : State) (Hc : Heap) : Prop := (∀ (t n : Nat) (f : Nat → Int32), G.2.2.1 t = some (n, f) → va_T .int t n (fun j => .int (f j)) A s Hc) ∧ ∀ (k : Nat) (q : String × String × String), nk_sZ[k]? = some q → va_Z q.1 q.2.1 q.2.2 (.ref (G.2.2.2 k)) A s Hc
abbrev nk_Nm : List (String × Nat × MethodName) := [(RX7, 17, yX6_init), (RX7, 30, yX0_init), (RX7, 37, yX1_init), (RX6, 77, yX7_within), (RX5, 30, yX7_within), (RX2, 52, yX7_within), (RX2, 137, yX3_stepsAbove), (RX2, 131, yX3_nodesOf), (RX2, 134, yX3_depthOf), (RX1, 23, yX7_within)]
def nk_N (s : State) : Prop := (∀ q ∈ nk_Nm, va_Nw (.methodLinkNest q.1 q.2.1 q.2.2 RX7) s) ∧ va_Nw (.castable "[I" "java/lang/Cloneable") s ∧ va_AO RX2 s ∧ va_AO RX4 s ∧ va_AO RX5 s ∧ va_Nw (.arrayOver (.array .int)) s
def nk_A (H : nk_AH) (sz : Nat) : Nat → Prop := fun q => (H q).isSome = true ∨ sz ≤ q
abbrev nk_tw : List Cond := lw_tbl.filter goodWord
def nk_u (H : nk_AH) (a : Nat) (e : nk_AC) : nk_AH := fun b => if b = a then some e else H b
theorem nk_u_self (H : nk_AH) (a : Nat) (e : nk_AC) : nk_u H a e a = some e := if_pos rfl
theorem nk_u_ne {H : nk_AH} {a b : Nat} {e : nk_AC} (h : b ≠ a) : nk_u H a e b = H b := if_neg h
theorem nk_u_dom {H : nk_AH} {a b : Nat} {e : nk_AC} (h : (nk_u H a e b).isSome = true) : b = a ∨ (H b).isSome = true := by
  by_cases q : b = a
  · exact Or.inl q
  · rw [nk_u_ne q] at h; exact Or.inr h
/-- the locals: of size n; those of L are held -/
def nk_L (ls : Array Slot) (n : Nat) (L : List (Option Value)) : Prop := ls.size = n ∧ L.length = n ∧ lv_wf ls ∧ ∀ (i : Nat) (v : Value), L[i]? = some (some v) → ls[i]? = some (.val v)
def nk_al (L : List (Option Value)) : List (Nat × Value) := L.zipIdx.filterMap (fun q => q.1.map (fun v => (q.2, v)))
theorem nk_al_mem {L : List (Option Value)} {i : Nat} {v : Value} : (i, v) ∈ nk_al L ↔ L[i]? = some (some v) := by
  unfold nk_al
  rw [List.mem_filterMap]
  constructor
  · rintro ⟨⟨o, j⟩, h1, h2⟩
    rw [List.mem_zipIdx_iff_getElem?] at h1
    cases o with
    | none => cases h2
    | some w => cases h2; exact h1
  · intro h
    exact ⟨(some v, i), List.mem_zipIdx_iff_getElem?.mpr h, rfl⟩
theorem nk_L.has {ls : Array Slot} {n : Nat} {L : List (Option Value)} (h : nk_L ls n L) : lv_has ls n (nk_al L) := ⟨h.1, h.2.2.1, fun q hq => h.2.2.2 q.1 q.2 (nk_al_mem.mp hq)⟩
theorem nk_L.at {ls : Array Slot} {n : Nat} {L : List (Option Value)} (h : nk_L ls n L) {i : Nat} {v : Value} (hi : L[i]? = some (some v)) : ls[i]? = some (.val v) := h.2.2.2 i v hi
/-- a value of one slot is stored at i: a long that began just before it is gone -/
def nk_c (L : List (Option Value)) (i : Nat) : List (Option Value) := match i with
  | 0 => L
  | j + 1 => match L[j]? with
    | some (some (.long _)) => L.set j none
    | some (some (.double _)) => L.set j none
    | _ => L
def nk_s1 (L : List (Option Value)) (i : Nat) (v : Value) : List (Option Value) := (nk_c L i).set i (some v)
def nk_s2 (L : List (Option Value)) (i : Nat) (v : Value) : List (Option Value) := ((nk_c L i).set i (some v)).set (i + 1) none
theorem nk_c_len (L : List (Option Value)) (i : Nat) : (nk_c L i).length = L.length := by
  unfold nk_c
  split
  · rfl
  · split <;> simp
theorem nk_c_at {L : List (Option Value)} {i j : Nat} {w : Value} (h : (nk_c L i)[j]? = some (some w)) : L[j]? = some (some w) ∧ ¬ (j + 1 = i ∧ w.category = 2) := by
  unfold nk_c at h
  split at h
  · exact ⟨h, fun q => by omega⟩
  · rename_i k
    have key : (L.set k none)[j]? = some (some w) → L[j]? = some (some w) ∧ ¬ (j + 1 = k + 1 ∧ w.category = 2) := by
      intro h
      by_cases q : k = j
      · subst q
        rw [List.getElem?_set] at h
        simp at h
      · rw [List.getElem?_set_ne q] at h
        exact ⟨h, fun z => q (by omega)⟩
    split at h
    · exact key h
    · exact key h
    · rename_i h1 h2
      refine ⟨h, fun ⟨q1, q2⟩ => ?_⟩
      obtain rfl : j = k := by omega
      cases w with
      | long x => exact h1 x h
      | double x => exact h2 x h
      | _ => cases q2
theorem nk_s1_at {L : List (Option Value)} {i j : Nat} {v w : Value} (h : (nk_s1 L i v)[j]? = some (some w)) : (j = i ∧ w = v) ∨ (j ≠ i ∧ L[j]? = some (some w) ∧ ¬ (j + 1 = i ∧ w.category = 2)) := by
  unfold nk_s1 at h
  by_cases q : i = j
  · subst q
    rw [List.getElem?_set] at h
    simp at h
    exact Or.inl ⟨rfl, h.2.symm⟩
  · rw [List.getElem?_set_ne q] at h
    exact Or.inr ⟨fun z => q z.symm, nk_c_at h⟩
theorem nk_s2_at {L : List (Option Value)} {i j : Nat} {v w : Value} (h : (nk_s2 L i v)[j]? = some (some w)) : (j = i ∧ w = v) ∨ (j ≠ i ∧ j ≠ i + 1 ∧ L[j]? = some (some w) ∧ ¬ (j + 1 = i ∧ w.category = 2)) := by
  have h' : ((nk_s1 L i v).set (i + 1) none)[j]? = some (some w) := h
  by_cases q : i + 1 = j
  · subst q
    rw [List.getElem?_set] at h'
    simp at h'
  · rw [List.getElem?_set_ne q] at h'
    rcases nk_s1_at h' with a | ⟨a, b, c⟩
    · exact Or.inl a
    · exact Or.inr ⟨a, fun z => q z.symm, b, c⟩
theorem nk_L.s1 {ls' : Array Slot} {n i : Nat} {L : List (Option Value)} {v : Value} (hL : L.length = n) (h : lv_has ls' n ((i, v) :: (nk_al L).filter (fun q => !(q.1 == i) && !(q.1 + 1 == i && q.2.category == 2)))) : nk_L ls' n (nk_s1 L i v) := by
  refine ⟨h.1, by rw [nk_s1, List.length_set, nk_c_len]; exact hL, h.2.1, fun j w hj => ?_⟩
  rcases nk_s1_at hj with ⟨rfl, rfl⟩ | ⟨a, b, c⟩
  · exact h.2.2 _ List.mem_cons_self
  · refine h.2.2 (j, w) (List.mem_cons_of_mem _ (List.mem_filter.mpr ⟨nk_al_mem.mpr b, ?_⟩))
    simp only [Bool.and_eq_true, Bool.not_eq_true', beq_eq_false_iff_ne, ne_eq, Bool.and_eq_false_iff]
    refine ⟨a, ?_⟩
    by_cases z : j + 1 = i
    · exact Or.inr (fun q => c ⟨z, q⟩)
    · exact Or.inl z
theorem nk_L.s2 {ls' : Array Slot} {n i : Nat} {L : List (Option Value)} {v : Value} (hL : L.length = n) (h : lv_has ls' n ((i, v) :: (nk_al L).filter (fun q => !(q.1 == i) && (!(q.1 == i + 1) && !(q.1 + 1 == i && q.2.category == 2))))) : nk_L ls' n (nk_s2 L i v) := by
  refine ⟨h.1, by rw [nk_s2, List.length_set, List.length_set, nk_c_len]; exact hL, h.2.1, fun j w hj => ?_⟩
  rcases nk_s2_at hj with ⟨rfl, rfl⟩ | ⟨a, a2, b, c⟩
  · exact h.2.2 _ List.mem_cons_self
  · refine h.2.2 (j, w) (List.mem_cons_of_mem _ (List.mem_filter.mpr ⟨nk_al_mem.mpr b, ?_⟩))
    simp only [Bool.and_eq_true, Bool.not_eq_true', beq_eq_false_iff_ne, ne_eq, Bool.and_eq_false_iff]
    refine ⟨a, a2, ?_⟩
    by_cases z : j + 1 = i
    · exact Or.inr (fun q => c ⟨z, q⟩)
    · exact Or.inl z
/-- which instruction returns r from a method that returns ret -/
def nk_rO (ret : Option FieldType) (ins : Instr) (r : Option Value) : Prop :=
  (ret = none ∧ r = none ∧ ins = .return_) ∨ (∃ (ty : FieldType) (v : Int32), ret = some ty ∧ r = some (.int v) ∧ narrow ty (.int v) = .int v ∧ ins = .ireturn) ∨
  (∃ v : Int64, ret = some .long ∧ r = some (.long v) ∧ ins = .lreturn) ∨ (∃ (rt : FieldType) (v : Value), ret = some rt ∧ ((∃ n, rt = .object n) ∨ ∃ t, rt = .array t) ∧ (v = .null ∨ ∃ a, v = .ref a) ∧ r = some v ∧ ins = .areturn)
/-- the context of a method's walk -/
def nk_C (G : nk_EG) (μ : nk_MI) (d : Nat) (Φ : Option Value → nk_AH → Prop) (p : Program) (l : Launch) (e : Env) (R : Room) (s : State) (m : MethodId) (args : Array Value) (below : List Frame) (meth : Method) (c : Code) (mc ms : Nat) (A : Nat → Prop) (Q : State → Prop) : Prop :=
  p.tables.exec = Jvm.exec ∧ c.code = μ.2.1 ∧ c.maxLocals = μ.2.2.1 ∧ s.vm.findClass μ.1.cls = some m.cls ∧ meth.name = μ.1.name ∧ (∀ w ∈ nk_tw, w.before args s = true) ∧ (d ≤ R.frames ∧ 64 * d ≤ R.locals ∧ mc ≤ R.cells ∧ ms ≤ R.slots) ∧ nk_K G s ∧ nk_Z G A s s.heap ∧ nk_N s ∧ (∀ q : Nat, s.heap.size ≤ q → A q) ∧
  ∀ (pc : Nat) (ls : Array Slot) (Hc : Heap) (locs : List Loc) (ins : Instr) (r : Option Value) (H' : nk_AH), decode μ.2.1 pc = .ok (ins, 1) → nk_rO μ.2.2.2 ins r → Φ r H' → nk_P G H' Hc → (∀ a : Nat, (H' a).isSome = true → A a) → va_S A s.heap Hc locs → W p l e R s m args below meth c Hc locs mc ms Q (F0 m pc ls r.toList)
def nk_J (G : nk_EG) (μ : nk_MI) (d : Nat) (Φ : Option Value → nk_AH → Prop) (bc bs pc : Nat) (L : List (Option Value)) (st : List Value) (H : nk_AH) : Prop :=
  ∀ (p : Program) (l : Launch) (e : Env) (R : Room) (s : State) (m : MethodId) (args : Array Value) (below : List Frame) (meth : Method) (c : Code) (mc ms : Nat) (A : Nat → Prop) (Q : State → Prop), nk_C G μ d Φ p l e R s m args below meth c mc ms A Q →
  ∀ (Hc : Heap) (locs : List Loc) (cells slots : Nat) (ls : Array Slot), nk_L ls μ.2.2.1 L → nk_P G H Hc → (∀ a : Nat, (H a).isSome = true → A a) → va_S A s.heap Hc locs → cells + bc ≤ mc → slots + bs ≤ ms →
  W p l e R s m args below meth c Hc locs cells slots Q (F0 m pc ls st)
section NKR
variable {G : nk_EG} {μ : nk_MI} {d : Nat} {Φ : Option Value → nk_AH → Prop} {bc bs pc : Nat} {L : List (Option Value)} {st : List Value} {H : nk_AH}
theorem nk_iconst {n : Int} {v : Int32} (hd : decode μ.2.1 pc = .ok (.iconst n, 1)) (hv : Int32.ofInt n = v) (k : nk_J G μ d Φ bc bs (pc + 1) L (.int v :: st) H) : nk_J G μ d Φ bc bs pc L (st) H := by
  intro p l e R s m args below meth c mc ms A Q C Hc locs cells slots ls hl hP hA hS h1 h2
  exact lv_iconst C.1 C.2.1 hd hv (k _ _ _ _ _ _ _ _ _ _ _ _ _ _ C _ _ _ _ _ hl hP hA hS h1 h2)
theorem nk_bipush {n : Int} {v : Int32} (hd : decode μ.2.1 pc = .ok (.bipush n, 2)) (hv : (Int8.ofInt n).toInt32 = v) (k : nk_J G μ d Φ bc bs (pc + 2) L (.int v :: st) H) : nk_J G μ d Φ bc bs pc L (st) H := by
  intro p l e R s m args below meth c mc ms A Q C Hc locs cells slots ls hl hP hA hS h1 h2
  exact lv_bipush C.1 C.2.1 hd hv (k _ _ _ _ _ _ _ _ _ _ _ _ _ _ C _ _ _ _ _ hl hP hA hS h1 h2)
theorem nk_sipush {n : Int} {v : Int32} (hd : decode μ.2.1 pc = .ok (.sipush n, 3)) (hv : (Int16.ofInt n).toInt32 = v) (k : nk_J G μ d Φ bc bs (pc + 3) L (.int v :: st) H) : nk_J G μ d Φ bc bs pc L (st) H := by
  intro p l e R s m args below meth c mc ms A Q C Hc locs cells slots ls hl hP hA hS h1 h2
  exact lv_sipush C.1 C.2.1 hd hv (k _ _ _ _ _ _ _ _ _ _ _ _ _ _ C _ _ _ _ _ hl hP hA hS h1 h2)
theorem nk_lconst {n : Fin 2} {v : Int64} (hd : decode μ.2.1 pc = .ok (.lconst n, 1)) (hv : Int64.ofNat (n : Nat) = v) (k : nk_J G μ d Φ bc bs (pc + 1) L (.long v :: st) H) : nk_J G μ d Φ bc bs pc L (st) H := by
  intro p l e R s m args below meth c mc ms A Q C Hc locs cells slots ls hl hP hA hS h1 h2
  exact lv_lconst C.1 C.2.1 hd hv (k _ _ _ _ _ _ _ _ _ _ _ _ _ _ C _ _ _ _ _ hl hP hA hS h1 h2)
theorem nk_null  (hd : decode μ.2.1 pc = .ok (.aconst_null, 1))  (k : nk_J G μ d Φ bc bs (pc + 1) L (.null :: st) H) : nk_J G μ d Φ bc bs pc L (st) H := by
  intro p l e R s m args below meth c mc ms A Q C Hc locs cells slots ls hl hP hA hS h1 h2
  exact lv_null C.1 C.2.1 hd  (k _ _ _ _ _ _ _ _ _ _ _ _ _ _ C _ _ _ _ _ hl hP hA hS h1 h2)
theorem nk_iload_n {k0 : Fin 4} {i : Nat} {x : Int32} (hd : decode μ.2.1 pc = .ok (.iload_n k0, 1)) (hi : (k0 : Nat) = i) (hx : L[i]? = some (some (.int x))) (k : nk_J G μ d Φ bc bs (pc + 1) L (.int x :: st) H) : nk_J G μ d Φ bc bs pc L (st) H := by
  intro p l e R s m args below meth c mc ms A Q C Hc locs cells slots ls hl hP hA hS h1 h2
  exact lv_iload_n C.1 C.2.1 hd hi (hl.at hx) (k _ _ _ _ _ _ _ _ _ _ _ _ _ _ C _ _ _ _ _ hl hP hA hS h1 h2)
theorem nk_lload_n {k0 : Fin 4} {i : Nat} {x : Int64} (hd : decode μ.2.1 pc = .ok (.lload_n k0, 1)) (hi : (k0 : Nat) = i) (hx : L[i]? = some (some (.long x))) (k : nk_J G μ d Φ bc bs (pc + 1) L (.long x :: st) H) : nk_J G μ d Φ bc bs pc L (st) H := by
  intro p l e R s m args below meth c mc ms A Q C Hc locs cells slots ls hl hP hA hS h1 h2
  exact lv_lload_n C.1 C.2.1 hd hi (hl.at hx) (k _ _ _ _ _ _ _ _ _ _ _ _ _ _ C _ _ _ _ _ hl hP hA hS h1 h2)
theorem nk_aload_n {k0 : Fin 4} {i : Nat} {x : Nat} (hd : decode μ.2.1 pc = .ok (.aload_n k0, 1)) (hi : (k0 : Nat) = i) (hx : L[i]? = some (some (.ref x))) (k : nk_J G μ d Φ bc bs (pc + 1) L (.ref x :: st) H) : nk_J G μ d Φ bc bs pc L (st) H := by
  intro p l e R s m args below meth c mc ms A Q C Hc locs cells slots ls hl hP hA hS h1 h2
  exact lv_aload_n C.1 C.2.1 hd hi (hl.at hx) (k _ _ _ _ _ _ _ _ _ _ _ _ _ _ C _ _ _ _ _ hl hP hA hS h1 h2)
theorem nk_iload {i : Nat} {x : Int32} (hd : decode μ.2.1 pc = .ok (.iload i, 2)) (hx : L[i]? = some (some (.int x))) (k : nk_J G μ d Φ bc bs (pc + 2) L (.int x :: st) H) : nk_J G μ d Φ bc bs pc L (st) H := by
  intro p l e R s m args below meth c mc ms A Q C Hc locs cells slots ls hl hP hA hS h1 h2
  exact lv_iload C.1 C.2.1 hd (hl.at hx) (k _ _ _ _ _ _ _ _ _ _ _ _ _ _ C _ _ _ _ _ hl hP hA hS h1 h2)
theorem nk_lload {i : Nat} {x : Int64} (hd : decode μ.2.1 pc = .ok (.lload i, 2)) (hx : L[i]? = some (some (.long x))) (k : nk_J G μ d Φ bc bs (pc + 2) L (.long x :: st) H) : nk_J G μ d Φ bc bs pc L (st) H := by
  intro p l e R s m args below meth c mc ms A Q C Hc locs cells slots ls hl hP hA hS h1 h2
  exact lv_lload C.1 C.2.1 hd (hl.at hx) (k _ _ _ _ _ _ _ _ _ _ _ _ _ _ C _ _ _ _ _ hl hP hA hS h1 h2)
theorem nk_aload {i : Nat} {x : Nat} (hd : decode μ.2.1 pc = .ok (.aload i, 2)) (hx : L[i]? = some (some (.ref x))) (k : nk_J G μ d Φ bc bs (pc + 2) L (.ref x :: st) H) : nk_J G μ d Φ bc bs pc L (st) H := by
  intro p l e R s m args below meth c mc ms A Q C Hc locs cells slots ls hl hP hA hS h1 h2
  exact lv_aload C.1 C.2.1 hd (hl.at hx) (k _ _ _ _ _ _ _ _ _ _ _ _ _ _ C _ _ _ _ _ hl hP hA hS h1 h2)
theorem nk_aload_nN {k0 : Fin 4} {i : Nat} (hd : decode μ.2.1 pc = .ok (.aload_n k0, 1)) (hi : (k0 : Nat) = i) (hx : L[i]? = some (some .null)) (k : nk_J G μ d Φ bc bs (pc + 1) L (.null :: st) H) : nk_J G μ d Φ bc bs pc L (st) H := by
  intro p l e R s m args below meth c mc ms A Q C Hc locs cells slots ls hl hP hA hS h1 h2
  exact lv_aload_nN C.1 C.2.1 hd hi (hl.at hx) (k _ _ _ _ _ _ _ _ _ _ _ _ _ _ C _ _ _ _ _ hl hP hA hS h1 h2)
theorem nk_aloadN {i : Nat} (hd : decode μ.2.1 pc = .ok (.aload i, 2)) (hx : L[i]? = some (some .null)) (k : nk_J G μ d Φ bc bs (pc + 2) L (.null :: st) H) : nk_J G μ d Φ bc bs pc L (st) H := by
  intro p l e R s m args below meth c mc ms A Q C Hc locs cells slots ls hl hP hA hS h1 h2
  exact lv_aloadN C.1 C.2.1 hd (hl.at hx) (k _ _ _ _ _ _ _ _ _ _ _ _ _ _ C _ _ _ _ _ hl hP hA hS h1 h2)
theorem nk_istore_n {k0 : Fin 4} {i : Nat} {x : Int32} {L' : List (Option Value)} (hd : decode μ.2.1 pc = .ok (.istore_n k0, 1)) (hi : (k0 : Nat) = i) (hn : i < μ.2.2.1) (hL : nk_s1 L i (.int x) = L') (k : nk_J G μ d Φ bc bs (pc + 1) L' st H) : nk_J G μ d Φ bc bs pc L (.int x :: st) H := by
  intro p l e R s m args below meth c mc ms A Q C Hc locs cells slots ls hl hP hA hS h1 h2
  subst hL
  exact lv_istore_n C.1 C.2.1 hd hi hl.has hn rfl (fun ls' hl' => k _ _ _ _ _ _ _ _ _ _ _ _ _ _ C _ _ _ _ _ (nk_L.s1 hl.2.1 hl') hP hA hS h1 h2)
theorem nk_istore {i : Nat} {x : Int32} {L' : List (Option Value)} (hd : decode μ.2.1 pc = .ok (.istore i, 2))  (hn : i < μ.2.2.1) (hL : nk_s1 L i (.int x) = L') (k : nk_J G μ d Φ bc bs (pc + 2) L' st H) : nk_J G μ d Φ bc bs pc L (.int x :: st) H := by
  intro p l e R s m args below meth c mc ms A Q C Hc locs cells slots ls hl hP hA hS h1 h2
  subst hL
  exact lv_istore C.1 C.2.1 hd  hl.has hn rfl (fun ls' hl' => k _ _ _ _ _ _ _ _ _ _ _ _ _ _ C _ _ _ _ _ (nk_L.s1 hl.2.1 hl') hP hA hS h1 h2)
theorem nk_lstore_n {k0 : Fin 4} {i : Nat} {x : Int64} {L' : List (Option Value)} (hd : decode μ.2.1 pc = .ok (.lstore_n k0, 1)) (hi : (k0 : Nat) = i) (hn : i + 1 < μ.2.2.1) (hL : nk_s2 L i (.long x) = L') (k : nk_J G μ d Φ bc bs (pc + 1) L' st H) : nk_J G μ d Φ bc bs pc L (.long x :: st) H := by
  intro p l e R s m args below meth c mc ms A Q C Hc locs cells slots ls hl hP hA hS h1 h2
  subst hL
  exact lv_lstore_n C.1 C.2.1 hd hi hl.has hn rfl (fun ls' hl' => k _ _ _ _ _ _ _ _ _ _ _ _ _ _ C _ _ _ _ _ (nk_L.s2 hl.2.1 hl') hP hA hS h1 h2)
theorem nk_lstore {i : Nat} {x : Int64} {L' : List (Option Value)} (hd : decode μ.2.1 pc = .ok (.lstore i, 2))  (hn : i + 1 < μ.2.2.1) (hL : nk_s2 L i (.long x) = L') (k : nk_J G μ d Φ bc bs (pc + 2) L' st H) : nk_J G μ d Φ bc bs pc L (.long x :: st) H := by
  intro p l e R s m args below meth c mc ms A Q C Hc locs cells slots ls hl hP hA hS h1 h2
  subst hL
  exact lv_lstore C.1 C.2.1 hd  hl.has hn rfl (fun ls' hl' => k _ _ _ _ _ _ _ _ _ _ _ _ _ _ C _ _ _ _ _ (nk_L.s2 hl.2.1 hl') hP hA hS h1 h2)
theorem nk_astore_n {k0 : Fin 4} {i : Nat} {x : Nat} {L' : List (Option Value)} (hd : decode μ.2.1 pc = .ok (.astore_n k0, 1)) (hi : (k0 : Nat) = i) (hn : i < μ.2.2.1) (hL : nk_s1 L i (.ref x) = L') (k : nk_J G μ d Φ bc bs (pc + 1) L' st H) : nk_J G μ d Φ bc bs pc L (.ref x :: st) H := by
  intro p l e R s m args below meth c mc ms A Q C Hc locs cells slots ls hl hP hA hS h1 h2
  subst hL
  exact lv_astore_n C.1 C.2.1 hd hi hl.has hn rfl (fun ls' hl' => k _ _ _ _ _ _ _ _ _ _ _ _ _ _ C _ _ _ _ _ (nk_L.s1 hl.2.1 hl') hP hA hS h1 h2)
theorem nk_astore {i : Nat} {x : Nat} {L' : List (Option Value)} (hd : decode μ.2.1 pc = .ok (.astore i, 2))  (hn : i < μ.2.2.1) (hL : nk_s1 L i (.ref x) = L') (k : nk_J G μ d Φ bc bs (pc + 2) L' st H) : nk_J G μ d Φ bc bs pc L (.ref x :: st) H := by
  intro p l e R s m args below meth c mc ms A Q C Hc locs cells slots ls hl hP hA hS h1 h2
  subst hL
  exact lv_astore C.1 C.2.1 hd  hl.has hn rfl (fun ls' hl' => k _ _ _ _ _ _ _ _ _ _ _ _ _ _ C _ _ _ _ _ (nk_L.s1 hl.2.1 hl') hP hA hS h1 h2)
theorem nk_astore_nN {k0 : Fin 4} {i : Nat} {L' : List (Option Value)} (hd : decode μ.2.1 pc = .ok (.astore_n k0, 1)) (hi : (k0 : Nat) = i) (hn : i < μ.2.2.1) (hL : nk_s1 L i (.null) = L') (k : nk_J G μ d Φ bc bs (pc + 1) L' st H) : nk_J G μ d Φ bc bs pc L (.null :: st) H := by
  intro p l e R s m args below meth c mc ms A Q C Hc locs cells slots ls hl hP hA hS h1 h2
  subst hL
  exact lv_astore_nN C.1 C.2.1 hd hi hl.has hn rfl (fun ls' hl' => k _ _ _ _ _ _ _ _ _ _ _ _ _ _ C _ _ _ _ _ (nk_L.s1 hl.2.1 hl') hP hA hS h1 h2)
theorem nk_astoreN {i : Nat} {L' : List (Option Value)} (hd : decode μ.2.1 pc = .ok (.astore i, 2))  (hn : i < μ.2.2.1) (hL : nk_s1 L i (.null) = L') (k : nk_J G μ d Φ bc bs (pc + 2) L' st H) : nk_J G μ d Φ bc bs pc L (.null :: st) H := by
  intro p l e R s m args below meth c mc ms A Q C Hc locs cells slots ls hl hP hA hS h1 h2
  subst hL
  exact lv_astoreN C.1 C.2.1 hd  hl.has hn rfl (fun ls' hl' => k _ _ _ _ _ _ _ _ _ _ _ _ _ _ C _ _ _ _ _ (nk_L.s1 hl.2.1 hl') hP hA hS h1 h2)
theorem nk_iinc {i : Nat} {n : Int} {x v : Int32} {L' : List (Option Value)} (hd : decode μ.2.1 pc = .ok (.iinc i n, 3)) (hx : L[i]? = some (some (.int x))) (hv : x + Int32.ofInt n = v) (hn : i < μ.2.2.1) (hL : nk_s1 L i (.int v) = L') (k : nk_J G μ d Φ bc bs (pc + 3) L' st H) : nk_J G μ d Φ bc bs pc L st H := by
  intro p l e R s m args below meth c mc ms A Q C Hc locs cells slots ls hl hP hA hS h1 h2
  subst hL
  obtain ⟨q, hq⟩ := List.getElem?_of_mem (nk_al_mem.mpr hx)
  exact lv_iinc C.1 C.2.1 hd hl.has hq hv hn rfl (fun ls' hl' => k _ _ _ _ _ _ _ _ _ _ _ _ _ _ C _ _ _ _ _ (nk_L.s1 hl.2.1 hl') hP hA hS h1 h2)
theorem nk_iadd {x y : Int32} (hd : decode μ.2.1 pc = .ok (.iadd, 1))  (k : nk_J G μ d Φ bc bs (pc + 1) L (.int (x + y) :: st) H) : nk_J G μ d Φ bc bs pc L (.int y :: .int x :: st) H := by
  intro p l e R s m args below meth c mc ms A Q C Hc locs cells slots ls hl hP hA hS h1 h2
  exact lv_iadd C.1 C.2.1 hd  (k _ _ _ _ _ _ _ _ _ _ _ _ _ _ C _ _ _ _ _ hl hP hA hS h1 h2)
theorem nk_isub {x y : Int32} (hd : decode μ.2.1 pc = .ok (.isub, 1))  (k : nk_J G μ d Φ bc bs (pc + 1) L (.int (x - y) :: st) H) : nk_J G μ d Φ bc bs pc L (.int y :: .int x :: st) H := by
  intro p l e R s m args below meth c mc ms A Q C Hc locs cells slots ls hl hP hA hS h1 h2
  exact lv_isub C.1 C.2.1 hd  (k _ _ _ _ _ _ _ _ _ _ _ _ _ _ C _ _ _ _ _ hl hP hA hS h1 h2)
theorem nk_imul {x y : Int32} (hd : decode μ.2.1 pc = .ok (.imul, 1))  (k : nk_J G μ d Φ bc bs (pc + 1) L (.int (x * y) :: st) H) : nk_J G μ d Φ bc bs pc L (.int y :: .int x :: st) H := by
  intro p l e R s m args below meth c mc ms A Q C Hc locs cells slots ls hl hP hA hS h1 h2
  exact lv_imul C.1 C.2.1 hd  (k _ _ _ _ _ _ _ _ _ _ _ _ _ _ C _ _ _ _ _ hl hP hA hS h1 h2)
theorem nk_iand {x y : Int32} (hd : decode μ.2.1 pc = .ok (.iand, 1))  (k : nk_J G μ d Φ bc bs (pc + 1) L (.int (x &&& y) :: st) H) : nk_J G μ d Φ bc bs pc L (.int y :: .int x :: st) H := by
  intro p l e R s m args below meth c mc ms A Q C Hc locs cells slots ls hl hP hA hS h1 h2
  exact lv_iand C.1 C.2.1 hd  (k _ _ _ _ _ _ _ _ _ _ _ _ _ _ C _ _ _ _ _ hl hP hA hS h1 h2)
theorem nk_ior {x y : Int32} (hd : decode μ.2.1 pc = .ok (.ior, 1))  (k : nk_J G μ d Φ bc bs (pc + 1) L (.int (x ||| y) :: st) H) : nk_J G μ d Φ bc bs pc L (.int y :: .int x :: st) H := by
  intro p l e R s m args below meth c mc ms A Q C Hc locs cells slots ls hl hP hA hS h1 h2
  exact lv_ior C.1 C.2.1 hd  (k _ _ _ _ _ _ _ _ _ _ _ _ _ _ C _ _ _ _ _ hl hP hA hS h1 h2)
theorem nk_ixor {x y : Int32} (hd : decode μ.2.1 pc = .ok (.ixor, 1))  (k : nk_J G μ d Φ bc bs (pc + 1) L (.int (x ^^^ y) :: st) H) : nk_J G μ d Φ bc bs pc L (.int y :: .int x :: st) H := by
  intro p l e R s m args below meth c mc ms A Q C Hc locs cells slots ls hl hP hA hS h1 h2
  exact lv_ixor C.1 C.2.1 hd  (k _ _ _ _ _ _ _ _ _ _ _ _ _ _ C _ _ _ _ _ hl hP hA hS h1 h2)
theorem nk_ishl {x y : Int32} (hd : decode μ.2.1 pc = .ok (.ishl, 1))  (k : nk_J G μ d Φ bc bs (pc + 1) L (.int (x <<< (y &&& 31)) :: st) H) : nk_J G μ d Φ bc bs pc L (.int y :: .int x :: st) H := by
  intro p l e R s m args below meth c mc ms A Q C Hc locs cells slots ls hl hP hA hS h1 h2
  exact lv_ishl C.1 C.2.1 hd  (k _ _ _ _ _ _ _ _ _ _ _ _ _ _ C _ _ _ _ _ hl hP hA hS h1 h2)
theorem nk_ishr {x y : Int32} (hd : decode μ.2.1 pc = .ok (.ishr, 1))  (k : nk_J G μ d Φ bc bs (pc + 1) L (.int (x >>> (y &&& 31)) :: st) H) : nk_J G μ d Φ bc bs pc L (.int y :: .int x :: st) H := by
  intro p l e R s m args below meth c mc ms A Q C Hc locs cells slots ls hl hP hA hS h1 h2
  exact lv_ishr C.1 C.2.1 hd  (k _ _ _ _ _ _ _ _ _ _ _ _ _ _ C _ _ _ _ _ hl hP hA hS h1 h2)
theorem nk_idiv {x y : Int32} (hd : decode μ.2.1 pc = .ok (.idiv, 1)) (hne : ¬ y = 0) (k : nk_J G μ d Φ bc bs (pc + 1) L (.int (x / y) :: st) H) : nk_J G μ d Φ bc bs pc L (.int y :: .int x :: st) H := by
  intro p l e R s m args below meth c mc ms A Q C Hc locs cells slots ls hl hP hA hS h1 h2
  exact lv_idiv C.1 C.2.1 hd hne (k _ _ _ _ _ _ _ _ _ _ _ _ _ _ C _ _ _ _ _ hl hP hA hS h1 h2)
theorem nk_irem {x y : Int32} (hd : decode μ.2.1 pc = .ok (.irem, 1)) (hne : ¬ y = 0) (k : nk_J G μ d Φ bc bs (pc + 1) L (.int (x - x / y * y) :: st) H) : nk_J G μ d Φ bc bs pc L (.int y :: .int x :: st) H := by
  intro p l e R s m args below meth c mc ms A Q C Hc locs cells slots ls hl hP hA hS h1 h2
  exact lv_irem C.1 C.2.1 hd hne (k _ _ _ _ _ _ _ _ _ _ _ _ _ _ C _ _ _ _ _ hl hP hA hS h1 h2)
theorem nk_iushr {x y : Int32} (hd : decode μ.2.1 pc = .ok (.iushr, 1))  (k : nk_J G μ d Φ bc bs (pc + 1) L (.int ((x.toUInt32 >>> (y.toUInt32 &&& Int32.toUInt32 31)).toInt32) :: st) H) : nk_J G μ d Φ bc bs pc L (.int y :: .int x :: st) H := by
  intro p l e R s m args below meth c mc ms A Q C Hc locs cells slots ls hl hP hA hS h1 h2
  exact lv_iushr C.1 C.2.1 hd rfl (k _ _ _ _ _ _ _ _ _ _ _ _ _ _ C _ _ _ _ _ hl hP hA hS h1 h2)
theorem nk_ineg {x : Int32} (hd : decode μ.2.1 pc = .ok (.ineg, 1))  (k : nk_J G μ d Φ bc bs (pc + 1) L (.int (-x) :: st) H) : nk_J G μ d Φ bc bs pc L (.int x :: st) H := by
  intro p l e R s m args below meth c mc ms A Q C Hc locs cells slots ls hl hP hA hS h1 h2
  exact lv_ineg C.1 C.2.1 hd  (k _ _ _ _ _ _ _ _ _ _ _ _ _ _ C _ _ _ _ _ hl hP hA hS h1 h2)
theorem nk_ladd {x y : Int64} (hd : decode μ.2.1 pc = .ok (.ladd, 1))  (k : nk_J G μ d Φ bc bs (pc + 1) L (.long (x + y) :: st) H) : nk_J G μ d Φ bc bs pc L (.long y :: .long x :: st) H := by
  intro p l e R s m args below meth c mc ms A Q C Hc locs cells slots ls hl hP hA hS h1 h2
  exact lv_ladd C.1 C.2.1 hd  (k _ _ _ _ _ _ _ _ _ _ _ _ _ _ C _ _ _ _ _ hl hP hA hS h1 h2)
theorem nk_lsub {x y : Int64} (hd : decode μ.2.1 pc = .ok (.lsub, 1))  (k : nk_J G μ d Φ bc bs (pc + 1) L (.long (x - y) :: st) H) : nk_J G μ d Φ bc bs pc L (.long y :: .long x :: st) H := by
  intro p l e R s m args below meth c mc ms A Q C Hc locs cells slots ls hl hP hA hS h1 h2
  exact lv_lsub C.1 C.2.1 hd  (k _ _ _ _ _ _ _ _ _ _ _ _ _ _ C _ _ _ _ _ hl hP hA hS h1 h2)
theorem nk_lmul {x y : Int64} (hd : decode μ.2.1 pc = .ok (.lmul, 1))  (k : nk_J G μ d Φ bc bs (pc + 1) L (.long (x * y) :: st) H) : nk_J G μ d Φ bc bs pc L (.long y :: .long x :: st) H := by
  intro p l e R s m args below meth c mc ms A Q C Hc locs cells slots ls hl hP hA hS h1 h2
  exact lv_lmul C.1 C.2.1 hd  (k _ _ _ _ _ _ _ _ _ _ _ _ _ _ C _ _ _ _ _ hl hP hA hS h1 h2)
theorem nk_land {x y : Int64} (hd : decode μ.2.1 pc = .ok (.land, 1))  (k : nk_J G μ d Φ bc bs (pc + 1) L (.long (x &&& y) :: st) H) : nk_J G μ d Φ bc bs pc L (.long y :: .long x :: st) H := by
  intro p l e R s m args below meth c mc ms A Q C Hc locs cells slots ls hl hP hA hS h1 h2
  exact lv_land C.1 C.2.1 hd  (k _ _ _ _ _ _ _ _ _ _ _ _ _ _ C _ _ _ _ _ hl hP hA hS h1 h2)
theorem nk_lor {x y : Int64} (hd : decode μ.2.1 pc = .ok (.lor, 1))  (k : nk_J G μ d Φ bc bs (pc + 1) L (.long (x ||| y) :: st) H) : nk_J G μ d Φ bc bs pc L (.long y :: .long x :: st) H := by
  intro p l e R s m args below meth c mc ms A Q C Hc locs cells slots ls hl hP hA hS h1 h2
  exact lv_lor C.1 C.2.1 hd  (k _ _ _ _ _ _ _ _ _ _ _ _ _ _ C _ _ _ _ _ hl hP hA hS h1 h2)
theorem nk_ldiv {x y : Int64} (hd : decode μ.2.1 pc = .ok (.ldiv, 1)) (hne : ¬ y = 0) (k : nk_J G μ d Φ bc bs (pc + 1) L (.long (x / y) :: st) H) : nk_J G μ d Φ bc bs pc L (.long y :: .long x :: st) H := by
  intro p l e R s m args below meth c mc ms A Q C Hc locs cells slots ls hl hP hA hS h1 h2
  exact lv_ldiv C.1 C.2.1 hd hne (k _ _ _ _ _ _ _ _ _ _ _ _ _ _ C _ _ _ _ _ hl hP hA hS h1 h2)
theorem nk_lrem {x y : Int64} (hd : decode μ.2.1 pc = .ok (.lrem, 1)) (hne : ¬ y = 0) (k : nk_J G μ d Φ bc bs (pc + 1) L (.long (x - x / y * y) :: st) H) : nk_J G μ d Φ bc bs pc L (.long y :: .long x :: st) H := by
  intro p l e R s m args below meth c mc ms A Q C Hc locs cells slots ls hl hP hA hS h1 h2
  exact lv_lrem C.1 C.2.1 hd hne (k _ _ _ _ _ _ _ _ _ _ _ _ _ _ C _ _ _ _ _ hl hP hA hS h1 h2)
theorem nk_lshl {x : Int64} {y : Int32} (hd : decode μ.2.1 pc = .ok (.lshl, 1))  (k : nk_J G μ d Φ bc bs (pc + 1) L (.long (x <<< (y.toInt64 &&& 63)) :: st) H) : nk_J G μ d Φ bc bs pc L (.int y :: .long x :: st) H := by
  intro p l e R s m args below meth c mc ms A Q C Hc locs cells slots ls hl hP hA hS h1 h2
  exact lv_lshl C.1 C.2.1 hd rfl (k _ _ _ _ _ _ _ _ _ _ _ _ _ _ C _ _ _ _ _ hl hP hA hS h1 h2)
theorem nk_i2l {x : Int32} (hd : decode μ.2.1 pc = .ok (.i2l, 1))  (k : nk_J G μ d Φ bc bs (pc + 1) L (.long x.toInt64 :: st) H) : nk_J G μ d Φ bc bs pc L (.int x :: st) H := by
  intro p l e R s m args below meth c mc ms A Q C Hc locs cells slots ls hl hP hA hS h1 h2
  exact lv_i2l C.1 C.2.1 hd rfl (k _ _ _ _ _ _ _ _ _ _ _ _ _ _ C _ _ _ _ _ hl hP hA hS h1 h2)
theorem nk_l2i {x : Int64} (hd : decode μ.2.1 pc = .ok (.l2i, 1))  (k : nk_J G μ d Φ bc bs (pc + 1) L (.int x.toInt32 :: st) H) : nk_J G μ d Φ bc bs pc L (.long x :: st) H := by
  intro p l e R s m args below meth c mc ms A Q C Hc locs cells slots ls hl hP hA hS h1 h2
  exact lv_l2i C.1 C.2.1 hd rfl (k _ _ _ _ _ _ _ _ _ _ _ _ _ _ C _ _ _ _ _ hl hP hA hS h1 h2)
theorem nk_i2b {x : Int32} (hd : decode μ.2.1 pc = .ok (.i2b, 1))  (k : nk_J G μ d Φ bc bs (pc + 1) L (.int x.toInt8.toInt32 :: st) H) : nk_J G μ d Φ bc bs pc L (.int x :: st) H := by
  intro p l e R s m args below meth c mc ms A Q C Hc locs cells slots ls hl hP hA hS h1 h2
  exact lv_i2b C.1 C.2.1 hd rfl (k _ _ _ _ _ _ _ _ _ _ _ _ _ _ C _ _ _ _ _ hl hP hA hS h1 h2)
theorem nk_i2s {x : Int32} (hd : decode μ.2.1 pc = .ok (.i2s, 1))  (k : nk_J G μ d Φ bc bs (pc + 1) L (.int x.toInt16.toInt32 :: st) H) : nk_J G μ d Φ bc bs pc L (.int x :: st) H := by
  intro p l e R s m args below meth c mc ms A Q C Hc locs cells slots ls hl hP hA hS h1 h2
  exact lv_i2s C.1 C.2.1 hd rfl (k _ _ _ _ _ _ _ _ _ _ _ _ _ _ C _ _ _ _ _ hl hP hA hS h1 h2)
theorem nk_dup {v : Value} (hd : decode μ.2.1 pc = .ok (.dup, 1)) (hv : v.category = 1) (k : nk_J G μ d Φ bc bs (pc + 1) L (v :: v :: st) H) : nk_J G μ d Φ bc bs pc L (v :: st) H := by
  intro p l e R s m args below meth c mc ms A Q C Hc locs cells slots ls hl hP hA hS h1 h2
  exact lv_dup C.1 C.2.1 hd hv (k _ _ _ _ _ _ _ _ _ _ _ _ _ _ C _ _ _ _ _ hl hP hA hS h1 h2)
theorem nk_pop {v : Value} (hd : decode μ.2.1 pc = .ok (.pop, 1)) (hv : v.category = 1) (k : nk_J G μ d Φ bc bs (pc + 1) L (st) H) : nk_J G μ d Φ bc bs pc L (v :: st) H := by
  intro p l e R s m args below meth c mc ms A Q C Hc locs cells slots ls hl hP hA hS h1 h2
  exact lv_pop C.1 C.2.1 hd hv (k _ _ _ _ _ _ _ _ _ _ _ _ _ _ C _ _ _ _ _ hl hP hA hS h1 h2)
theorem nk_dup2 {v u : Value} (hd : decode μ.2.1 pc = .ok (.dup2, 1)) (hv : v.category = 1) (hu : u.category = 1) (k : nk_J G μ d Φ bc bs (pc + 1) L (v :: u :: v :: u :: st) H) : nk_J G μ d Φ bc bs pc L (v :: u :: st) H := by
  intro p l e R s m args below meth c mc ms A Q C Hc locs cells slots ls hl hP hA hS h1 h2
  exact lv_dup2_11 C.1 C.2.1 hd hv hu (k _ _ _ _ _ _ _ _ _ _ _ _ _ _ C _ _ _ _ _ hl hP hA hS h1 h2)
theorem nk_ifeq {x : Int32} {off : Int} {tgt : Nat} (hd : decode μ.2.1 pc = .ok (.ifCond .eq off, 3)) (ht : (pc : Int) + off = (tgt : Int)) (kt : x = 0 → nk_J G μ d Φ bc bs tgt L st H) (kf : ¬ x = 0 → nk_J G μ d Φ bc bs (pc + 3) L st H) : nk_J G μ d Φ bc bs pc L (.int x :: st) H := by
  intro p l e R s m args below meth c mc ms A Q C Hc locs cells slots ls hl hP hA hS h1 h2
  exact lv_if_eq C.1 C.2.1 hd ht (fun q => kt q _ _ _ _ _ _ _ _ _ _ _ _ _ _ C _ _ _ _ _ hl hP hA hS h1 h2) (fun q => kf q _ _ _ _ _ _ _ _ _ _ _ _ _ _ C _ _ _ _ _ hl hP hA hS h1 h2)
theorem nk_ifne {x : Int32} {off : Int} {tgt : Nat} (hd : decode μ.2.1 pc = .ok (.ifCond .ne off, 3)) (ht : (pc : Int) + off = (tgt : Int)) (kt : ¬ x = 0 → nk_J G μ d Φ bc bs tgt L st H) (kf : x = 0 → nk_J G μ d Φ bc bs (pc + 3) L st H) : nk_J G μ d Φ bc bs pc L (.int x :: st) H := by
  intro p l e R s m args below meth c mc ms A Q C Hc locs cells slots ls hl hP hA hS h1 h2
  exact lv_if_ne C.1 C.2.1 hd ht (fun q => kt q _ _ _ _ _ _ _ _ _ _ _ _ _ _ C _ _ _ _ _ hl hP hA hS h1 h2) (fun q => kf q _ _ _ _ _ _ _ _ _ _ _ _ _ _ C _ _ _ _ _ hl hP hA hS h1 h2)
theorem nk_iflt {x : Int32} {off : Int} {tgt : Nat} (hd : decode μ.2.1 pc = .ok (.ifCond .lt off, 3)) (ht : (pc : Int) + off = (tgt : Int)) (kt : x < 0 → nk_J G μ d Φ bc bs tgt L st H) (kf : ¬ x < 0 → nk_J G μ d Φ bc bs (pc + 3) L st H) : nk_J G μ d Φ bc bs pc L (.int x :: st) H := by
  intro p l e R s m args below meth c mc ms A Q C Hc locs cells slots ls hl hP hA hS h1 h2
  exact lv_if_lt C.1 C.2.1 hd ht (fun q => kt q _ _ _ _ _ _ _ _ _ _ _ _ _ _ C _ _ _ _ _ hl hP hA hS h1 h2) (fun q => kf q _ _ _ _ _ _ _ _ _ _ _ _ _ _ C _ _ _ _ _ hl hP hA hS h1 h2)
theorem nk_ifge {x : Int32} {off : Int} {tgt : Nat} (hd : decode μ.2.1 pc = .ok (.ifCond .ge off, 3)) (ht : (pc : Int) + off = (tgt : Int)) (kt : 0 ≤ x → nk_J G μ d Φ bc bs tgt L st H) (kf : ¬ 0 ≤ x → nk_J G μ d Φ bc bs (pc + 3) L st H) : nk_J G μ d Φ bc bs pc L (.int x :: st) H := by
  intro p l e R s m args below meth c mc ms A Q C Hc locs cells slots ls hl hP hA hS h1 h2
  exact lv_if_ge C.1 C.2.1 hd ht (fun q => kt q _ _ _ _ _ _ _ _ _ _ _ _ _ _ C _ _ _ _ _ hl hP hA hS h1 h2) (fun q => kf q _ _ _ _ _ _ _ _ _ _ _ _ _ _ C _ _ _ _ _ hl hP hA hS h1 h2)
theorem nk_ifgt {x : Int32} {off : Int} {tgt : Nat} (hd : decode μ.2.1 pc = .ok (.ifCond .gt off, 3)) (ht : (pc : Int) + off = (tgt : Int)) (kt : 0 < x → nk_J G μ d Φ bc bs tgt L st H) (kf : ¬ 0 < x → nk_J G μ d Φ bc bs (pc + 3) L st H) : nk_J G μ d Φ bc bs pc L (.int x :: st) H := by
  intro p l e R s m args below meth c mc ms A Q C Hc locs cells slots ls hl hP hA hS h1 h2
  exact lv_if_gt C.1 C.2.1 hd ht (fun q => kt q _ _ _ _ _ _ _ _ _ _ _ _ _ _ C _ _ _ _ _ hl hP hA hS h1 h2) (fun q => kf q _ _ _ _ _ _ _ _ _ _ _ _ _ _ C _ _ _ _ _ hl hP hA hS h1 h2)
theorem nk_ifle {x : Int32} {off : Int} {tgt : Nat} (hd : decode μ.2.1 pc = .ok (.ifCond .le off, 3)) (ht : (pc : Int) + off = (tgt : Int)) (kt : x ≤ 0 → nk_J G μ d Φ bc bs tgt L st H) (kf : ¬ x ≤ 0 → nk_J G μ d Φ bc bs (pc + 3) L st H) : nk_J G μ d Φ bc bs pc L (.int x :: st) H := by
  intro p l e R s m args below meth c mc ms A Q C Hc locs cells slots ls hl hP hA hS h1 h2
  exact lv_if_le C.1 C.2.1 hd ht (fun q => kt q _ _ _ _ _ _ _ _ _ _ _ _ _ _ C _ _ _ _ _ hl hP hA hS h1 h2) (fun q => kf q _ _ _ _ _ _ _ _ _ _ _ _ _ _ C _ _ _ _ _ hl hP hA hS h1 h2)
theorem nk_icmpeq {x y : Int32} {off : Int} {tgt : Nat} (hd : decode μ.2.1 pc = .ok (.if_icmp .eq off, 3)) (ht : (pc : Int) + off = (tgt : Int)) (kt : x = y → nk_J G μ d Φ bc bs tgt L st H) (kf : ¬ x = y → nk_J G μ d Φ bc bs (pc + 3) L st H) : nk_J G μ d Φ bc bs pc L (.int y :: .int x :: st) H := by
  intro p l e R s m args below meth c mc ms A Q C Hc locs cells slots ls hl hP hA hS h1 h2
  exact lv_icmp_eq C.1 C.2.1 hd ht (fun q => kt q _ _ _ _ _ _ _ _ _ _ _ _ _ _ C _ _ _ _ _ hl hP hA hS h1 h2) (fun q => kf q _ _ _ _ _ _ _ _ _ _ _ _ _ _ C _ _ _ _ _ hl hP hA hS h1 h2)
theorem nk_icmpne {x y : Int32} {off : Int} {tgt : Nat} (hd : decode μ.2.1 pc = .ok (.if_icmp .ne off, 3)) (ht : (pc : Int) + off = (tgt : Int)) (kt : ¬ x = y → nk_J G μ d Φ bc bs tgt L st H) (kf : x = y → nk_J G μ d Φ bc bs (pc + 3) L st H) : nk_J G μ d Φ bc bs pc L (.int y :: .int x :: st) H := by
  intro p l e R s m args below meth c mc ms A Q C Hc locs cells slots ls hl hP hA hS h1 h2
  exact lv_icmp_ne C.1 C.2.1 hd ht (fun q => kt q _ _ _ _ _ _ _ _ _ _ _ _ _ _ C _ _ _ _ _ hl hP hA hS h1 h2) (fun q => kf q _ _ _ _ _ _ _ _ _ _ _ _ _ _ C _ _ _ _ _ hl hP hA hS h1 h2)
theorem nk_icmplt {x y : Int32} {off : Int} {tgt : Nat} (hd : decode μ.2.1 pc = .ok (.if_icmp .lt off, 3)) (ht : (pc : Int) + off = (tgt : Int)) (kt : x < y → nk_J G μ d Φ bc bs tgt L st H) (kf : ¬ x < y → nk_J G μ d Φ bc bs (pc + 3) L st H) : nk_J G μ d Φ bc bs pc L (.int y :: .int x :: st) H := by
  intro p l e R s m args below meth c mc ms A Q C Hc locs cells slots ls hl hP hA hS h1 h2
  exact lv_icmp_lt C.1 C.2.1 hd ht (fun q => kt q _ _ _ _ _ _ _ _ _ _ _ _ _ _ C _ _ _ _ _ hl hP hA hS h1 h2) (fun q => kf q _ _ _ _ _ _ _ _ _ _ _ _ _ _ C _ _ _ _ _ hl hP hA hS h1 h2)
theorem nk_icmpge {x y : Int32} {off : Int} {tgt : Nat} (hd : decode μ.2.1 pc = .ok (.if_icmp .ge off, 3)) (ht : (pc : Int) + off = (tgt : Int)) (kt : y ≤ x → nk_J G μ d Φ bc bs tgt L st H) (kf : ¬ y ≤ x → nk_J G μ d Φ bc bs (pc + 3) L st H) : nk_J G μ d Φ bc bs pc L (.int y :: .int x :: st) H := by
  intro p l e R s m args below meth c mc ms A Q C Hc locs cells slots ls hl hP hA hS h1 h2
  exact lv_icmp_ge C.1 C.2.1 hd ht (fun q => kt q _ _ _ _ _ _ _ _ _ _ _ _ _ _ C _ _ _ _ _ hl hP hA hS h1 h2) (fun q => kf q _ _ _ _ _ _ _ _ _ _ _ _ _ _ C _ _ _ _ _ hl hP hA hS h1 h2)
theorem nk_icmpgt {x y : Int32} {off : Int} {tgt : Nat} (hd : decode μ.2.1 pc = .ok (.if_icmp .gt off, 3)) (ht : (pc : Int) + off = (tgt : Int)) (kt : y < x → nk_J G μ d Φ bc bs tgt L st H) (kf : ¬ y < x → nk_J G μ d Φ bc bs (pc + 3) L st H) : nk_J G μ d Φ bc bs pc L (.int y :: .int x :: st) H := by
  intro p l e R s m args below meth c mc ms A Q C Hc locs cells slots ls hl hP hA hS h1 h2
  exact lv_icmp_gt C.1 C.2.1 hd ht (fun q => kt q _ _ _ _ _ _ _ _ _ _ _ _ _ _ C _ _ _ _ _ hl hP hA hS h1 h2) (fun q => kf q _ _ _ _ _ _ _ _ _ _ _ _ _ _ C _ _ _ _ _ hl hP hA hS h1 h2)
theorem nk_icmple {x y : Int32} {off : Int} {tgt : Nat} (hd : decode μ.2.1 pc = .ok (.if_icmp .le off, 3)) (ht : (pc : Int) + off = (tgt : Int)) (kt : x ≤ y → nk_J G μ d Φ bc bs tgt L st H) (kf : ¬ x ≤ y → nk_J G μ d Φ bc bs (pc + 3) L st H) : nk_J G μ d Φ bc bs pc L (.int y :: .int x :: st) H := by
  intro p l e R s m args below meth c mc ms A Q C Hc locs cells slots ls hl hP hA hS h1 h2
  exact lv_icmp_le C.1 C.2.1 hd ht (fun q => kt q _ _ _ _ _ _ _ _ _ _ _ _ _ _ C _ _ _ _ _ hl hP hA hS h1 h2) (fun q => kf q _ _ _ _ _ _ _ _ _ _ _ _ _ _ C _ _ _ _ _ hl hP hA hS h1 h2)
theorem nk_goto  {off : Int} {tgt : Nat} (hd : decode μ.2.1 pc = .ok (.goto off, 3)) (ht : (pc : Int) + off = (tgt : Int)) (k : nk_J G μ d Φ bc bs tgt L st H) : nk_J G μ d Φ bc bs pc L (st) H := by
  intro p l e R s m args below meth c mc ms A Q C Hc locs cells slots ls hl hP hA hS h1 h2
  exact lv_goto C.1 C.2.1 hd ht (k _ _ _ _ _ _ _ _ _ _ _ _ _ _ C _ _ _ _ _ hl hP hA hS h1 h2)
theorem nk_ifnonnullR {x : Nat} {off : Int} {tgt : Nat} (hd : decode μ.2.1 pc = .ok (.ifnonnull off, 3)) (ht : (pc : Int) + off = (tgt : Int)) (k : nk_J G μ d Φ bc bs tgt L st H) : nk_J G μ d Φ bc bs pc L (.ref x :: st) H := by
  intro p l e R s m args below meth c mc ms A Q C Hc locs cells slots ls hl hP hA hS h1 h2
  exact lv_ifnonnull C.1 C.2.1 hd ht (k _ _ _ _ _ _ _ _ _ _ _ _ _ _ C _ _ _ _ _ hl hP hA hS h1 h2)
theorem nk_ifnullN  {off : Int} {tgt : Nat} (hd : decode μ.2.1 pc = .ok (.ifnull off, 3)) (ht : (pc : Int) + off = (tgt : Int)) (k : nk_J G μ d Φ bc bs tgt L st H) : nk_J G μ d Φ bc bs pc L (.null :: st) H := by
  intro p l e R s m args below meth c mc ms A Q C Hc locs cells slots ls hl hP hA hS h1 h2
  exact lv_ifnullN C.1 C.2.1 hd ht (k _ _ _ _ _ _ _ _ _ _ _ _ _ _ C _ _ _ _ _ hl hP hA hS h1 h2)
theorem nk_ifnullR {x : Nat} {off : Int} (hd : decode μ.2.1 pc = .ok (.ifnull off, 3)) (k : nk_J G μ d Φ bc bs (pc + 3) L st H) : nk_J G μ d Φ bc bs pc L (.ref x :: st) H := by
  intro p l e R s m args below meth c mc ms A Q C Hc locs cells slots ls hl hP hA hS h1 h2
  exact lv_ifnull C.1 C.2.1 hd (k _ _ _ _ _ _ _ _ _ _ _ _ _ _ C _ _ _ _ _ hl hP hA hS h1 h2)
theorem nk_ifnonnullN  {off : Int} (hd : decode μ.2.1 pc = .ok (.ifnonnull off, 3)) (k : nk_J G μ d Φ bc bs (pc + 3) L st H) : nk_J G μ d Φ bc bs pc L (.null :: st) H := by
  intro p l e R s m args below meth c mc ms A Q C Hc locs cells slots ls hl hP hA hS h1 h2
  exact lv_ifnonnullN C.1 C.2.1 hd (k _ _ _ _ _ _ _ _ _ _ _ _ _ _ C _ _ _ _ _ hl hP hA hS h1 h2)
theorem nk_lcmp {x y : Int64} (hd : decode μ.2.1 pc = .ok (.lcmp, 1)) (k : nk_J G μ d Φ bc bs (pc + 1) L (.int (lg_cmp x y) :: st) H) : nk_J G μ d Φ bc bs pc L (.long y :: .long x :: st) H := by
  intro p l e R s m args below meth c mc ms A Q C Hc locs cells slots ls hl hP hA hS h1 h2
  exact W.lcmp C.1 C.2.1 hd (k _ _ _ _ _ _ _ _ _ _ _ _ _ _ C _ _ _ _ _ hl hP hA hS h1 h2)
theorem nk_lookup {dflt : Int} {ps : Array (Int × Int)} {len : Nat} {x : Int32} {off : Int} {tgt : Nat} (hd : decode μ.2.1 pc = .ok (.lookupswitch dflt ps, len)) (hp : (ps.toList.zip (ps.toList.drop 1)).all (fun (a, next) => a.1 < next.1) = true) (ho : Op.lookupswitch.offset ps.toList dflt x.toInt = off) (ht : (pc : Int) + off = (tgt : Int)) (k : nk_J G μ d Φ bc bs tgt L st H) : nk_J G μ d Φ bc bs pc L (.int x :: st) H := by
  intro p l e R s m args below meth c mc ms A Q C Hc locs cells slots ls hl hP hA hS h1 h2
  exact lv_lookup C.1 C.2.1 hd hp ho ht (k _ _ _ _ _ _ _ _ _ _ _ _ _ _ C _ _ _ _ _ hl hP hA hS h1 h2)
theorem nk_tableOut {dflt lo hi : Int} {offs : Array Int} {len : Nat} {x : Int32} {tgt : Nat} (hd : decode μ.2.1 pc = .ok (.tableswitch dflt lo hi offs, len)) (h : x.toInt < lo ∨ hi < x.toInt) (ht : (pc : Int) + dflt = (tgt : Int)) (k : nk_J G μ d Φ bc bs tgt L st H) : nk_J G μ d Φ bc bs pc L (.int x :: st) H := by
  intro p l e R s m args below meth c mc ms A Q C Hc locs cells slots ls hl hP hA hS h1 h2
  exact lv_tableOut C.1 C.2.1 hd h ht (k _ _ _ _ _ _ _ _ _ _ _ _ _ _ C _ _ _ _ _ hl hP hA hS h1 h2)
theorem nk_tableIn {dflt lo hi : Int} {offs : Array Int} {len : Nat} {x : Int32} {off : Int} {tgt : Nat} (hd : decode μ.2.1 pc = .ok (.tableswitch dflt lo hi offs, len)) (ha : ¬ x.toInt < lo) (hb : ¬ hi < x.toInt) (ho : offs[(x.toInt - lo).toNat]? = some off) (ht : (pc : Int) + off = (tgt : Int)) (k : nk_J G μ d Φ bc bs tgt L st H) : nk_J G μ d Φ bc bs pc L (.int x :: st) H := by
  intro p l e R s m args below meth c mc ms A Q C Hc locs cells slots ls hl hP hA hS h1 h2
  exact lv_tableIn C.1 C.2.1 hd ha hb ho ht (k _ _ _ _ _ _ _ _ _ _ _ _ _ _ C _ _ _ _ _ hl hP hA hS h1 h2)
theorem nk_ldc {index : Nat} {v : Int32} (hw : Cond.constant μ.1.cls index v ∈ nk_tw) (hd : decode μ.2.1 pc = .ok (.ldc index, 2)) (k : nk_J G μ d Φ bc bs (pc + 2) L (.int v :: st) H) : nk_J G μ d Φ bc bs pc L st H := by
  intro p l e R s m args below meth c mc ms A Q C Hc locs cells slots ls hl hP hA hS h1 h2
  exact lv_ldc C.1 C.2.1 C.2.2.2.1 (C.2.2.2.2.2.1 _ hw) hd (k _ _ _ _ _ _ _ _ _ _ _ _ _ _ C _ _ _ _ _ hl hP hA hS h1 h2)
theorem nk_ldcw {index : Nat} {v : Int32} (hw : Cond.constant μ.1.cls index v ∈ nk_tw) (hd : decode μ.2.1 pc = .ok (.ldc_w index, 3)) (k : nk_J G μ d Φ bc bs (pc + 3) L (.int v :: st) H) : nk_J G μ d Φ bc bs pc L st H := by
  intro p l e R s m args below meth c mc ms A Q C Hc locs cells slots ls hl hP hA hS h1 h2
  exact lv_ldcw C.1 C.2.1 C.2.2.2.1 (C.2.2.2.2.2.1 _ hw) hd (k _ _ _ _ _ _ _ _ _ _ _ _ _ _ C _ _ _ _ _ hl hP hA hS h1 h2)
theorem nk_ldc2 {index : Nat} {v : Int64} (hw : Cond.constantLong μ.1.cls index v ∈ nk_tw) (hd : decode μ.2.1 pc = .ok (.ldc2_w index, 3)) (k : nk_J G μ d Φ bc bs (pc + 3) L (.long v :: st) H) : nk_J G μ d Φ bc bs pc L st H := by
  intro p l e R s m args below meth c mc ms A Q C Hc locs cells slots ls hl hP hA hS h1 h2
  exact lv_ldc2 C.1 C.2.1 C.2.2.2.1 (C.2.2.2.2.2.1 _ hw) hd (k _ _ _ _ _ _ _ _ _ _ _ _ _ _ C _ _ _ _ _ hl hP hA hS h1 h2)
/-- the returns -/
theorem nk_ret {ins : Instr} {r : Option Value} (hd : decode μ.2.1 pc = .ok (ins, 1)) (hr : nk_rO μ.2.2.2 ins r) (hf : Φ r H) : nk_J G μ d Φ bc bs pc L r.toList H := by
  intro p l e R s m args below meth c mc ms A Q C Hc locs cells slots ls hl hP hA hS h1 h2
  exact W.widen (by omega) (by omega) (C.2.2.2.2.2.2.2.2.2.2.2 pc ls Hc locs ins r H hd hr hf hP hA hS)
theorem nk_ireturn {v : Int32} (hd : decode μ.2.1 pc = .ok (.ireturn, 1)) (hr : μ.2.2.2 = some .int) (hf : Φ (some (.int v)) H) : nk_J G μ d Φ bc bs pc L [.int v] H :=
  nk_ret hd (Or.inr (Or.inl ⟨.int, v, hr, rfl, rfl, rfl⟩)) hf
theorem nk_zreturn {v : Int32} (hd : decode μ.2.1 pc = .ok (.ireturn, 1)) (hr : μ.2.2.2 = some .boolean) (hn : narrow .boolean (.int v) = .int v) (hf : Φ (some (.int v)) H) : nk_J G μ d Φ bc bs pc L [.int v] H :=
  nk_ret hd (Or.inr (Or.inl ⟨.boolean, v, hr, rfl, hn, rfl⟩)) hf
theorem nk_lreturn {v : Int64} (hd : decode μ.2.1 pc = .ok (.lreturn, 1)) (hr : μ.2.2.2 = some .long) (hf : Φ (some (.long v)) H) : nk_J G μ d Φ bc bs pc L [.long v] H :=
  nk_ret hd (Or.inr (Or.inr (Or.inl ⟨v, hr, rfl, rfl⟩))) hf
theorem nk_vreturn (hd : decode μ.2.1 pc = .ok (.return_, 1)) (hr : μ.2.2.2 = none) (hf : Φ none H) : nk_J G μ d Φ bc bs pc L [] H :=
  nk_ret hd (Or.inl ⟨hr, rfl, rfl⟩) hf
theorem nk_areturn {a : Nat} {n : String} (hd : decode μ.2.1 pc = .ok (.areturn, 1)) (hr : μ.2.2.2 = some (.object n)) (hf : Φ (some (.ref a)) H) : nk_J G μ d Φ bc bs pc L [.ref a] H :=
  nk_ret hd (Or.inr (Or.inr (Or.inr ⟨_, _, hr, Or.inl ⟨n, rfl⟩, Or.inr ⟨a, rfl⟩, rfl, rfl⟩))) hf
theorem nk_areturnN {n : String} (hd : decode μ.2.1 pc = .ok (.areturn, 1)) (hr : μ.2.2.2 = some (.object n)) (hf : Φ (some .null) H) : nk_J G μ d Φ bc bs pc L [.null] H :=
  nk_ret hd (Or.inr (Or.inr (Or.inr ⟨_, _, hr, Or.inl ⟨n, rfl⟩, Or.inl rfl, rfl, rfl⟩))) hf
/-- the budget may be cut; the heap, the stack, the locals told otherwise -/
theorem nk_J.less {bc' bs' : Nat} (h1 : bc' ≤ bc) (h2 : bs' ≤ bs) (k : nk_J G μ d Φ bc' bs' pc L st H) : nk_J G μ d Φ bc bs pc L st H :=
  fun p l e R s m args below meth c mc ms A Q C Hc locs cells slots ls hl hP hA hS g1 g2 => k p l e R s m args below meth c mc ms A Q C Hc locs cells slots ls hl hP hA hS (by omega) (by omega)
theorem nk_J.to {L' : List (Option Value)} {st' : List Value} {H' : nk_AH} (k : nk_J G μ d Φ bc bs pc L' st' H') (hL : L = L') (hst : st = st') (hH : H = H') : nk_J G μ d Φ bc bs pc L st H := by
  subst hL; subst hst; subst hH; exact k
end NKR
end
section
/-! heap rows of nk_J -/
theorem nk_in {w : Cond} (k : Nat) (h : lw_tbl[k]? = some w) (g : goodWord w = true) : w ∈ nk_tw := List.mem_filter.mpr ⟨List.mem_of_getElem? h, g⟩
def nk_f (G : nk_EG) (H : nk_AH) (a : Nat) : va_E := match H a with
  | some e => nk_e G.2.1 e
  | none => .inr (0, [])
theorem nk_f_some {G : nk_EG} {H : nk_AH} {a : Nat} {e : nk_AC} (h : H a = some e) : nk_f G H a = nk_e G.2.1 e := by unfold nk_f; rw [h]
theorem nk_list {G : nk_EG} {H : nk_AH} {Hc : Heap} (hP : nk_P G H Hc) : ∃ Ls : List Nat, Ls.Nodup ∧ (∀ a, a ∈ Ls ↔ (H a).isSome = true) ∧ va_P G.1 vwCl (va_pl Ls (nk_f G H)) Hc := by
  have hm : ∀ a, a ∈ (List.range Hc.size).filter (fun a => (H a).isSome) ↔ (H a).isSome = true := by
    intro a
    rw [List.mem_filter, List.mem_range]
    refine ⟨fun h => h.2, fun h => ⟨?_, h⟩⟩
    obtain ⟨e, he⟩ := Option.isSome_iff_exists.mp h
    exact (hP a e he).lt
  refine ⟨(List.range Hc.size).filter (fun a => (H a).isSome), List.nodup_range.filter _, hm, fun k q hk => ?_⟩
  obtain ⟨a, ha, rfl⟩ := List.mem_map.mp (List.mem_of_getElem? hk)
  obtain ⟨e, he⟩ := Option.isSome_iff_exists.mp ((hm a).mp ha)
  rw [nk_f_some he]
  exact hP a e he
theorem nk_Dpl {A : Nat → Prop} {Ls : List Nat} {f : Nat → va_E} (hn : Ls.Nodup) (hA : ∀ a ∈ Ls, A a) : va_D A (va_pl Ls f) := by
  refine ⟨fun i j p q hi hj hpq => ?_, fun k q hk => ?_⟩
  · unfold va_pl at hi hj
    rw [List.getElem?_map] at hi hj
    cases hx : Ls[i]? with
    | none => rw [hx] at hi; cases hi
    | some x =>
      cases hy : Ls[j]? with
      | none => rw [hy] at hj; cases hj
      | some y =>
        rw [hx] at hi; rw [hy] at hj
        cases hi; cases hj
        have hxy : x = y := hpq
        subst hxy
        obtain ⟨l1, e1⟩ := List.getElem?_eq_some_iff.mp hx
        obtain ⟨l2, e2⟩ := List.getElem?_eq_some_iff.mp hy
        exact (List.getElem?_inj l1 hn).mp (hx.trans hy.symm)
  · obtain ⟨a, ha, rfl⟩ := List.mem_map.mp (List.mem_of_getElem? hk)
    exact hA a ha
theorem nk_from {G : nk_EG} {H : nk_AH} {Hc : Heap} {Ls : List Nat} {f : Nat → va_E} (h : va_P G.1 vwCl (va_pl Ls f) Hc) (hf : ∀ a ∈ Ls, f a = nk_f G H a) (hm : ∀ a, (H a).isSome = true → a ∈ Ls) : nk_P G H Hc := by
  intro a e he
  have ha := hm a (by rw [he]; rfl)
  obtain ⟨k, hk⟩ := List.getElem?_of_mem (show (a, f a) ∈ va_pl Ls f from List.mem_map.mpr ⟨a, ha, rfl⟩)
  have := h k _ hk
  rw [hf a ha, nk_f_some he] at this
  exact this
theorem nk_get {G : nk_EG} {H : nk_AH} {Ls : List Nat} {a : Nat} {e : nk_AC} (hm : ∀ a, a ∈ Ls ↔ (H a).isSome = true) (h : H a = some e) : ∃ k : Nat, (va_pl Ls (nk_f G H))[k]? = some (a, nk_e G.2.1 e) := by
  obtain ⟨k, hk⟩ := va_pl_get (X := []) (L := Ls) (f := nk_f G H) ((hm a).mpr (by rw [h]; rfl))
  rw [nk_f_some h] at hk
  exact ⟨k, hk⟩
/-- a cell is written -/
theorem nk_set {A : Nat → Prop} {G : nk_EG} {H : nk_AH} {Ls : List Nat} {a q0 : Nat} {e e' : nk_AC} {H1 : Heap} (hm : ∀ a, a ∈ Ls ↔ (H a).isSome = true) (hD : va_D A (va_pl Ls (nk_f G H))) (h : H a = some e) (hk : (va_pl Ls (nk_f G H))[q0]? = some (a, nk_e G.2.1 e)) (hP : va_P G.1 vwCl ((va_pl Ls (nk_f G H)).set q0 (a, nk_e G.2.1 e')) H1) : nk_P G (nk_u H a e') H1 := by
  have ha : a ∈ Ls := (hm a).mpr (by rw [h]; rfl)
  have hs := va_pl_set (X := []) (e := nk_e G.2.1 e') hD ha (by rw [nk_f_some h]; exact hk)
  have hs : (va_pl Ls (nk_f G H)).set q0 (a, nk_e G.2.1 e') = va_pl Ls (va_up (nk_f G H) a (nk_e G.2.1 e')) := hs
  rw [hs] at hP
  refine nk_from hP (fun b _ => ?_) (fun b hb => ?_)
  · by_cases q : b = a
    · subst q
      rw [nk_f_some (nk_u_self H b e')]
      simp [va_up]
    · simp [va_up, q, nk_f, nk_u_ne q]
  · rcases nk_u_dom hb with rfl | q
    · exact ha
    · exact (hm b).mpr q
/-- a cell is new -/
theorem nk_push {A : Nat → Prop} {G : nk_EG} {H : nk_AH} {Ls : List Nat} {a : Nat} {e : nk_AC} {H1 : Heap} (hm : ∀ a, a ∈ Ls ↔ (H a).isSome = true) (hD : va_D A (va_pl Ls (nk_f G H) ++ [(a, nk_e G.2.1 e)])) (hP : va_P G.1 vwCl (va_pl Ls (nk_f G H) ++ [(a, nk_e G.2.1 e)]) H1) : H a = none ∧ A a ∧ nk_P G (nk_u H a e) H1 := by
  have hlast : (va_pl Ls (nk_f G H) ++ [(a, nk_e G.2.1 e)])[(va_pl Ls (nk_f G H)).length]? = some (a, nk_e G.2.1 e) := by
    rw [List.getElem?_append_right (Nat.le_refl _), Nat.sub_self]; rfl
  have hn : a ∉ Ls := by
    intro ha
    obtain ⟨k, hk⟩ := List.getElem?_of_mem (show (a, nk_f G H a) ∈ va_pl Ls (nk_f G H) from List.mem_map.mpr ⟨a, ha, rfl⟩)
    have hl := (List.getElem?_eq_some_iff.mp hk).1
    have hk2 : (va_pl Ls (nk_f G H) ++ [(a, nk_e G.2.1 e)])[k]? = some (a, nk_f G H a) := by rw [List.getElem?_append_left hl]; exact hk
    have := hD.1 _ _ _ _ hk2 hlast rfl
    omega
  refine ⟨?_, hD.2 _ _ hlast, ?_⟩
  · cases hh : H a with
    | none => rfl
    | some x => exact absurd ((hm a).mpr (by rw [hh]; rfl)) hn
  · rw [va_pl_push hn] at hP
    refine nk_from hP (fun b hb => ?_) (fun b hb => ?_)
    · by_cases q : b = a
      · subst q
        rw [nk_f_some (nk_u_self H b e)]
        simp [va_up]
      · simp [va_up, q, nk_f, nk_u_ne q]
    · rcases nk_u_dom hb with rfl | q
      · exact List.mem_append_right _ List.mem_cons_self
      · exact List.mem_append_left _ ((hm b).mpr q)
theorem nk_cA {s : State} {c c' : ClassId} {ty : FieldType} (h : va_RA s c ty) (h' : va_RA s c' ty) : c = c' := by
  cases ty with
  | object C =>
    obtain ⟨_, _, -, -, -, h1⟩ := h
    obtain ⟨_, _, -, -, -, h2⟩ := h'
    rw [h1] at h2
    exact Option.some.inj h2
  | _ => exact Option.some.inj (Eq.trans (Eq.symm (show s.vm.findClass _ = some c from h)) (show s.vm.findClass _ = some c' from h'))
end
section
/-! rows that read or write the heap -/
def nk_fl (own : String) (index ci k : Nat) : Prop := ∃ (C : String) (T : u_T) (N : Nat), vwCl[ci]? = some (C, T, N) ∧ (∀ w ∈ u_ws C T N, w ∈ nk_tw) ∧ k < N ∧ Cond.fieldLink own index (T k).1 (T k).2.1 (T k).2.2.1 ∈ nk_tw
def nk_fp (own : String) (index ci k : Nat) (ty : FieldType) (fin : Bool) : Prop := ∃ (C : String) (T : u_T) (N : Nat) (ty0 : Nat → FieldType), vwCl[ci]? = some (C, T, N) ∧ (∀ w ∈ u_ws C T N, w ∈ nk_tw) ∧ (∀ k, k < N → parseFieldDescriptor (T k).2.2.1 = some (ty0 k)) ∧ (∀ a, a < N → ∀ b, b < N → a ≠ b → (T a).2.1 ≠ (T b).2.1) ∧ k < N ∧ Cond.fieldLink own index (T k).1 (T k).2.1 (T k).2.2.1 ∈ nk_tw ∧ (T k).2.2.2 = fin ∧ parseFieldDescriptor (T k).2.2.1 = some ty ∧ (T k).1 = C
def nk_nw (own : String) (index ci N : Nat) (fs : List Value) : Prop := ∃ (C : String) (T : u_T) (ty0 : Nat → FieldType), vwCl[ci]? = some (C, T, N) ∧ (∀ w ∈ u_ws C T N, w ∈ nk_tw) ∧ (∀ k, k < N → parseFieldDescriptor (T k).2.2.1 = some (ty0 k)) ∧ Cond.classLink own index C ∈ nk_tw ∧ Cond.instantiable C N ∈ nk_tw ∧ Cond.initialized C ∈ nk_tw ∧ ∀ j, j < N → defaultValue (ty0 j) = vp_V fs j
theorem nk_tys {G : nk_EG} {t0 : Nat} {ty : FieldType} (h : nk_Ty[t0]? = some ty) : (nk_Ts G)[t0]? = some (G.2.1 ty, ty) := by
  rw [List.getElem?_map, h]; rfl
section NKH
variable {G : nk_EG} {μ : nk_MI} {d : Nat} {Φ : Option Value → nk_AH → Prop} {bc bs pc : Nat} {L : List (Option Value)} {st : List Value} {H : nk_AH} {a : Nat}
theorem nk_getf {index ci i : Nat} {fs : List Value} {v : Value} (f : nk_fl μ.1.cls index ci i) (hd : decode μ.2.1 pc = .ok (.getfield index, 3)) (hH : H a = some (.inr (ci, fs))) (hv : fs[i]? = some v) (k : nk_J G μ d Φ bc bs (pc + 3) L (v :: st) H) : nk_J G μ d Φ bc bs pc L (.ref a :: st) H := by
  intro p l e R s m args below meth c mc ms A Q C Hc locs cells slots ls hl hP hA hS h1 h2
  obtain ⟨Cn, T, N, f1, f2, f3, f4⟩ := f
  have hw : va_P G.1 vwCl [(a, nk_e G.2.1 (.inr (ci, fs)))] Hc := fun k q hk => by
    cases k with
    | zero => cases hk; exact hP a _ hH
    | succ k => cases hk
  exact va_get (D := G.1) C.1 C.2.1 C.2.2.2.2.2.1 f2 C.2.2.2.1 C.2.2.2.2.2.2.2.1 hw 0 rfl f1 i f3 (C.2.2.2.2.2.1 _ f4) (fun _ h9 => h9) hv hd (k _ _ _ _ _ _ _ _ _ _ _ _ _ _ C _ _ _ _ _ hl hP hA hS h1 h2)
theorem nk_putf {index ci i : Nat} {fs fs' : List Value} {v : Value} {ty : FieldType} (f : nk_fp μ.1.cls index ci i ty false) (hd : decode μ.2.1 pc = .ok (.putfield index, 3)) (hH : H a = some (.inr (ci, fs))) (hn : narrow ty v = v) (hfit : fits ty v = true) (hi : i < fs.length) (hfs : fs.set i v = fs') (k : nk_J G μ d Φ bc bs (pc + 3) L st (nk_u H a (.inr (ci, fs')))) : nk_J G μ d Φ bc bs pc L (v :: .ref a :: st) H := by
  intro p l e R s m args below meth c mc ms A Q C Hc locs cells slots ls hl hP hA hS h1 h2
  subst hfs
  obtain ⟨Cn, T, N, ty0, f1, f2, f3, f4, f5, f6, f7, f8, f9⟩ := f
  obtain ⟨Ls, n1, n2, n3⟩ := nk_list hP
  obtain ⟨q0, hq⟩ := nk_get (G := G) n2 hH
  have hD : va_D A (va_pl Ls (nk_f G H)) := nk_Dpl n1 (fun b hb => hA b ((n2 b).mp hb))
  exact va_put (D := G.1) C.1 C.2.1 C.2.2.2.2.2.1 f2 ty0 f3 f4 C.2.2.2.1 C.2.2.2.2.2.2.2.1 n3 hD hS q0 hq f1 i f5 (C.2.2.2.2.2.1 _ f6) (fun _ h9 => h9) f7 f8 hn hfit hi hd (fun H1 locs1 gP gD gS =>
    k _ _ _ _ _ _ _ _ _ _ _ _ _ _ C _ _ _ _ _ hl (nk_set (e' := .inr (ci, fs.set i v)) n2 hD hH hq gP) (fun b hb => (nk_u_dom hb).elim (fun z => by rw [z]; exact hA a (by rw [hH]; rfl)) (hA b)) gS h1 h2)
theorem nk_putF {index ci i : Nat} {fs fs' : List Value} {v : Value} {ty : FieldType} (f : nk_fp μ.1.cls index ci i ty true) (hin : μ.1.name = "<init>") (hown : ∀ q, vwCl[ci]? = some q → q.1 = μ.1.cls) (hd : decode μ.2.1 pc = .ok (.putfield index, 3)) (hH : H a = some (.inr (ci, fs))) (hn : narrow ty v = v) (hfit : fits ty v = true) (hi : i < fs.length) (hfs : fs.set i v = fs') (k : nk_J G μ d Φ bc bs (pc + 3) L st (nk_u H a (.inr (ci, fs')))) : nk_J G μ d Φ bc bs pc L (v :: .ref a :: st) H := by
  intro p l e R s m args below meth c mc ms A Q C Hc locs cells slots ls hl hP hA hS h1 h2
  subst hfs
  obtain ⟨Cn, T, N, ty0, f1, f2, f3, f4, f5, f6, f7, f8, f9⟩ := f
  obtain ⟨Ls, n1, n2, n3⟩ := nk_list hP
  obtain ⟨q0, hq⟩ := nk_get (G := G) n2 hH
  have hD : va_D A (va_pl Ls (nk_f G H)) := nk_Dpl n1 (fun b hb => hA b ((n2 b).mp hb))
  exact va_putF (D := G.1) C.1 C.2.1 C.2.2.2.2.2.1 f2 ty0 f3 f4 C.2.2.2.1 C.2.2.2.2.2.2.2.1 n3 hD hS q0 hq f1 i f5 (C.2.2.2.2.2.1 _ f6) (fun _ h9 => h9) f7 (C.2.2.2.2.1.trans hin) (f9.trans (hown _ f1)) f8 hn hfit hi hd (fun H1 locs1 gP gD gS =>
    k _ _ _ _ _ _ _ _ _ _ _ _ _ _ C _ _ _ _ _ hl (nk_set (e' := .inr (ci, fs.set i v)) n2 hD hH hq gP) (fun b hb => (nk_u_dom hb).elim (fun z => by rw [z]; exact hA a (by rw [hH]; rfl)) (hA b)) gS h1 h2)
theorem nk_new {index ci N bc' bs' : Nat} {fs : List Value} (f : nk_nw μ.1.cls index ci N fs) (hd : decode μ.2.1 pc = .ok (.new index, 3)) (hb : bc' + 1 ≤ bc ∧ bs' + N ≤ bs) (k : ∀ q : Nat, H q = none → nk_J G μ d Φ bc' bs' (pc + 3) L (.ref q :: st) (nk_u H q (.inr (ci, fs)))) : nk_J G μ d Φ bc bs pc L st H := by
  intro p l e R s m args below meth c mc ms A Q C Hc locs cells slots ls hl hP hA hS h1 h2
  obtain ⟨Cn, T, ty0, f1, f2, f3, f4, f5, f6, f7⟩ := f
  obtain ⟨Ls, n1, n2, n3⟩ := nk_list hP
  have hD : va_D A (va_pl Ls (nk_f G H)) := nk_Dpl n1 (fun b hb => hA b ((n2 b).mp hb))
  have hr := C.2.2.2.2.2.2.1
  refine va_new (D := G.1) (fs := fs) C.1 C.2.1 C.2.2.2.2.2.1 f2 ty0 f3 C.2.2.2.1 (C.2.2.2.2.2.1 _ f4) (C.2.2.2.2.2.1 _ f5) (C.2.2.2.2.2.1 _ f6) C.2.2.2.2.2.2.2.1 n3 hD hS C.2.2.2.2.2.2.2.2.2.2.1 f1 f7 (by omega) (by omega) hd (fun q H1 gP gD gS => ?_)
  obtain ⟨g1, g2, g3⟩ := nk_push (e := .inr (ci, fs)) n2 gD gP
  exact k q g1 _ _ _ _ _ _ _ _ _ _ _ _ _ _ C _ _ _ _ _ hl g3 (fun b hb => (nk_u_dom hb).elim (fun z => by rw [z]; exact g2) (hA b)) gS (by omega) (by omega)
theorem nk_iald {n : Nat} {f : Nat → Int32} {i : Int32} (hd : decode μ.2.1 pc = .ok (.iaload, 1)) (hH : H a = some (.inl (.int, n, .inl f))) (hin : vp_in i n) (k : nk_J G μ d Φ bc bs (pc + 1) L (.int (f i.toNatClampNeg) :: st) H) : nk_J G μ d Φ bc bs pc L (.int i :: .ref a :: st) H := by
  intro p l e R s m args below meth c mc ms A Q C Hc locs cells slots ls hl hP hA hS h1 h2
  obtain ⟨Ls, n1, n2, n3⟩ := nk_list hP
  obtain ⟨q0, hq⟩ := nk_get (G := G) n2 hH
  exact va_iald C.1 C.2.1 C.2.2.2.2.2.2.2.1 n3 q0 0 hq (nk_tys (t0 := 0) rfl) hin hd (k _ _ _ _ _ _ _ _ _ _ _ _ _ _ C _ _ _ _ _ hl hP hA hS h1 h2)
theorem nk_zald {n : Nat} {f : Nat → Int32} {i : Int32} (hd : decode μ.2.1 pc = .ok (.baload, 1)) (hH : H a = some (.inl (.boolean, n, .inl f))) (hin : vp_in i n) (k : nk_J G μ d Φ bc bs (pc + 1) L (.int (f i.toNatClampNeg) :: st) H) : nk_J G μ d Φ bc bs pc L (.int i :: .ref a :: st) H := by
  intro p l e R s m args below meth c mc ms A Q C Hc locs cells slots ls hl hP hA hS h1 h2
  obtain ⟨Ls, n1, n2, n3⟩ := nk_list hP
  obtain ⟨q0, hq⟩ := nk_get (G := G) n2 hH
  exact va_zald C.1 C.2.1 C.2.2.2.2.2.2.2.1 n3 q0 1 hq (nk_tys (t0 := 1) rfl) hin hd (k _ _ _ _ _ _ _ _ _ _ _ _ _ _ C _ _ _ _ _ hl hP hA hS h1 h2)
theorem nk_aald {n : Nat} {ty : FieldType} {f : Nat → Option Nat} {i : Int32} {v : Value} (t0 : Nat) (ht : nk_Ty[t0]? = some ty) (hr : ty.isReference = true) (hd : decode μ.2.1 pc = .ok (.aaload, 1)) (hH : H a = some (.inl (ty, n, .inr (.inr (.inr (.inr f)))))) (hin : vp_in i n) (hv : va_rf (f i.toNatClampNeg) = v) (k : nk_J G μ d Φ bc bs (pc + 1) L (v :: st) H) : nk_J G μ d Φ bc bs pc L (.int i :: .ref a :: st) H := by
  intro p l e R s m args below meth c mc ms A Q C Hc locs cells slots ls hl hP hA hS h1 h2
  subst hv
  have hlt : i.toNatClampNeg < n := Nat.not_le.mp fun q => hin (Or.inr q)
  have hc : Hc[a]? = some (vp_cell (G.2.1 ty) (n, .inr (.inr (.inr (.inr f))))) := hP a _ hH
  have hK := C.2.2.2.2.2.2.2.1
  exact W.aald (v := va_rf (f i.toNatClampNeg)) (ty := ty) C.1 C.2.1 hc ((hK.2 t0 _ (nk_tys ht)).1 n (fun j => va_rf (f j))) hr (fun q => by cases q) (by show ¬ (i < 0 ∨ (arrV _ _ _).slots.size ≤ _); rw [arrV_size]; exact hin) (by show (arrV _ _ _).slots[_]? = _; rw [arrV_read _ _ hlt]) rfl rfl hd (k _ _ _ _ _ _ _ _ _ _ _ _ _ _ C _ _ _ _ _ hl hP hA hS h1 h2)
theorem nk_iast {n : Nat} {f : Nat → Int32} {i x : Int32} (hd : decode μ.2.1 pc = .ok (.iastore, 1)) (hH : H a = some (.inl (.int, n, .inl f))) (hin : vp_in i n) (k : nk_J G μ d Φ bc bs (pc + 1) L st (nk_u H a (.inl (.int, n, .inl (upd f i.toNatClampNeg x))))) : nk_J G μ d Φ bc bs pc L (.int x :: .int i :: .ref a :: st) H := by
  intro p l e R s m args below meth c mc ms A Q C Hc locs cells slots ls hl hP hA hS h1 h2
  obtain ⟨Ls, n1, n2, n3⟩ := nk_list hP
  obtain ⟨q0, hq⟩ := nk_get (G := G) n2 hH
  have hD : va_D A (va_pl Ls (nk_f G H)) := nk_Dpl n1 (fun b hb => hA b ((n2 b).mp hb))
  exact va_iast C.1 C.2.1 C.2.2.2.2.2.2.2.1 n3 hD hS q0 0 hq (nk_tys (t0 := 0) rfl) hin hd (fun H1 locs1 gP gD gS =>
    k _ _ _ _ _ _ _ _ _ _ _ _ _ _ C _ _ _ _ _ hl (nk_set (e' := .inl (.int, n, .inl (upd f i.toNatClampNeg x))) n2 hD hH hq gP) (fun b hb => (nk_u_dom hb).elim (fun z => by rw [z]; exact hA a (by rw [hH]; rfl)) (hA b)) gS h1 h2)
theorem nk_zast {n : Nat} {f : Nat → Int32} {i x : Int32} (hd : decode μ.2.1 pc = .ok (.bastore, 1)) (hH : H a = some (.inl (.boolean, n, .inl f))) (hin : vp_in i n) (k : nk_J G μ d Φ bc bs (pc + 1) L st (nk_u H a (.inl (.boolean, n, .inl (upd f i.toNatClampNeg (vp_nar .boolean x)))))) : nk_J G μ d Φ bc bs pc L (.int x :: .int i :: .ref a :: st) H := by
  intro p l e R s m args below meth c mc ms A Q C Hc locs cells slots ls hl hP hA hS h1 h2
  obtain ⟨Ls, n1, n2, n3⟩ := nk_list hP
  obtain ⟨q0, hq⟩ := nk_get (G := G) n2 hH
  have hD : va_D A (va_pl Ls (nk_f G H)) := nk_Dpl n1 (fun b hb => hA b ((n2 b).mp hb))
  exact va_zast C.1 C.2.1 C.2.2.2.2.2.2.2.1 n3 hD hS q0 1 hq (nk_tys (t0 := 1) rfl) hin hd (fun H1 locs1 gP gD gS =>
    k _ _ _ _ _ _ _ _ _ _ _ _ _ _ C _ _ _ _ _ hl (nk_set (e' := .inl (.boolean, n, .inl (upd f i.toNatClampNeg (vp_nar .boolean x)))) n2 hD hH hq gP) (fun b hb => (nk_u_dom hb).elim (fun z => by rw [z]; exact hA a (by rw [hH]; rfl)) (hA b)) gS h1 h2)
theorem nk_aast {n v ci : Nat} {r : vw_C} {vs : List Value} {f : Nat → Option Nat} {i : Int32} (t0 : Nat) (ht : nk_Ty[t0]? = some (.object r.1)) (hc : vwCl[ci]? = some r) (hd : decode μ.2.1 pc = .ok (.aastore, 1)) (hH : H a = some (.inl (.object r.1, n, .inr (.inr (.inr (.inr f)))))) (hv : H v = some (.inr (ci, vs))) (hin : vp_in i n) (k : nk_J G μ d Φ bc bs (pc + 1) L st (nk_u H a (.inl (.object r.1, n, .inr (.inr (.inr (.inr (va_up f i.toNatClampNeg (some v)))))))) ) : nk_J G μ d Φ bc bs pc L (.ref v :: .int i :: .ref a :: st) H := by
  intro p l e R s m args below meth c mc ms A Q C Hc locs cells slots ls hl hP hA hS h1 h2
  obtain ⟨Ls, n1, n2, n3⟩ := nk_list hP
  obtain ⟨q0, hq⟩ := nk_get (G := G) n2 hH
  obtain ⟨q1, hq1⟩ := nk_get (G := G) n2 hv
  have hD : va_D A (va_pl Ls (nk_f G H)) := nk_Dpl n1 (fun b hb => hA b ((n2 b).mp hb))
  exact va_astq C.1 C.2.1 C.2.2.2.2.2.2.2.1 n3 hD hS q0 t0 q1 ci hq (nk_tys ht) hq1 hc hin hd (fun H1 locs1 gP gD gS =>
    k _ _ _ _ _ _ _ _ _ _ _ _ _ _ C _ _ _ _ _ hl (nk_set (e' := .inl (.object r.1, n, .inr (.inr (.inr (.inr (va_up f i.toNatClampNeg (some v))))))) n2 hD hH hq gP) (fun b hb => (nk_u_dom hb).elim (fun z => by rw [z]; exact hA a (by rw [hH]; rfl)) (hA b)) gS h1 h2)
theorem nk_aastN {n : Nat} {Cn : String} {f : Nat → Option Nat} {i : Int32} (t0 : Nat) (ht : nk_Ty[t0]? = some (.object Cn)) (hd : decode μ.2.1 pc = .ok (.aastore, 1)) (hH : H a = some (.inl (.object Cn, n, .inr (.inr (.inr (.inr f)))))) (hin : vp_in i n) (k : nk_J G μ d Φ bc bs (pc + 1) L st (nk_u H a (.inl (.object Cn, n, .inr (.inr (.inr (.inr (va_up f i.toNatClampNeg none)))))))) : nk_J G μ d Φ bc bs pc L (.null :: .int i :: .ref a :: st) H := by
  intro p l e R s m args below meth c mc ms A Q C Hc locs cells slots ls hl hP hA hS h1 h2
  obtain ⟨Ls, n1, n2, n3⟩ := nk_list hP
  obtain ⟨q0, hq⟩ := nk_get (G := G) n2 hH
  have hD : va_D A (va_pl Ls (nk_f G H)) := nk_Dpl n1 (fun b hb => hA b ((n2 b).mp hb))
  exact va_astqN C.1 C.2.1 C.2.2.2.2.2.2.2.1 n3 hD hS q0 t0 hq (nk_tys ht) hin hd (fun H1 locs1 gP gD gS =>
    k _ _ _ _ _ _ _ _ _ _ _ _ _ _ C _ _ _ _ _ hl (nk_set (e' := .inl (.object Cn, n, .inr (.inr (.inr (.inr (va_up f i.toNatClampNeg none)))))) n2 hD hH hq gP) (fun b hb => (nk_u_dom hb).elim (fun z => by rw [z]; exact hA a (by rw [hH]; rfl)) (hA b)) gS h1 h2)
theorem nk_alen {ty : FieldType} {x : vp_A} {v : Int32} (t0 : Nat) (ht : nk_Ty[t0]? = some ty) (hd : decode μ.2.1 pc = .ok (.arraylength, 1)) (hH : H a = some (.inl (ty, x))) (hv : Int32.ofNat x.1 = v) (k : nk_J G μ d Φ bc bs (pc + 1) L (.int v :: st) H) : nk_J G μ d Φ bc bs pc L (.ref a :: st) H := by
  intro p l e R s m args below meth c mc ms A Q C Hc locs cells slots ls hl hP hA hS h1 h2
  obtain ⟨Ls, n1, n2, n3⟩ := nk_list hP
  obtain ⟨q0, hq⟩ := nk_get (G := G) n2 hH
  exact va_alen C.1 C.2.1 C.2.2.2.2.2.2.2.1 n3 q0 t0 hq (nk_tys ht) hv hd (k _ _ _ _ _ _ _ _ _ _ _ _ _ _ C _ _ _ _ _ hl hP hA hS h1 h2)
theorem nk_tld {t n : Nat} {f : Nat → Int32} {i : Int32} (hd : decode μ.2.1 pc = .ok (.iaload, 1)) (hG : G.2.2.1 t = some (n, f)) (hin : vp_in i n) (k : nk_J G μ d Φ bc bs (pc + 1) L (.int (f i.toNatClampNeg) :: st) H) : nk_J G μ d Φ bc bs pc L (.int i :: .ref t :: st) H := by
  intro p l e R s m args below meth c mc ms A Q C Hc locs cells slots ls hl hP hA hS h1 h2
  exact va_ti C.1 C.2.1 (C.2.2.2.2.2.2.2.2.1.1 t n f hG) hS hin rfl hd (k _ _ _ _ _ _ _ _ _ _ _ _ _ _ C _ _ _ _ _ hl hP hA hS h1 h2)
theorem nk_tlen {t n : Nat} {f : Nat → Int32} {v : Int32} (hd : decode μ.2.1 pc = .ok (.arraylength, 1)) (hG : G.2.2.1 t = some (n, f)) (hv : Int32.ofNat n = v) (k : nk_J G μ d Φ bc bs (pc + 1) L (.int v :: st) H) : nk_J G μ d Φ bc bs pc L (.ref t :: st) H := by
  intro p l e R s m args below meth c mc ms A Q C Hc locs cells slots ls hl hP hA hS h1 h2
  exact va_tlen C.1 C.2.1 (C.2.2.2.2.2.2.2.2.1.1 t n f hG) hS hv hd (k _ _ _ _ _ _ _ _ _ _ _ _ _ _ C _ _ _ _ _ hl hP hA hS h1 h2)
theorem nk_gets {index : Nat} {q : String × String × String} (j : Nat) (hj : nk_sZ[j]? = some q) (hw : Cond.fieldLink μ.1.cls index q.1 q.2.1 q.2.2 ∈ nk_tw) (hd : decode μ.2.1 pc = .ok (.getstatic index, 3)) (k : nk_J G μ d Φ bc bs (pc + 3) L (.ref (G.2.2.2 j) :: st) H) : nk_J G μ d Φ bc bs pc L st H := by
  intro p l e R s m args below meth c mc ms A Q C Hc locs cells slots ls hl hP hA hS h1 h2
  exact va_gets C.1 C.2.1 (C.2.2.2.2.2.2.2.2.1.2 j q hj) hS C.2.2.2.1 (C.2.2.2.2.2.1 _ hw) (fun _ h9 => h9) hd (k _ _ _ _ _ _ _ _ _ _ _ _ _ _ C _ _ _ _ _ hl hP hA hS h1 h2)
theorem nk_newi {n : Int32} {N bc' bs' : Nat} (hw : Cond.arrayClass .int ∈ nk_tw) (hd : decode μ.2.1 pc = .ok (.newarray .int, 2)) (hn : n = nI N) (hN : N ≤ 65536) (hb : bc' + 1 ≤ bc ∧ bs' + N ≤ bs) (k : ∀ q : Nat, H q = none → nk_J G μ d Φ bc' bs' (pc + 2) L (.ref q :: st) (nk_u H q (.inl (.int, N, .inl (fun _ => 0))))) : nk_J G μ d Φ bc bs pc L (.int n :: st) H := by
  intro p l e R s m args below meth c mc ms A Q C Hc locs cells slots ls hl hP hA hS h1 h2
  subst hn
  obtain ⟨Ls, n1, n2, n3⟩ := nk_list hP
  have hD : va_D A (va_pl Ls (nk_f G H)) := nk_Dpl n1 (fun b hb => hA b ((n2 b).mp hb))
  have hr := C.2.2.2.2.2.2.1
  have hK := C.2.2.2.2.2.2.2.1
  have hN2 : N < 2 ^ 31 := Nat.lt_of_le_of_lt hN (Nat.le_of_ble_eq_true rfl : 65536 + 1 ≤ 2 ^ 31)
  refine va_newa (atype := .int) (ty := .int) (a0 := (N, .inl (fun _ => 0))) (D := G.1) C.1 C.2.1 (C.2.2.2.2.2.1 _ hw) rfl hK n3 hD hS C.2.2.2.2.2.2.2.2.2.2.1 (fun _ => rfl) (nI_pos hN2) (nI_clamp hN2) (by show N * 4 ≤ 536870912; omega) (by omega) (by omega) hd (fun q cA H1 gK gP gD gS => ?_)
  have hc : cA = G.2.1 .int := nk_cA (gK.2 6 _ (by rfl)).2 (hK.2 0 _ (nk_tys (t0 := 0) rfl)).2
  subst hc
  obtain ⟨g1, g2, g3⟩ := nk_push (e := .inl (.int, N, .inl (fun _ => 0))) n2 gD gP
  exact k q g1 _ _ _ _ _ _ _ _ _ _ _ _ _ _ C _ _ _ _ _ hl g3 (fun b hb => (nk_u_dom hb).elim (fun z => by rw [z]; exact g2) (hA b)) gS (by omega) (by omega)
theorem nk_newz {n : Int32} {N bc' bs' : Nat} (hw : Cond.arrayClass .boolean ∈ nk_tw) (hd : decode μ.2.1 pc = .ok (.newarray .boolean, 2)) (hn : n = nI N) (hN : N ≤ 65536) (hb : bc' + 1 ≤ bc ∧ bs' + N ≤ bs) (k : ∀ q : Nat, H q = none → nk_J G μ d Φ bc' bs' (pc + 2) L (.ref q :: st) (nk_u H q (.inl (.boolean, N, .inl (fun _ => 0))))) : nk_J G μ d Φ bc bs pc L (.int n :: st) H := by
  intro p l e R s m args below meth c mc ms A Q C Hc locs cells slots ls hl hP hA hS h1 h2
  subst hn
  obtain ⟨Ls, n1, n2, n3⟩ := nk_list hP
  have hD : va_D A (va_pl Ls (nk_f G H)) := nk_Dpl n1 (fun b hb => hA b ((n2 b).mp hb))
  have hr := C.2.2.2.2.2.2.1
  have hK := C.2.2.2.2.2.2.2.1
  have hN2 : N < 2 ^ 31 := Nat.lt_of_le_of_lt hN (Nat.le_of_ble_eq_true rfl : 65536 + 1 ≤ 2 ^ 31)
  refine va_newa (atype := .boolean) (ty := .boolean) (a0 := (N, .inl (fun _ => 0))) (D := G.1) C.1 C.2.1 (C.2.2.2.2.2.1 _ hw) rfl hK n3 hD hS C.2.2.2.2.2.2.2.2.2.2.1 (fun _ => rfl) (nI_pos hN2) (nI_clamp hN2) (by show N * 1 ≤ 536870912; omega) (by omega) (by omega) hd (fun q cA H1 gK gP gD gS => ?_)
  have hc : cA = G.2.1 .boolean := nk_cA (gK.2 6 _ (by rfl)).2 (hK.2 1 _ (nk_tys (t0 := 1) rfl)).2
  subst hc
  obtain ⟨g1, g2, g3⟩ := nk_push (e := .inl (.boolean, N, .inl (fun _ => 0))) n2 gD gP
  exact k q g1 _ _ _ _ _ _ _ _ _ _ _ _ _ _ C _ _ _ _ _ hl g3 (fun b hb => (nk_u_dom hb).elim (fun z => by rw [z]; exact g2) (hA b)) gS (by omega) (by omega)
theorem nk_newq {n : Int32} {Cn : String} {N index bc' bs' : Nat} (t0 : Nat) (ht : nk_Ty[t0]? = some (.object Cn)) (ho : ∀ s, nk_N s → va_AO Cn s) (hw : Cond.classLink μ.1.cls index Cn ∈ nk_tw) (hd : decode μ.2.1 pc = .ok (.anewarray index, 3)) (hn : n = nI N) (hN : N ≤ 65536) (hb : bc' + 1 ≤ bc ∧ bs' + N ≤ bs) (k : ∀ q : Nat, H q = none → nk_J G μ d Φ bc' bs' (pc + 3) L (.ref q :: st) (nk_u H q (.inl (.object Cn, N, .inr (.inr (.inr (.inr (fun _ => none)))))))) : nk_J G μ d Φ bc bs pc L (.int n :: st) H := by
  intro p l e R s m args below meth c mc ms A Q C Hc locs cells slots ls hl hP hA hS h1 h2
  subst hn
  obtain ⟨Ls, n1, n2, n3⟩ := nk_list hP
  have hD : va_D A (va_pl Ls (nk_f G H)) := nk_Dpl n1 (fun b hb => hA b ((n2 b).mp hb))
  have hr := C.2.2.2.2.2.2.1
  have hK := C.2.2.2.2.2.2.2.1
  have hN2 : N < 2 ^ 31 := Nat.lt_of_le_of_lt hN (Nat.le_of_ble_eq_true rfl : 65536 + 1 ≤ 2 ^ 31)
  refine va_newq (D := G.1) C.1 C.2.1 C.2.2.2.1 (C.2.2.2.2.2.1 _ hw) (ho s C.2.2.2.2.2.2.2.2.2.1) hK n3 hD hS C.2.2.2.2.2.2.2.2.2.2.1 (nI_pos hN2) (nI_clamp hN2) (by omega) (by omega) (by omega) hd (fun q cA H1 gK gP gD gS => ?_)
  have hc : cA = G.2.1 (.object Cn) := nk_cA (gK.2 6 _ (by rfl)).2 (hK.2 t0 _ (nk_tys ht)).2
  subst hc
  obtain ⟨g1, g2, g3⟩ := nk_push (e := .inl (.object Cn, N, .inr (.inr (.inr (.inr (fun _ => none)))))) n2 gD gP
  exact k q g1 _ _ _ _ _ _ _ _ _ _ _ _ _ _ C _ _ _ _ _ hl g3 (fun b hb => (nk_u_dom hb).elim (fun z => by rw [z]; exact g2) (hA b)) gS (by omega) (by omega)
theorem nk_copy {index a0 n0 n1 : Nat} {f g : Nat → Int32} {sp dp n : Int32} (hw : Cond.methodLink μ.1.cls index arraycopyName ∈ nk_tw) (hwn : Cond.native arraycopyName ∈ nk_tw) (hws : Cond.static arraycopyName ∈ nk_tw) (hwi : Cond.initialized "java/lang/System" ∈ nk_tw) (hd : decode μ.2.1 pc = .ok (.invokestatic index, 3)) (h0 : H a0 = some (.inl (.int, n0, .inl f))) (hH : H a = some (.inl (.int, n1, .inl g))) (k1 : ¬ sp < 0) (k2 : ¬ dp < 0) (k3 : ¬ n < 0) (k4 : sp.toNatClampNeg + n.toNatClampNeg ≤ n0) (k5 : dp.toNatClampNeg + n.toNatClampNeg ≤ n1) (hdp : 1 ≤ d) (hst : (st.map fun v => v.category).sum ≤ 8)
    (k : nk_J G μ d Φ bc bs (pc + 3) L st (nk_u H a (.inl (.int, n1, .inl (va_cpy f g sp.toNatClampNeg dp.toNatClampNeg n.toNatClampNeg))))) : nk_J G μ d Φ bc bs pc L (.int n :: .int dp :: .ref a :: .int sp :: .ref a0 :: st) H := by
  intro p l e R s m args below meth c mc ms A Q C Hc locs cells slots ls hl hP hA hS h1 h2
  obtain ⟨Ls, n1', n2, n3⟩ := nk_list hP
  obtain ⟨q0, hq0⟩ := nk_get (G := G) n2 h0
  obtain ⟨q1, hq1⟩ := nk_get (G := G) n2 hH
  have hD : va_D A (va_pl Ls (nk_f G H)) := nk_Dpl n1' (fun b hb => hA b ((n2 b).mp hb))
  have hr := C.2.2.2.2.2.2.1
  have hnw : nativeFrameWords "java/lang/System" "arraycopy" 5 = 7 := by decide +kernel
  exact va_copyi C.1 C.2.1 (C.2.2.1.trans hl.1.symm) C.2.2.2.1 (C.2.2.2.2.2.1 _ hw) (C.2.2.2.2.2.1 _ hwn) (C.2.2.2.2.2.1 _ hws) (C.2.2.2.2.2.1 _ hwi) C.2.2.2.2.2.2.2.1 n3 hD hS q0 q1 0 0 hq0 hq1 (nk_tys (t0 := 0) rfl) (nk_tys (t0 := 0) rfl) rfl k1 k2 k3 k4 k5 (fun _ _ => rfl) (by omega) (by omega) hd (fun H1 locs1 gP gD gS =>
    k _ _ _ _ _ _ _ _ _ _ _ _ _ _ C _ _ _ _ _ hl (nk_set (e' := .inl (.int, n1, .inl (va_cpy f g sp.toNatClampNeg dp.toNatClampNeg n.toNatClampNeg))) n2 hD hH hq1 gP) (fun b hb => (nk_u_dom hb).elim (fun z => by rw [z]; exact hA a (by rw [hH]; rfl)) (hA b)) gS h1 h2)
end NKH
end
section
/-! contracts and calls -/
def nk_Pre (G : nk_EG) (H : nk_AH) (sz : Nat) (av : List Value) : Array Value → State → Prop := fun v U => v = av.toArray ∧ U.heap.size = sz ∧ nk_P G H U.heap ∧ nk_K G U ∧ nk_Z G (nk_A H sz) U U.heap ∧ nk_N U
def nk_Q (G : nk_EG) (H : nk_AH) (sz : Nat) (Φ : Option Value → nk_AH → Prop) : Array Value → State → Outcome → State → Prop := fun _ s o t => ∃ (r : Option Value) (H' : nk_AH), o = .returned r ∧ Φ r H' ∧ nk_P G H' t.heap ∧ (∀ a : Nat, (H' a).isSome = true → nk_A H sz a) ∧ va_F (nk_A H sz) s t
abbrev nk_ws (μ : nk_MI) : List Cond := .code μ.1 μ.2.1 μ.2.2.1 μ.2.2.2 :: nk_tw
abbrev nk_rm (d mc ms : Nat) : Room := { frames := d, cells := mc, slots := ms, locals := 64 * d }
/-- the contract of a method: with these arguments, on this heap, it returns, and Φ -/
def nk_S (G : nk_EG) (μ : nk_MI) (d mc ms : Nat) (av : List Value) (H : nk_AH) (Φ : Option Value → nk_AH → Prop) : Prop := ∀ (l : Launch) (sz : Nat), Met l μ.1 (nk_ws μ) (nk_rm d mc ms) (nk_Pre G H sz av) (nk_Q G H sz Φ) mc ms (nk_A H sz)
theorem nk_N.same {u U : State} (h : u.vm = U.vm) (hN : nk_N u) : nk_N U :=
  ⟨fun q hq => va_Nw.same rfl h (hN.1 q hq), va_Nw.same rfl h hN.2.1, va_AO.moved (by rw [h]; exact Vm.Alike.refl _) hN.2.2.1, va_AO.moved (by rw [h]; exact Vm.Alike.refl _) hN.2.2.2.1, va_AO.moved (by rw [h]; exact Vm.Alike.refl _) hN.2.2.2.2.1, over_moved (by rw [h]; exact Vm.Alike.refl _) hN.2.2.2.2.2⟩
theorem nk_N.warm {u U : State} (h : u.WarmedH U.vm) (hN : nk_N u) : nk_N U :=
  ⟨fun q hq => va_Nw.warmM h (hN.1 q hq), va_Nw.warmC h hN.2.1, va_AO.moved h.alike hN.2.2.1, va_AO.moved h.alike hN.2.2.2.1, va_AO.moved h.alike hN.2.2.2.2.1, over_moved h.alike hN.2.2.2.2.2⟩
theorem nk_Z.moved {G : nk_EG} {A : Nat → Prop} {u U : State} {Hc : Heap} (h : u.vm.Alike U.vm) (hZ : nk_Z G A u Hc) : nk_Z G A U Hc :=
  ⟨fun t n f ht => va_T.moved h (hZ.1 t n f ht), fun k q hk => va_Z.moved h (hZ.2 k q hk)⟩
theorem va_T.nkLt {ty : FieldType} {t N : Nat} {f : Nat → Value} {A : Nat → Prop} {U : State} {H : Heap} (h : va_T ty t N f A U H) : t < H.size := by
  obtain ⟨cell, h1, -⟩ := h
  exact (Array.getElem?_eq_some_iff.mp h1).1
theorem nk_Z.next {G : nk_EG} {A : Nat → Prop} {s : State} {Hc : Heap} {locs : List Loc} {H : nk_AH} (hZ : nk_Z G A s s.heap) (hA : ∀ a : Nat, (H a).isSome = true → A a) (hA2 : ∀ q : Nat, s.heap.size ≤ q → A q) (hS : va_S A s.heap Hc locs) : nk_Z G (nk_A H Hc.size) s Hc := by
  have hn : ∀ q, nk_A H Hc.size q → A q := fun q hq => hq.elim (hA q) (fun z => hA2 q (Nat.le_trans hS.1 z))
  exact ⟨fun t n f ht => ((hZ.1 t n f ht).kept hS.2.1).narrow hn, fun k q hk => ((hZ.2 k q hk).kept hS.2.1).narrow hn⟩
theorem nk_blind {G : nk_EG} {H : nk_AH} {sz : Nat} {av : List Value} : FrameBlind (nk_Pre G H sz av) := fun a U g mk q =>
  ⟨q.1, q.2.1, q.2.2.1, va_K.moved (u := U) (U := U.calling g mk a) (Vm.Alike.refl U.vm) q.2.2.2.1, nk_Z.moved (u := U) (U := U.calling g mk a) (Vm.Alike.refl U.vm) q.2.2.2.2.1, nk_N.same (u := U) (U := U.calling g mk a) rfl q.2.2.2.2.2⟩
def nk_sv (x : Slot) : Option Value := match x with
  | .val v => some v
  | _ => none
def nk_ent (av : List Value) (n : Nat) : List (Option Value) := (lg_sl av ++ List.replicate (n - (lg_sl av).length) Slot.unset).map nk_sv
theorem nk_ent_L {av : List Value} {n : Nat} (h : (lg_sl av).length ≤ n) : nk_L ((lg_sl av ++ List.replicate (n - (lg_sl av).length) Slot.unset).toArray) n (nk_ent av n) := by
  have hh := lv_entry av h
  refine ⟨hh.1, ?_, hh.2.1, fun i v hi => ?_⟩
  · have := hh.1
    rw [nk_ent, List.length_map]
    simpa using this
  · rw [nk_ent, List.getElem?_map] at hi
    rw [List.getElem?_toArray]
    cases hx : (lg_sl av ++ List.replicate (n - (lg_sl av).length) Slot.unset)[i]? with
    | none => rw [hx] at hi; cases hi
    | some x =>
      rw [hx] at hi
      cases x with
      | val w => cases hi; rfl
      | _ => cases hi
theorem nk_S.of {G : nk_EG} {μ : nk_MI} {d mc ms : Nat} {av : List Value} {H : nk_AH} {Φ : Option Value → nk_AH → Prop} (hp : plainName μ.1.cls = true) (hlen : (lg_sl av).length ≤ μ.2.2.1) {L : List (Option Value)} (hL : nk_ent av μ.2.2.1 = L) (k : nk_J G μ d Φ mc ms 0 L [] H) : nk_S G μ d mc ms av H Φ := by
  intro l sz
  subst hL
  refine Met.ofW (cc := μ.2.1) (maxL := μ.2.2.1) (ret := μ.2.2.2) hp rfl ?_
  intro p e s m args below meth c s₁ B hml hv
  obtain ⟨rfl, hsz, hP, hK, hZ, hN⟩ := hv
  subst hsz
  have hlocks := B.notSynchronized
  have hr := B.returns
  have hts := atoms_spec (ws := nk_ws μ) B.pre
  rw [lg_entry_eq]
  refine k p l e _ s m _ below meth c mc ms (nk_A H s.heap.size) _ ⟨B.exec, B.bytes, hml, findClass_of_methodNamed B.named, (name_of_methodNamed B.named B.method).1, fun w hw => hts w (List.mem_cons_of_mem _ hw), ⟨Nat.le_refl _, Nat.le_refl _, Nat.le_refl _, Nat.le_refl _⟩, hK, hZ, hN, fun q hq => Or.inr hq, ?_⟩ _ _ 0 0 _ (nk_ent_L hlen) hP (fun a ha => Or.inl ha) va_S.rf (by omega) (by omega)
  intro pc ls Hc locs ins r H' hd hro hf hP' hA' hS'
  have hq : ∀ t : State, t.heap = Hc → s.WarmedH t.vm → nk_Q G H s.heap.size Φ av.toArray s (.returned r) t := fun t ht _ => ⟨r, H', rfl, hf, by rw [ht]; exact hP', hA', hS'.F ht⟩
  rcases hro with ⟨h1, rfl, rfl⟩ | ⟨ty, v, h1, rfl, h3, rfl⟩ | ⟨v, h1, rfl, rfl⟩ | ⟨rt, v, h1, h2, h3, rfl, rfl⟩
  · exact W.vret B.exec B.bytes (hr.trans h1) hq hS'.2.2 hd
  · exact W.zret B.exec B.bytes (hr.trans h1) h3 hq hS'.2.2 hd
  · exact W.lret B.exec B.bytes (hr.trans h1) hq hS'.2.2 hd
  · exact W.aret B.exec B.bytes (hr.trans h1) h2 h3 hq hS'.2.2 hd
theorem nk_S.mono {G : nk_EG} {μ : nk_MI} {d mc ms : Nat} {av : List Value} {H : nk_AH} {Φ Ψ : Option Value → nk_AH → Prop} (h : nk_S G μ d mc ms av H Φ) (hi : ∀ r H', Φ r H' → Ψ r H') : nk_S G μ d mc ms av H Ψ := by
  intro l sz p e ha hc hk s m args below hf happ hpre htr
  obtain ⟨t, o, h1, h2, h3, ⟨r, H', g1, g2, g3⟩, h5⟩ := h l sz p e ha hc hk s m args below hf happ hpre htr
  exact ⟨t, o, h1, h2, h3, ⟨r, H', g1, hi r H' g2, g3⟩, h5⟩
section NKC
variable {p : Program} {l : Launch} {e : Env} {R : Room} {s : State} {m : MethodId} {args : Array Value} {below : List Frame} {meth : Method} {c : Code} {Hc : Heap} {locs : List Loc} {cells slots : Nat} {Q : State → Prop}
variable {G : nk_EG} {pc : Nat} {ls : Array Slot} {rest st0 : List Value} {aa : Array Value} {A : Nat → Prop} {mc' ms' : Nat} {H : nk_AH} {Ψ : Option Value → nk_AH → Prop}
theorem nk_back (hr : va_Run p l e R s m args below meth c Hc locs cells slots mc' ms' (F0 m pc ls st0) rest (nk_Q G H Hc.size Ψ aa) (nk_A H Hc.size)) (hA : ∀ a : Nat, (H a).isSome = true → A a) (hA2 : ∀ q : Nat, s.heap.size ≤ q → A q) (hS : va_S A s.heap Hc locs)
    (kk : ∀ (r : Option Value) (H' : nk_AH) (H1 : Heap) (locs1 : List Loc), Ψ r H' → nk_P G H' H1 → (∀ a : Nat, (H' a).isSome = true → A a) → va_S A s.heap H1 locs1 → W p l e R s m args below meth c H1 locs1 (cells + mc') (slots + ms') Q (F0 m (pc + 3) ls (r.toList ++ rest))) : W p l e R s m args below meth c Hc locs cells slots Q (F0 m pc ls st0) := by
  have hn : ∀ q, nk_A H Hc.size q → A q := fun q hq => hq.elim (hA q) (fun z => hA2 q (Nat.le_trans hS.1 z))
  intro T hT X
  obtain ⟨v, st₀, t, T', L, h0, X', hL, e1, e2, ⟨r, H', g1, g2, g3, g4, g5, g6⟩, st⟩ := hr T hT X
  cases g1
  rw [h0] at g5 g6
  obtain ⟨t2, a1, b1⟩ := kk v H' T'.heap (locs ++ L) g2 (by rw [e1]; exact g3) (fun a ha => hn a (g4 a ha))
    ⟨Nat.le_trans hS.1 (by rw [e1]; exact g5), fun q k1 k2 => by rw [e1, g6 q (Nat.lt_of_lt_of_le k1 hS.1) (fun z => k2 (hn q z))]; exact hS.2.1 q k1 k2, fun q hq => by
      rcases List.mem_append.mp hq with h | h
      · exact hS.2.2 q h
      · exact hn _ (hL q h)⟩ T' rfl X'
  exact ⟨t2, st t2 a1, b1⟩
end NKC
def nk_ln (μ : nk_MI) (n : Nat) : Prop := Cond.initialized μ.1.cls ∈ nk_tw ∧ Cond.code μ.1 μ.2.1 μ.2.2.1 μ.2.2.2 ∈ nk_tw ∧ (μ.1.cls ≠ "java/lang/invoke/MethodHandle" ∧ μ.1.cls ≠ "java/lang/invoke/VarHandle" ∧ (parseMethodDescriptor μ.1.desc).map (fun d => d.parameters.length) = some n) ∧ μ.2.2.1 ≤ 40
def nk_lS (own : String) (index : Nat) (μ : nk_MI) (n : Nat) : Prop := nk_ln μ n ∧ Cond.methodLink own index μ.1 ∈ nk_tw ∧ Cond.static μ.1 ∈ nk_tw
def nk_lSN (own : String) (index : Nat) (μ : nk_MI) (n : Nat) : Prop := nk_ln μ n ∧ (own, index, μ.1) ∈ nk_Nm ∧ Cond.static μ.1 ∈ nk_tw
def nk_lI (own : String) (index : Nat) (μ : nk_MI) (n : Nat) : Prop := nk_ln μ n ∧ Cond.methodLink own index μ.1 ∈ nk_tw ∧ Cond.instanceMethod μ.1 ∈ nk_tw ∧ μ.1.name = "<init>" ∧ μ.2.2.2 = none
def nk_lIN (own : String) (index : Nat) (μ : nk_MI) (n : Nat) : Prop := nk_ln μ n ∧ (own, index, μ.1) ∈ nk_Nm ∧ Cond.instanceMethod μ.1 ∈ nk_tw ∧ μ.1.name = "<init>" ∧ μ.2.2.2 = none
def nk_lV (own : String) (index ci : Nat) (μ : nk_MI) (n : Nat) : Prop := nk_ln μ n ∧ Cond.methodLink own index μ.1 ∈ nk_tw ∧ Cond.instanceMethod μ.1 ∈ nk_tw ∧ Cond.selects μ.1.cls μ.1 μ.1 ∈ nk_tw ∧ ∃ q : vw_C, vwCl[ci]? = some q ∧ q.1 = μ.1.cls
theorem nk_good {μ : nk_MI} (hc : Cond.code μ.1 μ.2.1 μ.2.2.1 μ.2.2.2 ∈ nk_tw) : GoodIn nk_tw (nk_ws μ) := fun w hw => by
  have h : w ∈ nk_tw := (List.mem_cons.mp hw).elim (fun z => by rw [z]; exact hc) id
  exact ⟨h, good_of_word (List.mem_filter.mp h).2⟩
section NKD
variable {G : nk_EG} {μ μ' : nk_MI} {d d' : Nat} {Φ Ψ : Option Value → nk_AH → Prop} {bc bs bc' bs' mc' ms' pc index n : Nat} {L : List (Option Value)} {st rest av : List Value} {H : nk_AH} {a : Nat}
theorem nk_cS (f : nk_lS μ.1.cls index μ' n) (hs : nk_S G μ' d' mc' ms' av H Ψ) (hd : decode μ.2.1 pc = .ok (.invokestatic index, 3)) (hst : st = av.reverse ++ rest) (hn : av.length = n) (hdd : d' + 1 ≤ d) (hcat : (rest.map fun v => v.category).sum ≤ 8) (hb : bc' + mc' ≤ bc ∧ bs' + ms' ≤ bs) (k : ∀ r H', Ψ r H' → nk_J G μ d Φ bc' bs' (pc + 3) L (r.toList ++ rest) H') : nk_J G μ d Φ bc bs pc L st H := by
  intro p l e R s m args below meth c mc ms A Q C Hc locs cells slots ls hl hP hA hS h1 h2
  obtain ⟨⟨f1, f2, f3, f4⟩, f5, f6⟩ := f
  have hr := C.2.2.2.2.2.2.1
  have hts := C.2.2.2.2.2.1
  subst hst
  refine nk_back (va_runS (Ts := nk_tw) (As := av) ⟨C.1, C.2.1, C.2.2.1, C.2.2.2.1, hts⟩ (hs l Hc.size) ⟨callB_of n hts (nk_good f2) rfl rfl rfl (hts _ f1) (hts _ f5) f3 ⟨by show d' + 1 ≤ _; omega, by show 8 + (μ'.2.2.1 + 11) + 64 * d' ≤ _; omega⟩, hts _ f6⟩ ⟨nk_blind, fun U hU hW => ⟨rfl, by rw [hU], by rw [hU]; exact hP, va_K.moved hW.alike C.2.2.2.2.2.2.2.1, by rw [hU]; exact nk_Z.moved hW.alike (C.2.2.2.2.2.2.2.2.1.next hA C.2.2.2.2.2.2.2.2.2.2.1 hS), C.2.2.2.2.2.2.2.2.2.1.warm hW⟩⟩ rfl hn hl.1 rfl (lv_room hcat) hd ⟨by omega, by omega⟩) hA C.2.2.2.2.2.2.2.2.2.2.1 hS (fun r H' H1 locs1 g1 g2 g3 g4 => ?_)
  exact k r H' g1 _ _ _ _ _ _ _ _ _ _ _ _ _ _ C _ _ _ _ _ hl g2 g3 g4 (by omega) (by omega)
theorem nk_cSN (f : nk_lSN μ.1.cls index μ' n) (hs : nk_S G μ' d' mc' ms' av H Ψ) (hd : decode μ.2.1 pc = .ok (.invokestatic index, 3)) (hst : st = av.reverse ++ rest) (hn : av.length = n) (hdd : d' + 1 ≤ d) (hcat : (rest.map fun v => v.category).sum ≤ 8) (hb : bc' + mc' ≤ bc ∧ bs' + ms' ≤ bs) (k : ∀ r H', Ψ r H' → nk_J G μ d Φ bc' bs' (pc + 3) L (r.toList ++ rest) H') : nk_J G μ d Φ bc bs pc L st H := by
  intro p l e R s m args below meth c mc ms A Q C Hc locs cells slots ls hl hP hA hS h1 h2
  obtain ⟨⟨f1, f2, f3, f4⟩, f5, f6⟩ := f
  have hr := C.2.2.2.2.2.2.1
  have hts := C.2.2.2.2.2.1
  subst hst
  refine nk_back (va_runSN (Ts := nk_tw) (As := av) (host := RX7) ⟨C.1, C.2.1, C.2.2.1, C.2.2.2.1, hts⟩ (hs l Hc.size) ⟨va_cnB n hts (nk_good f2) rfl rfl rfl (C.2.2.2.2.2.2.2.2.2.1.1 _ f5) (hts _ f1) f3 ⟨by show d' + 1 ≤ _; omega, by show 8 + (μ'.2.2.1 + 11) + 64 * d' ≤ _; omega⟩, hts _ f6, trivial⟩ ⟨nk_blind, fun U hU hW => ⟨rfl, by rw [hU], by rw [hU]; exact hP, va_K.moved hW.alike C.2.2.2.2.2.2.2.1, by rw [hU]; exact nk_Z.moved hW.alike (C.2.2.2.2.2.2.2.2.1.next hA C.2.2.2.2.2.2.2.2.2.2.1 hS), C.2.2.2.2.2.2.2.2.2.1.warm hW⟩⟩ rfl hn hl.1 rfl (lv_room hcat) hd ⟨by omega, by omega⟩) hA C.2.2.2.2.2.2.2.2.2.2.1 hS (fun r H' H1 locs1 g1 g2 g3 g4 => ?_)
  exact k r H' g1 _ _ _ _ _ _ _ _ _ _ _ _ _ _ C _ _ _ _ _ hl g2 g3 g4 (by omega) (by omega)
theorem nk_cI (f : nk_lI μ.1.cls index μ' n) (hs : nk_S G μ' d' mc' ms' (.ref a :: av) H Ψ) (hd : decode μ.2.1 pc = .ok (.invokespecial index, 3)) (hst : st = av.reverse ++ .ref a :: rest) (hn : av.length = n) (hdd : d' + 1 ≤ d) (hcat : (rest.map fun v => v.category).sum ≤ 8) (hb : bc' + mc' ≤ bc ∧ bs' + ms' ≤ bs) (k : ∀ r H', Ψ r H' → nk_J G μ d Φ bc' bs' (pc + 3) L (r.toList ++ rest) H') : nk_J G μ d Φ bc bs pc L st H := by
  intro p l e R s m args below meth c mc ms A Q C Hc locs cells slots ls hl hP hA hS h1 h2
  obtain ⟨⟨f1, f2, f3, f4⟩, f5, f6, f7, f8⟩ := f
  have hr := C.2.2.2.2.2.2.1
  have hts := C.2.2.2.2.2.1
  subst hst
  have f2' : Cond.code μ'.1 μ'.2.1 μ'.2.2.1 none ∈ nk_tw := by rw [← f8]; exact f2
  have hw : nk_ws μ' = Cond.code μ'.1 μ'.2.1 μ'.2.2.1 none :: nk_tw := by rw [nk_ws, f8]
  refine nk_back (va_runI (Ts := nk_tw) (As := av) (b := a) ⟨C.1, C.2.1, C.2.2.1, C.2.2.2.1, hts⟩ (hs l Hc.size) ⟨callB_of n hts (nk_good f2) hw rfl rfl (hts _ f1) (hts _ f5) f3 ⟨by show d' + 1 ≤ _; omega, by show 8 + (μ'.2.2.1 + 11) + 64 * d' ≤ _; omega⟩, f7, hts _ f6⟩ ⟨nk_blind, fun U hU hW => ⟨rfl, by rw [hU], by rw [hU]; exact hP, va_K.moved hW.alike C.2.2.2.2.2.2.2.1, by rw [hU]; exact nk_Z.moved hW.alike (C.2.2.2.2.2.2.2.2.1.next hA C.2.2.2.2.2.2.2.2.2.2.1 hS), C.2.2.2.2.2.2.2.2.2.1.warm hW⟩⟩ rfl hn hl.1 rfl (lv_room hcat) hd ⟨by omega, by omega⟩) hA C.2.2.2.2.2.2.2.2.2.2.1 hS (fun r H' H1 locs1 g1 g2 g3 g4 => ?_)
  exact k r H' g1 _ _ _ _ _ _ _ _ _ _ _ _ _ _ C _ _ _ _ _ hl g2 g3 g4 (by omega) (by omega)
theorem nk_cIN (f : nk_lIN μ.1.cls index μ' n) (hs : nk_S G μ' d' mc' ms' (.ref a :: av) H Ψ) (hd : decode μ.2.1 pc = .ok (.invokespecial index, 3)) (hst : st = av.reverse ++ .ref a :: rest) (hn : av.length = n) (hdd : d' + 1 ≤ d) (hcat : (rest.map fun v => v.category).sum ≤ 8) (hb : bc' + mc' ≤ bc ∧ bs' + ms' ≤ bs) (k : ∀ r H', Ψ r H' → nk_J G μ d Φ bc' bs' (pc + 3) L (r.toList ++ rest) H') : nk_J G μ d Φ bc bs pc L st H := by
  intro p l e R s m args below meth c mc ms A Q C Hc locs cells slots ls hl hP hA hS h1 h2
  obtain ⟨⟨f1, f2, f3, f4⟩, f5, f6, f7, f8⟩ := f
  have hr := C.2.2.2.2.2.2.1
  have hts := C.2.2.2.2.2.1
  subst hst
  have hw : nk_ws μ' = Cond.code μ'.1 μ'.2.1 μ'.2.2.1 none :: nk_tw := by rw [nk_ws, f8]
  refine nk_back (va_runIN (Ts := nk_tw) (As := av) (b := a) (host := RX7) ⟨C.1, C.2.1, C.2.2.1, C.2.2.2.1, hts⟩ (hs l Hc.size) ⟨va_cnB n hts (nk_good f2) hw rfl rfl (C.2.2.2.2.2.2.2.2.2.1.1 _ f5) (hts _ f1) f3 ⟨by show d' + 1 ≤ _; omega, by show 8 + (μ'.2.2.1 + 11) + 64 * d' ≤ _; omega⟩, f7, hts _ f6⟩ ⟨nk_blind, fun U hU hW => ⟨rfl, by rw [hU], by rw [hU]; exact hP, va_K.moved hW.alike C.2.2.2.2.2.2.2.1, by rw [hU]; exact nk_Z.moved hW.alike (C.2.2.2.2.2.2.2.2.1.next hA C.2.2.2.2.2.2.2.2.2.2.1 hS), C.2.2.2.2.2.2.2.2.2.1.warm hW⟩⟩ rfl hn hl.1 rfl (lv_room hcat) hd ⟨by omega, by omega⟩) hA C.2.2.2.2.2.2.2.2.2.2.1 hS (fun r H' H1 locs1 g1 g2 g3 g4 => ?_)
  exact k r H' g1 _ _ _ _ _ _ _ _ _ _ _ _ _ _ C _ _ _ _ _ hl g2 g3 g4 (by omega) (by omega)
theorem nk_cV {ci : Nat} {fs : List Value} (f : nk_lV μ.1.cls index ci μ' n) (hs : nk_S G μ' d' mc' ms' (.ref a :: av) H Ψ) (hd : decode μ.2.1 pc = .ok (.invokevirtual index, 3)) (hH : H a = some (.inr (ci, fs))) (hst : st = av.reverse ++ .ref a :: rest) (hn : av.length = n) (hdd : d' + 1 ≤ d) (hcat : (rest.map fun v => v.category).sum ≤ 8) (hb : bc' + mc' ≤ bc ∧ bs' + ms' ≤ bs) (k : ∀ r H', Ψ r H' → nk_J G μ d Φ bc' bs' (pc + 3) L (r.toList ++ rest) H') : nk_J G μ d Φ bc bs pc L st H := by
  intro p l e R s m args below meth c mc ms A Q C Hc locs cells slots ls hl hP hA hS h1 h2
  obtain ⟨⟨f1, f2, f3, f4⟩, f5, f6, f7, q, f8, f9⟩ := f
  have hr := C.2.2.2.2.2.2.1
  have hts := C.2.2.2.2.2.1
  subst hst
  have hw : va_P G.1 vwCl [(a, nk_e G.2.1 (.inr (ci, fs)))] Hc := fun k q hk => by
    cases k with
    | zero => cases hk; exact hP a _ hH
    | succ k => cases hk
  have hrc := va_recv C.2.2.2.2.2.2.2.1 hw f8 (q0 := 0) rfl
  rw [f9] at hrc
  refine nk_back (va_runV (Ts := nk_tw) (As := av) (b := a) (C := μ'.1.cls) ⟨C.1, C.2.1, C.2.2.1, C.2.2.2.1, hts⟩ (hs l Hc.size) ⟨callB_of n hts (nk_good f2) rfl rfl rfl (hts _ f1) (hts _ f5) f3 ⟨by show d' + 1 ≤ _; omega, by show 8 + (μ'.2.2.1 + 11) + 64 * d' ≤ _; omega⟩, hts _ f6, hts _ f7⟩ ⟨nk_blind, hrc, fun U hU hW => ⟨rfl, by rw [hU], by rw [hU]; exact hP, va_K.moved hW.alike C.2.2.2.2.2.2.2.1, by rw [hU]; exact nk_Z.moved hW.alike (C.2.2.2.2.2.2.2.2.1.next hA C.2.2.2.2.2.2.2.2.2.2.1 hS), C.2.2.2.2.2.2.2.2.2.1.warm hW⟩⟩ rfl hn hl.1 rfl (lv_room hcat) hd ⟨by omega, by omega⟩) hA C.2.2.2.2.2.2.2.2.2.2.1 hS (fun r H' H1 locs1 g1 g2 g3 g4 => ?_)
  exact k r H' g1 _ _ _ _ _ _ _ _ _ _ _ _ _ _ C _ _ _ _ _ hl g2 g3 g4 (by omega) (by omega)
theorem nk_objInit (hw1 : Cond.methodLink μ.1.cls index objectInit ∈ nk_tw) (hw2 : Cond.instanceMethod objectInit ∈ nk_tw) (hw3 : Cond.code objectInit ⟨#[0xb1]⟩ 1 none ∈ nk_tw) (hd : decode μ.2.1 pc = .ok (.invokespecial index, 3)) (hdd : 1 ≤ d) (hcat : (st.map fun v => v.category).sum ≤ 8) (k : nk_J G μ d Φ bc bs (pc + 3) L st H) : nk_J G μ d Φ bc bs pc L (.ref a :: st) H := by
  intro p l e R s m args below meth c mc ms A Q C Hc locs cells slots ls hl hP hA hS h1 h2
  have hr := C.2.2.2.2.2.2.1
  have hts := C.2.2.2.2.2.1
  refine W.objInit C.1 C.2.1 C.2.2.2.1 (hts _ hw1) (hts _ hw2) (hts _ hw3) rfl (by show ls.size = _; rw [hl.1, C.2.2.1]) rfl hd (by omega) (by have := lv_room (m := m) (pc := pc) (ls := ls) (rest := .ref a :: st) hcat; omega) ?_
  exact k _ _ _ _ _ _ _ _ _ _ _ _ _ _ C _ _ _ _ _ hl hP hA hS h1 h2
end NKD
end

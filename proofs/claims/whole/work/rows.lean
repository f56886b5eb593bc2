section
-- ===== PART A: goes FIRST, ahead of the names: the tables' words, and 'selects' of the private methods out of them =====
/-- a private method of a class that the tables say can be made, by its rows of tables_1 -/
def lw_okq (q : MethodName × Nat) : Prop := (q.1.cls ≠ "java/lang/invoke/MethodHandle" ∧ q.1.cls ≠ "java/lang/invoke/VarHandle") ∧ Cond.instantiable q.1.cls q.2 ∈ tables_1 ∧ Cond.privateMethod q.1 ∈ tables_1 ∧ Cond.instanceMethod q.1 ∈ tables_1
theorem lw_p0 : lw_okq (⟨"NextKeys", "found", "(I)I"⟩, 8) := ⟨⟨by decide +kernel, by decide +kernel⟩, List.mem_of_getElem? (i := 14) (by decide +kernel), List.mem_of_getElem? (i := 131) (by decide +kernel), List.mem_of_getElem? (i := 132) (by decide +kernel)⟩
theorem lw_p1 : lw_okq (⟨"NextKeys", "fine", "(I)I"⟩, 8) := ⟨⟨by decide +kernel, by decide +kernel⟩, List.mem_of_getElem? (i := 14) (by decide +kernel), List.mem_of_getElem? (i := 150) (by decide +kernel), List.mem_of_getElem? (i := 151) (by decide +kernel)⟩
theorem lw_p2 : lw_okq (⟨"NextKeys$Tape", "advance", "()V"⟩, 7) := ⟨⟨by decide +kernel, by decide +kernel⟩, List.mem_of_getElem? (i := 24) (by decide +kernel), List.mem_of_getElem? (i := 194) (by decide +kernel), List.mem_of_getElem? (i := 195) (by decide +kernel)⟩
theorem lw_p3 : lw_okq (⟨"NextKeys$Tape", "takeFigures", "()V"⟩, 7) := ⟨⟨by decide +kernel, by decide +kernel⟩, List.mem_of_getElem? (i := 24) (by decide +kernel), List.mem_of_getElem? (i := 201) (by decide +kernel), List.mem_of_getElem? (i := 202) (by decide +kernel)⟩
theorem lw_p4 : lw_okq (⟨"NextKeys$Tape", "expect", "(I)V"⟩, 7) := ⟨⟨by decide +kernel, by decide +kernel⟩, List.mem_of_getElem? (i := 24) (by decide +kernel), List.mem_of_getElem? (i := 206) (by decide +kernel), List.mem_of_getElem? (i := 207) (by decide +kernel)⟩
theorem lw_p5 : lw_okq (⟨"NextKeys$Tape", "fail", "(I)V"⟩, 7) := ⟨⟨by decide +kernel, by decide +kernel⟩, List.mem_of_getElem? (i := 24) (by decide +kernel), List.mem_of_getElem? (i := 210) (by decide +kernel), List.mem_of_getElem? (i := 211) (by decide +kernel)⟩
theorem lw_p6 : lw_okq (⟨"NextKeys$Tape", "readNumber", "(II)I"⟩, 7) := ⟨⟨by decide +kernel, by decide +kernel⟩, List.mem_of_getElem? (i := 24) (by decide +kernel), List.mem_of_getElem? (i := 214) (by decide +kernel), List.mem_of_getElem? (i := 215) (by decide +kernel)⟩
theorem lw_p7 : lw_okq (⟨"NextKeys$Tape", "readSet", "(LNextKeys$Shelf;)V"⟩, 7) := ⟨⟨by decide +kernel, by decide +kernel⟩, List.mem_of_getElem? (i := 24) (by decide +kernel), List.mem_of_getElem? (i := 240) (by decide +kernel), List.mem_of_getElem? (i := 241) (by decide +kernel)⟩
theorem lw_p8 : lw_okq (⟨"NextKeys", "setWith", "(II)LNextKeys$KeySet;"⟩, 8) := ⟨⟨by decide +kernel, by decide +kernel⟩, List.mem_of_getElem? (i := 14) (by decide +kernel), List.mem_of_getElem? (i := 328) (by decide +kernel), List.mem_of_getElem? (i := 329) (by decide +kernel)⟩
theorem lw_p9 : lw_okq (⟨"NextKeys", "turned", "(LNextKeys$KeySet;II)I"⟩, 8) := ⟨⟨by decide +kernel, by decide +kernel⟩, List.mem_of_getElem? (i := 14) (by decide +kernel), List.mem_of_getElem? (i := 345) (by decide +kernel), List.mem_of_getElem? (i := 346) (by decide +kernel)⟩
theorem lw_p10 : lw_okq (⟨"NextKeys", "setAt", "(I)LNextKeys$KeySet;"⟩, 8) := ⟨⟨by decide +kernel, by decide +kernel⟩, List.mem_of_getElem? (i := 14) (by decide +kernel), List.mem_of_getElem? (i := 397) (by decide +kernel), List.mem_of_getElem? (i := 398) (by decide +kernel)⟩
theorem lw_p11 : lw_okq (⟨"NextKeys$KeySet", "upperWord", "()I"⟩, 6) := ⟨⟨by decide +kernel, by decide +kernel⟩, List.mem_of_getElem? (i := 250) (by decide +kernel), List.mem_of_getElem? (i := 584) (by decide +kernel), List.mem_of_getElem? (i := 585) (by decide +kernel)⟩
theorem lw_p12 : lw_okq (⟨"NextKeys$Shelf", "isCovered", "(III)Z"⟩, 4) := ⟨⟨by decide +kernel, by decide +kernel⟩, List.mem_of_getElem? (i := 218) (by decide +kernel), List.mem_of_getElem? (i := 659) (by decide +kernel), List.mem_of_getElem? (i := 660) (by decide +kernel)⟩
theorem lw_p13 : lw_okq (⟨"NextKeys$Asks", "answer", "(LNextKeys$KeySet;II)I"⟩, 2) := ⟨⟨by decide +kernel, by decide +kernel⟩, List.mem_of_getElem? (i := 82) (by decide +kernel), List.mem_of_getElem? (i := 744) (by decide +kernel), List.mem_of_getElem? (i := 745) (by decide +kernel)⟩
theorem lw_p14 : lw_okq (⟨"NextKeys$Asks", "body", "(LNextKeys$KeySet;II)I"⟩, 2) := ⟨⟨by decide +kernel, by decide +kernel⟩, List.mem_of_getElem? (i := 82) (by decide +kernel), List.mem_of_getElem? (i := 753) (by decide +kernel), List.mem_of_getElem? (i := 754) (by decide +kernel)⟩
theorem lw_p15 : lw_okq (⟨"NextKeys$Asks", "leave", "(I)V"⟩, 2) := ⟨⟨by decide +kernel, by decide +kernel⟩, List.mem_of_getElem? (i := 82) (by decide +kernel), List.mem_of_getElem? (i := 757) (by decide +kernel), List.mem_of_getElem? (i := 758) (by decide +kernel)⟩
def lw_privs_1 : List (MethodName × Nat) := [(⟨"NextKeys", "found", "(I)I"⟩, 8), (⟨"NextKeys", "fine", "(I)I"⟩, 8), (⟨"NextKeys$Tape", "advance", "()V"⟩, 7), (⟨"NextKeys$Tape", "takeFigures", "()V"⟩, 7), (⟨"NextKeys$Tape", "expect", "(I)V"⟩, 7), (⟨"NextKeys$Tape", "fail", "(I)V"⟩, 7), (⟨"NextKeys$Tape", "readNumber", "(II)I"⟩, 7), (⟨"NextKeys$Tape", "readSet", "(LNextKeys$Shelf;)V"⟩, 7), (⟨"NextKeys", "setWith", "(II)LNextKeys$KeySet;"⟩, 8), (⟨"NextKeys", "turned", "(LNextKeys$KeySet;II)I"⟩, 8), (⟨"NextKeys", "setAt", "(I)LNextKeys$KeySet;"⟩, 8), (⟨"NextKeys$KeySet", "upperWord", "()I"⟩, 6), (⟨"NextKeys$Shelf", "isCovered", "(III)Z"⟩, 4), (⟨"NextKeys$Asks", "answer", "(LNextKeys$KeySet;II)I"⟩, 2), (⟨"NextKeys$Asks", "body", "(LNextKeys$KeySet;II)I"⟩, 2), (⟨"NextKeys$Asks", "leave", "(I)V"⟩, 2)]
theorem lw_r1 : ∀ q ∈ lw_privs_1, lw_okq q := List.forall_mem_cons.mpr ⟨lw_p0, List.forall_mem_cons.mpr ⟨lw_p1, List.forall_mem_cons.mpr ⟨lw_p2, List.forall_mem_cons.mpr ⟨lw_p3, List.forall_mem_cons.mpr ⟨lw_p4, List.forall_mem_cons.mpr ⟨lw_p5, List.forall_mem_cons.mpr ⟨lw_p6, List.forall_mem_cons.mpr ⟨lw_p7, List.forall_mem_cons.mpr ⟨lw_p8, List.forall_mem_cons.mpr ⟨lw_p9, List.forall_mem_cons.mpr ⟨lw_p10, List.forall_mem_cons.mpr ⟨lw_p11, List.forall_mem_cons.mpr ⟨lw_p12, List.forall_mem_cons.mpr ⟨lw_p13, List.forall_mem_cons.mpr ⟨lw_p14, List.forall_mem_cons.mpr ⟨lw_p15, fun _ h => absurd h List.not_mem_nil⟩⟩⟩⟩⟩⟩⟩⟩⟩⟩⟩⟩⟩⟩⟩⟩
theorem lw_p16 : lw_okq (⟨"NextKeys", "rowsThere", "()I"⟩, 8) := ⟨⟨by decide +kernel, by decide +kernel⟩, List.mem_of_getElem? (i := 14) (by decide +kernel), List.mem_of_getElem? (i := 777) (by decide +kernel), List.mem_of_getElem? (i := 778) (by decide +kernel)⟩
theorem lw_p17 : lw_okq (⟨"NextKeysModel", "find", "(I)I"⟩, 15) := ⟨⟨by decide +kernel, by decide +kernel⟩, List.mem_of_getElem? (i := 785) (by decide +kernel), List.mem_of_getElem? (i := 851) (by decide +kernel), List.mem_of_getElem? (i := 852) (by decide +kernel)⟩
theorem lw_p18 : lw_okq (⟨"NextKeysModel", "well", "(I)I"⟩, 15) := ⟨⟨by decide +kernel, by decide +kernel⟩, List.mem_of_getElem? (i := 785) (by decide +kernel), List.mem_of_getElem? (i := 856) (by decide +kernel), List.mem_of_getElem? (i := 857) (by decide +kernel)⟩
theorem lw_p19 : lw_okq (⟨"NextKeysModel", "isSpan", "(III)Z"⟩, 15) := ⟨⟨by decide +kernel, by decide +kernel⟩, List.mem_of_getElem? (i := 785) (by decide +kernel), List.mem_of_getElem? (i := 871) (by decide +kernel), List.mem_of_getElem? (i := 872) (by decide +kernel)⟩
theorem lw_p20 : lw_okq (⟨"NextKeysModel", "reads", "()Z"⟩, 15) := ⟨⟨by decide +kernel, by decide +kernel⟩, List.mem_of_getElem? (i := 785) (by decide +kernel), List.mem_of_getElem? (i := 889) (by decide +kernel), List.mem_of_getElem? (i := 890) (by decide +kernel)⟩
theorem lw_p21 : lw_okq (⟨"NextKeysModel", "readsLaw", "()Z"⟩, 15) := ⟨⟨by decide +kernel, by decide +kernel⟩, List.mem_of_getElem? (i := 785) (by decide +kernel), List.mem_of_getElem? (i := 893) (by decide +kernel), List.mem_of_getElem? (i := 894) (by decide +kernel)⟩
theorem lw_p22 : lw_okq (⟨"NextKeysModel", "sign", "(I)Z"⟩, 15) := ⟨⟨by decide +kernel, by decide +kernel⟩, List.mem_of_getElem? (i := 785) (by decide +kernel), List.mem_of_getElem? (i := 897) (by decide +kernel), List.mem_of_getElem? (i := 898) (by decide +kernel)⟩
theorem lw_p23 : lw_okq (⟨"NextKeysModel", "isLetter", "(I)Z"⟩, 15) := ⟨⟨by decide +kernel, by decide +kernel⟩, List.mem_of_getElem? (i := 785) (by decide +kernel), List.mem_of_getElem? (i := 901) (by decide +kernel), List.mem_of_getElem? (i := 902) (by decide +kernel)⟩
theorem lw_p24 : lw_okq (⟨"NextKeysModel", "refuse", "(I)Z"⟩, 15) := ⟨⟨by decide +kernel, by decide +kernel⟩, List.mem_of_getElem? (i := 785) (by decide +kernel), List.mem_of_getElem? (i := 905) (by decide +kernel), List.mem_of_getElem? (i := 906) (by decide +kernel)⟩
theorem lw_p25 : lw_okq (⟨"NextKeysModel", "readsNumber", "(II)Z"⟩, 15) := ⟨⟨by decide +kernel, by decide +kernel⟩, List.mem_of_getElem? (i := 785) (by decide +kernel), List.mem_of_getElem? (i := 909) (by decide +kernel), List.mem_of_getElem? (i := 910) (by decide +kernel)⟩
theorem lw_p26 : lw_okq (⟨"NextKeysModel", "isFigure", "(I)Z"⟩, 15) := ⟨⟨by decide +kernel, by decide +kernel⟩, List.mem_of_getElem? (i := 785) (by decide +kernel), List.mem_of_getElem? (i := 913) (by decide +kernel), List.mem_of_getElem? (i := 914) (by decide +kernel)⟩
theorem lw_p27 : lw_okq (⟨"NextKeysModel", "readsSet", "()Z"⟩, 15) := ⟨⟨by decide +kernel, by decide +kernel⟩, List.mem_of_getElem? (i := 785) (by decide +kernel), List.mem_of_getElem? (i := 922) (by decide +kernel), List.mem_of_getElem? (i := 923) (by decide +kernel)⟩
theorem lw_p28 : lw_okq (⟨"NextKeysModel", "copyShelf", "(II)V"⟩, 15) := ⟨⟨by decide +kernel, by decide +kernel⟩, List.mem_of_getElem? (i := 785) (by decide +kernel), List.mem_of_getElem? (i := 927) (by decide +kernel), List.mem_of_getElem? (i := 928) (by decide +kernel)⟩
theorem lw_p29 : lw_okq (⟨"NextKeysModel", "turnOne", "(IIZ)I"⟩, 15) := ⟨⟨by decide +kernel, by decide +kernel⟩, List.mem_of_getElem? (i := 785) (by decide +kernel), List.mem_of_getElem? (i := 944) (by decide +kernel), List.mem_of_getElem? (i := 945) (by decide +kernel)⟩
theorem lw_p30 : lw_okq (⟨"NextKeysModel", "isSet", "(I)Z"⟩, 15) := ⟨⟨by decide +kernel, by decide +kernel⟩, List.mem_of_getElem? (i := 785) (by decide +kernel), List.mem_of_getElem? (i := 948) (by decide +kernel), List.mem_of_getElem? (i := 949) (by decide +kernel)⟩
theorem lw_p31 : lw_okq (⟨"NextKeysModel", "isKey", "(J)Z"⟩, 15) := ⟨⟨by decide +kernel, by decide +kernel⟩, List.mem_of_getElem? (i := 785) (by decide +kernel), List.mem_of_getElem? (i := 952) (by decide +kernel), List.mem_of_getElem? (i := 953) (by decide +kernel)⟩
def lw_privs_2 : List (MethodName × Nat) := [(⟨"NextKeys", "rowsThere", "()I"⟩, 8), (⟨"NextKeysModel", "find", "(I)I"⟩, 15), (⟨"NextKeysModel", "well", "(I)I"⟩, 15), (⟨"NextKeysModel", "isSpan", "(III)Z"⟩, 15), (⟨"NextKeysModel", "reads", "()Z"⟩, 15), (⟨"NextKeysModel", "readsLaw", "()Z"⟩, 15), (⟨"NextKeysModel", "sign", "(I)Z"⟩, 15), (⟨"NextKeysModel", "isLetter", "(I)Z"⟩, 15), (⟨"NextKeysModel", "refuse", "(I)Z"⟩, 15), (⟨"NextKeysModel", "readsNumber", "(II)Z"⟩, 15), (⟨"NextKeysModel", "isFigure", "(I)Z"⟩, 15), (⟨"NextKeysModel", "readsSet", "()Z"⟩, 15), (⟨"NextKeysModel", "copyShelf", "(II)V"⟩, 15), (⟨"NextKeysModel", "turnOne", "(IIZ)I"⟩, 15), (⟨"NextKeysModel", "isSet", "(I)Z"⟩, 15), (⟨"NextKeysModel", "isKey", "(J)Z"⟩, 15)]
theorem lw_r2 : ∀ q ∈ lw_privs_2, lw_okq q := List.forall_mem_cons.mpr ⟨lw_p16, List.forall_mem_cons.mpr ⟨lw_p17, List.forall_mem_cons.mpr ⟨lw_p18, List.forall_mem_cons.mpr ⟨lw_p19, List.forall_mem_cons.mpr ⟨lw_p20, List.forall_mem_cons.mpr ⟨lw_p21, List.forall_mem_cons.mpr ⟨lw_p22, List.forall_mem_cons.mpr ⟨lw_p23, List.forall_mem_cons.mpr ⟨lw_p24, List.forall_mem_cons.mpr ⟨lw_p25, List.forall_mem_cons.mpr ⟨lw_p26, List.forall_mem_cons.mpr ⟨lw_p27, List.forall_mem_cons.mpr ⟨lw_p28, List.forall_mem_cons.mpr ⟨lw_p29, List.forall_mem_cons.mpr ⟨lw_p30, List.forall_mem_cons.mpr ⟨lw_p31, fun _ h => absurd h List.not_mem_nil⟩⟩⟩⟩⟩⟩⟩⟩⟩⟩⟩⟩⟩⟩⟩⟩
theorem lw_p32 : lw_okq (⟨"NextKeysModel", "top", "()I"⟩, 15) := ⟨⟨by decide +kernel, by decide +kernel⟩, List.mem_of_getElem? (i := 785) (by decide +kernel), List.mem_of_getElem? (i := 956) (by decide +kernel), List.mem_of_getElem? (i := 957) (by decide +kernel)⟩
theorem lw_p33 : lw_okq (⟨"NextKeysModel", "isShelf", "()Z"⟩, 15) := ⟨⟨by decide +kernel, by decide +kernel⟩, List.mem_of_getElem? (i := 785) (by decide +kernel), List.mem_of_getElem? (i := 960) (by decide +kernel), List.mem_of_getElem? (i := 961) (by decide +kernel)⟩
theorem lw_p34 : lw_okq (⟨"NextKeysModel", "hasKey", "(III)Z"⟩, 15) := ⟨⟨by decide +kernel, by decide +kernel⟩, List.mem_of_getElem? (i := 785) (by decide +kernel), List.mem_of_getElem? (i := 964) (by decide +kernel), List.mem_of_getElem? (i := 965) (by decide +kernel)⟩
theorem lw_p35 : lw_okq (⟨"NextKeysModel", "keepPast", "()V"⟩, 15) := ⟨⟨by decide +kernel, by decide +kernel⟩, List.mem_of_getElem? (i := 785) (by decide +kernel), List.mem_of_getElem? (i := 971) (by decide +kernel), List.mem_of_getElem? (i := 972) (by decide +kernel)⟩
theorem lw_p36 : lw_okq (⟨"NextKeysModel", "turnKey", "(III)V"⟩, 15) := ⟨⟨by decide +kernel, by decide +kernel⟩, List.mem_of_getElem? (i := 785) (by decide +kernel), List.mem_of_getElem? (i := 975) (by decide +kernel), List.mem_of_getElem? (i := 976) (by decide +kernel)⟩
theorem lw_p37 : lw_okq (⟨"NextKeysModel", "keysOf", "(II)I"⟩, 15) := ⟨⟨by decide +kernel, by decide +kernel⟩, List.mem_of_getElem? (i := 785) (by decide +kernel), List.mem_of_getElem? (i := 979) (by decide +kernel), List.mem_of_getElem? (i := 980) (by decide +kernel)⟩
theorem lw_p38 : lw_okq (⟨"NextKeysModel", "leastOf", "(I)I"⟩, 15) := ⟨⟨by decide +kernel, by decide +kernel⟩, List.mem_of_getElem? (i := 785) (by decide +kernel), List.mem_of_getElem? (i := 1022) (by decide +kernel), List.mem_of_getElem? (i := 1023) (by decide +kernel)⟩
theorem lw_p39 : lw_okq (⟨"NextKeysModel", "above", "(II)I"⟩, 15) := ⟨⟨by decide +kernel, by decide +kernel⟩, List.mem_of_getElem? (i := 785) (by decide +kernel), List.mem_of_getElem? (i := 1026) (by decide +kernel), List.mem_of_getElem? (i := 1027) (by decide +kernel)⟩
theorem lw_p40 : lw_okq (⟨"NextKeysModel", "greatestOf", "(I)I"⟩, 15) := ⟨⟨by decide +kernel, by decide +kernel⟩, List.mem_of_getElem? (i := 785) (by decide +kernel), List.mem_of_getElem? (i := 1031) (by decide +kernel), List.mem_of_getElem? (i := 1032) (by decide +kernel)⟩
theorem lw_p41 : lw_okq (⟨"NextKeysModel", "below", "(II)I"⟩, 15) := ⟨⟨by decide +kernel, by decide +kernel⟩, List.mem_of_getElem? (i := 785) (by decide +kernel), List.mem_of_getElem? (i := 1035) (by decide +kernel), List.mem_of_getElem? (i := 1036) (by decide +kernel)⟩
theorem lw_p42 : lw_okq (⟨"NextKeysModel", "nextOf", "(II)I"⟩, 15) := ⟨⟨by decide +kernel, by decide +kernel⟩, List.mem_of_getElem? (i := 785) (by decide +kernel), List.mem_of_getElem? (i := 1043) (by decide +kernel), List.mem_of_getElem? (i := 1044) (by decide +kernel)⟩
theorem lw_p43 : lw_okq (⟨"NextKeysModel", "lowBits", "()I"⟩, 15) := ⟨⟨by decide +kernel, by decide +kernel⟩, List.mem_of_getElem? (i := 785) (by decide +kernel), List.mem_of_getElem? (i := 1055) (by decide +kernel), List.mem_of_getElem? (i := 1056) (by decide +kernel)⟩
theorem lw_p44 : lw_okq (⟨"NextKeysModel", "clusterOf", "(II)I"⟩, 15) := ⟨⟨by decide +kernel, by decide +kernel⟩, List.mem_of_getElem? (i := 785) (by decide +kernel), List.mem_of_getElem? (i := 1059) (by decide +kernel), List.mem_of_getElem? (i := 1060) (by decide +kernel)⟩
theorem lw_p45 : lw_okq (⟨"NextKeysModel", "summaryOf", "(I)I"⟩, 15) := ⟨⟨by decide +kernel, by decide +kernel⟩, List.mem_of_getElem? (i := 785) (by decide +kernel), List.mem_of_getElem? (i := 1081) (by decide +kernel), List.mem_of_getElem? (i := 1082) (by decide +kernel)⟩
theorem lw_p46 : lw_okq (⟨"NextKeysModel", "highBits", "()I"⟩, 15) := ⟨⟨by decide +kernel, by decide +kernel⟩, List.mem_of_getElem? (i := 785) (by decide +kernel), List.mem_of_getElem? (i := 1085) (by decide +kernel), List.mem_of_getElem? (i := 1086) (by decide +kernel)⟩
theorem lw_p47 : lw_okq (⟨"NextKeysModel", "nodesIn", "(I)I"⟩, 15) := ⟨⟨by decide +kernel, by decide +kernel⟩, List.mem_of_getElem? (i := 785) (by decide +kernel), List.mem_of_getElem? (i := 1093) (by decide +kernel), List.mem_of_getElem? (i := 1094) (by decide +kernel)⟩
def lw_privs_3 : List (MethodName × Nat) := [(⟨"NextKeysModel", "top", "()I"⟩, 15), (⟨"NextKeysModel", "isShelf", "()Z"⟩, 15), (⟨"NextKeysModel", "hasKey", "(III)Z"⟩, 15), (⟨"NextKeysModel", "keepPast", "()V"⟩, 15), (⟨"NextKeysModel", "turnKey", "(III)V"⟩, 15), (⟨"NextKeysModel", "keysOf", "(II)I"⟩, 15), (⟨"NextKeysModel", "leastOf", "(I)I"⟩, 15), (⟨"NextKeysModel", "above", "(II)I"⟩, 15), (⟨"NextKeysModel", "greatestOf", "(I)I"⟩, 15), (⟨"NextKeysModel", "below", "(II)I"⟩, 15), (⟨"NextKeysModel", "nextOf", "(II)I"⟩, 15), (⟨"NextKeysModel", "lowBits", "()I"⟩, 15), (⟨"NextKeysModel", "clusterOf", "(II)I"⟩, 15), (⟨"NextKeysModel", "summaryOf", "(I)I"⟩, 15), (⟨"NextKeysModel", "highBits", "()I"⟩, 15), (⟨"NextKeysModel", "nodesIn", "(I)I"⟩, 15)]
theorem lw_r3 : ∀ q ∈ lw_privs_3, lw_okq q := List.forall_mem_cons.mpr ⟨lw_p32, List.forall_mem_cons.mpr ⟨lw_p33, List.forall_mem_cons.mpr ⟨lw_p34, List.forall_mem_cons.mpr ⟨lw_p35, List.forall_mem_cons.mpr ⟨lw_p36, List.forall_mem_cons.mpr ⟨lw_p37, List.forall_mem_cons.mpr ⟨lw_p38, List.forall_mem_cons.mpr ⟨lw_p39, List.forall_mem_cons.mpr ⟨lw_p40, List.forall_mem_cons.mpr ⟨lw_p41, List.forall_mem_cons.mpr ⟨lw_p42, List.forall_mem_cons.mpr ⟨lw_p43, List.forall_mem_cons.mpr ⟨lw_p44, List.forall_mem_cons.mpr ⟨lw_p45, List.forall_mem_cons.mpr ⟨lw_p46, List.forall_mem_cons.mpr ⟨lw_p47, fun _ h => absurd h List.not_mem_nil⟩⟩⟩⟩⟩⟩⟩⟩⟩⟩⟩⟩⟩⟩⟩⟩
theorem lw_p48 : lw_okq (⟨"NextKeysModel", "depthIn", "(I)I"⟩, 15) := ⟨⟨by decide +kernel, by decide +kernel⟩, List.mem_of_getElem? (i := 785) (by decide +kernel), List.mem_of_getElem? (i := 1115) (by decide +kernel), List.mem_of_getElem? (i := 1116) (by decide +kernel)⟩
theorem lw_p49 : lw_okq (⟨"NextKeysModel", "isWord", "(III)Z"⟩, 15) := ⟨⟨by decide +kernel, by decide +kernel⟩, List.mem_of_getElem? (i := 785) (by decide +kernel), List.mem_of_getElem? (i := 1152) (by decide +kernel), List.mem_of_getElem? (i := 1153) (by decide +kernel)⟩
theorem lw_p50 : lw_okq (⟨"NextKeysModel", "wordMany", "()I"⟩, 15) := ⟨⟨by decide +kernel, by decide +kernel⟩, List.mem_of_getElem? (i := 785) (by decide +kernel), List.mem_of_getElem? (i := 1156) (by decide +kernel), List.mem_of_getElem? (i := 1157) (by decide +kernel)⟩
theorem lw_p51 : lw_okq (⟨"NextKeysModel", "wordOf", "(III)I"⟩, 15) := ⟨⟨by decide +kernel, by decide +kernel⟩, List.mem_of_getElem? (i := 785) (by decide +kernel), List.mem_of_getElem? (i := 1160) (by decide +kernel), List.mem_of_getElem? (i := 1161) (by decide +kernel)⟩
theorem lw_p52 : lw_okq (⟨"NextKeysModel", "sumOf", "(I)I"⟩, 15) := ⟨⟨by decide +kernel, by decide +kernel⟩, List.mem_of_getElem? (i := 785) (by decide +kernel), List.mem_of_getElem? (i := 1177) (by decide +kernel), List.mem_of_getElem? (i := 1178) (by decide +kernel)⟩
theorem lw_p53 : lw_okq (⟨"NextKeysModel", "isCovered", "(III)Z"⟩, 15) := ⟨⟨by decide +kernel, by decide +kernel⟩, List.mem_of_getElem? (i := 785) (by decide +kernel), List.mem_of_getElem? (i := 1210) (by decide +kernel), List.mem_of_getElem? (i := 1211) (by decide +kernel)⟩
theorem lw_p54 : lw_okq (⟨"NextKeysModel", "allKeys", "()I"⟩, 15) := ⟨⟨by decide +kernel, by decide +kernel⟩, List.mem_of_getElem? (i := 785) (by decide +kernel), List.mem_of_getElem? (i := 1234) (by decide +kernel), List.mem_of_getElem? (i := 1235) (by decide +kernel)⟩
theorem lw_p55 : lw_okq (⟨"NextKeysModel", "allNodes", "()I"⟩, 15) := ⟨⟨by decide +kernel, by decide +kernel⟩, List.mem_of_getElem? (i := 785) (by decide +kernel), List.mem_of_getElem? (i := 1238) (by decide +kernel), List.mem_of_getElem? (i := 1239) (by decide +kernel)⟩
theorem lw_p56 : lw_okq (⟨"NextKeysModel", "isOf", "(II)Z"⟩, 15) := ⟨⟨by decide +kernel, by decide +kernel⟩, List.mem_of_getElem? (i := 785) (by decide +kernel), List.mem_of_getElem? (i := 1259) (by decide +kernel), List.mem_of_getElem? (i := 1260) (by decide +kernel)⟩
theorem lw_p57 : lw_okq (⟨"NextKeysModel", "sizeOf", "(I)I"⟩, 15) := ⟨⟨by decide +kernel, by decide +kernel⟩, List.mem_of_getElem? (i := 785) (by decide +kernel), List.mem_of_getElem? (i := 1267) (by decide +kernel), List.mem_of_getElem? (i := 1268) (by decide +kernel)⟩
theorem lw_p58 : lw_okq (⟨"NextKeysModel", "begin", "(I)V"⟩, 15) := ⟨⟨by decide +kernel, by decide +kernel⟩, List.mem_of_getElem? (i := 785) (by decide +kernel), List.mem_of_getElem? (i := 1271) (by decide +kernel), List.mem_of_getElem? (i := 1272) (by decide +kernel)⟩
theorem lw_p59 : lw_okq (⟨"NextKeysModel", "aboveSize", "(I)I"⟩, 15) := ⟨⟨by decide +kernel, by decide +kernel⟩, List.mem_of_getElem? (i := 785) (by decide +kernel), List.mem_of_getElem? (i := 1275) (by decide +kernel), List.mem_of_getElem? (i := 1276) (by decide +kernel)⟩
theorem lw_p60 : lw_okq (⟨"NextKeysModel", "lentSize", "(I)I"⟩, 15) := ⟨⟨by decide +kernel, by decide +kernel⟩, List.mem_of_getElem? (i := 785) (by decide +kernel), List.mem_of_getElem? (i := 1279) (by decide +kernel), List.mem_of_getElem? (i := 1280) (by decide +kernel)⟩
theorem lw_p61 : lw_okq (⟨"NextKeysModel", "aboveMark", "(I)I"⟩, 15) := ⟨⟨by decide +kernel, by decide +kernel⟩, List.mem_of_getElem? (i := 785) (by decide +kernel), List.mem_of_getElem? (i := 1283) (by decide +kernel), List.mem_of_getElem? (i := 1284) (by decide +kernel)⟩
theorem lw_p62 : lw_okq (⟨"NextKeysModel", "plainMark", "(I)I"⟩, 15) := ⟨⟨by decide +kernel, by decide +kernel⟩, List.mem_of_getElem? (i := 785) (by decide +kernel), List.mem_of_getElem? (i := 1287) (by decide +kernel), List.mem_of_getElem? (i := 1288) (by decide +kernel)⟩
theorem lw_p63 : lw_okq (⟨"NextKeysModel", "lentMark", "(I)I"⟩, 15) := ⟨⟨by decide +kernel, by decide +kernel⟩, List.mem_of_getElem? (i := 785) (by decide +kernel), List.mem_of_getElem? (i := 1291) (by decide +kernel), List.mem_of_getElem? (i := 1292) (by decide +kernel)⟩
def lw_privs_4 : List (MethodName × Nat) := [(⟨"NextKeysModel", "depthIn", "(I)I"⟩, 15), (⟨"NextKeysModel", "isWord", "(III)Z"⟩, 15), (⟨"NextKeysModel", "wordMany", "()I"⟩, 15), (⟨"NextKeysModel", "wordOf", "(III)I"⟩, 15), (⟨"NextKeysModel", "sumOf", "(I)I"⟩, 15), (⟨"NextKeysModel", "isCovered", "(III)Z"⟩, 15), (⟨"NextKeysModel", "allKeys", "()I"⟩, 15), (⟨"NextKeysModel", "allNodes", "()I"⟩, 15), (⟨"NextKeysModel", "isOf", "(II)Z"⟩, 15), (⟨"NextKeysModel", "sizeOf", "(I)I"⟩, 15), (⟨"NextKeysModel", "begin", "(I)V"⟩, 15), (⟨"NextKeysModel", "aboveSize", "(I)I"⟩, 15), (⟨"NextKeysModel", "lentSize", "(I)I"⟩, 15), (⟨"NextKeysModel", "aboveMark", "(I)I"⟩, 15), (⟨"NextKeysModel", "plainMark", "(I)I"⟩, 15), (⟨"NextKeysModel", "lentMark", "(I)I"⟩, 15)]
theorem lw_r4 : ∀ q ∈ lw_privs_4, lw_okq q := List.forall_mem_cons.mpr ⟨lw_p48, List.forall_mem_cons.mpr ⟨lw_p49, List.forall_mem_cons.mpr ⟨lw_p50, List.forall_mem_cons.mpr ⟨lw_p51, List.forall_mem_cons.mpr ⟨lw_p52, List.forall_mem_cons.mpr ⟨lw_p53, List.forall_mem_cons.mpr ⟨lw_p54, List.forall_mem_cons.mpr ⟨lw_p55, List.forall_mem_cons.mpr ⟨lw_p56, List.forall_mem_cons.mpr ⟨lw_p57, List.forall_mem_cons.mpr ⟨lw_p58, List.forall_mem_cons.mpr ⟨lw_p59, List.forall_mem_cons.mpr ⟨lw_p60, List.forall_mem_cons.mpr ⟨lw_p61, List.forall_mem_cons.mpr ⟨lw_p62, List.forall_mem_cons.mpr ⟨lw_p63, fun _ h => absurd h List.not_mem_nil⟩⟩⟩⟩⟩⟩⟩⟩⟩⟩⟩⟩⟩⟩⟩⟩
theorem lw_p64 : lw_okq (⟨"NextKeysModel", "belowSize", "(I)I"⟩, 15) := ⟨⟨by decide +kernel, by decide +kernel⟩, List.mem_of_getElem? (i := 785) (by decide +kernel), List.mem_of_getElem? (i := 1295) (by decide +kernel), List.mem_of_getElem? (i := 1296) (by decide +kernel)⟩
theorem lw_p65 : lw_okq (⟨"NextKeysModel", "belowMark", "(I)I"⟩, 15) := ⟨⟨by decide +kernel, by decide +kernel⟩, List.mem_of_getElem? (i := 785) (by decide +kernel), List.mem_of_getElem? (i := 1299) (by decide +kernel), List.mem_of_getElem? (i := 1300) (by decide +kernel)⟩
def lw_privs_5 : List (MethodName × Nat) := [(⟨"NextKeysModel", "belowSize", "(I)I"⟩, 15), (⟨"NextKeysModel", "belowMark", "(I)I"⟩, 15)]
theorem lw_r5 : ∀ q ∈ lw_privs_5, lw_okq q := List.forall_mem_cons.mpr ⟨lw_p64, List.forall_mem_cons.mpr ⟨lw_p65, fun _ h => absurd h List.not_mem_nil⟩⟩
def lw_privs : List (MethodName × Nat) := lw_privs_1 ++ (lw_privs_2 ++ (lw_privs_3 ++ (lw_privs_4 ++ (lw_privs_5))))
def lw_tbl : List Cond := k2_sels lw_privs ++ tables_1
theorem lw_privs_ok : ∀ q ∈ lw_privs, lw_okq q := by
  show ∀ q ∈ lw_privs_1 ++ (lw_privs_2 ++ (lw_privs_3 ++ (lw_privs_4 ++ (lw_privs_5)))), lw_okq q
  exact List.forall_mem_append.mpr ⟨lw_r1, List.forall_mem_append.mpr ⟨lw_r2, List.forall_mem_append.mpr ⟨lw_r3, List.forall_mem_append.mpr ⟨lw_r4, lw_r5⟩⟩⟩⟩
end
section
def RX0 : String := "NextKeys$Acts"
def TX0 : u_T := fun k => match k with
  | 0 => ("NextKeys$Acts", "changed", "[LNextKeys$KeySet;", true)
  | 1 => ("NextKeys$Acts", "before", "[[I", true)
  | 2 => ("NextKeys$Acts", "coming", "I", false)
  | _ => ("NextKeys$Acts", "kept", "I", false)
def tyX0 : Nat → FieldType := fun k => match k with
  | 0 => .array (.object "NextKeys$KeySet")
  | 1 => .array (.array .int)
  | 2 => .int
  | _ => .int
abbrev wsX00 : List Cond := u_ws RX0 TX0 4
theorem nmX0 : ∀ a, a < 4 → ∀ b, b < 4 → a ≠ b → (TX0 a).2.1 ≠ (TX0 b).2.1 := by decide +kernel
theorem tyX0_ok : ∀ k, k < 4 → parseFieldDescriptor (TX0 k).2.2.1 = some (tyX0 k) := by decide +kernel
abbrev cX0_init : ByteArray := prog_2_method_1_code
def yX0_init : MethodName := ⟨RX0, "<init>", "()V"⟩
abbrev cX0_keep : ByteArray := prog_2_method_2_code
def yX0_keep : MethodName := ⟨RX0, "keep", "(LNextKeys$KeySet;)V"⟩
abbrev cX0_takeBack : ByteArray := prog_2_method_3_code
def yX0_takeBack : MethodName := ⟨RX0, "takeBack", "()V"⟩
abbrev cX0_forget : ByteArray := prog_2_method_4_code
def yX0_forget : MethodName := ⟨RX0, "forget", "()V"⟩
def RX1 : String := "NextKeys$Asks"
def TX1 : u_T := fun k => match k with
  | 0 => ("NextKeys$Asks", "left", "[I", true)
  | _ => ("NextKeys$Asks", "leaving", "I", false)
def tyX1 : Nat → FieldType := fun k => match k with
  | 0 => .array .int
  | _ => .int
abbrev wsX10 : List Cond := u_ws RX1 TX1 2
theorem nmX1 : ∀ a, a < 2 → ∀ b, b < 2 → a ≠ b → (TX1 a).2.1 ≠ (TX1 b).2.1 := by decide +kernel
theorem tyX1_ok : ∀ k, k < 2 → parseFieldDescriptor (TX1 k).2.2.1 = some (tyX1 k) := by decide +kernel
abbrev cX1_init : ByteArray := prog_3_method_1_code
def yX1_init : MethodName := ⟨RX1, "<init>", "()V"⟩
abbrev cX1_answerAnew : ByteArray := prog_3_method_2_code
def yX1_answerAnew : MethodName := ⟨RX1, "answerAnew", "(LNextKeys$KeySet;I)I"⟩
abbrev cX1_leftAt : ByteArray := prog_3_method_3_code
def yX1_leftAt : MethodName := ⟨RX1, "leftAt", "(I)I"⟩
abbrev cX1_answer : ByteArray := prog_3_method_4_code
def yX1_answer : MethodName := ⟨RX1, "answer", "(LNextKeys$KeySet;II)I"⟩
abbrev cX1_body : ByteArray := prog_3_method_5_code
def yX1_body : MethodName := ⟨RX1, "body", "(LNextKeys$KeySet;II)I"⟩
abbrev cX1_leave : ByteArray := prog_3_method_6_code
def yX1_leave : MethodName := ⟨RX1, "leave", "(I)V"⟩
def RX2 : String := "NextKeys$KeySet"
def TX2 : u_T := fun k => match k with
  | 0 => ("NextKeys$KeySet", "number", "I", true)
  | 1 => ("NextKeys$KeySet", "sort", "I", true)
  | 2 => ("NextKeys$KeySet", "top", "I", true)
  | 3 => ("NextKeys$KeySet", "lowBits", "I", true)
  | 4 => ("NextKeys$KeySet", "highBits", "I", true)
  | _ => ("NextKeys$KeySet", "words", "[I", true)
def tyX2 : Nat → FieldType := fun k => match k with
  | 0 => .int
  | 1 => .int
  | 2 => .int
  | 3 => .int
  | 4 => .int
  | _ => .array .int
abbrev wsX20 : List Cond := u_ws RX2 TX2 6
theorem nmX2 : ∀ a, a < 6 → ∀ b, b < 6 → a ≠ b → (TX2 a).2.1 ≠ (TX2 b).2.1 := by decide +kernel
theorem tyX2_ok : ∀ k, k < 6 → parseFieldDescriptor (TX2 k).2.2.1 = some (tyX2 k) := by decide +kernel
abbrev cX2_init : ByteArray := prog_4_method_1_code
def yX2_init : MethodName := ⟨RX2, "<init>", "(III)V"⟩
abbrev cX2_wordsFor : ByteArray := prog_4_method_2_code
def yX2_wordsFor : MethodName := ⟨RX2, "wordsFor", "(I)I"⟩
abbrev cX2_spanIn : ByteArray := prog_4_method_3_code
def yX2_spanIn : MethodName := ⟨RX2, "spanIn", "(III)I"⟩
abbrev cX2_isKey : ByteArray := prog_4_method_4_code
def yX2_isKey : MethodName := ⟨RX2, "isKey", "(I)Z"⟩
abbrev cX2_holds : ByteArray := prog_4_method_5_code
def yX2_holds : MethodName := ⟨RX2, "holds", "(I)Z"⟩
abbrev cX2_put : ByteArray := prog_4_method_6_code
def yX2_put : MethodName := ⟨RX2, "put", "(I)V"⟩
abbrev cX2_turn : ByteArray := prog_4_method_7_code
def yX2_turn : MethodName := ⟨RX2, "turn", "(II)V"⟩
abbrev cX2_become : ByteArray := prog_4_method_8_code
def yX2_become : MethodName := ⟨RX2, "become", "([I)V"⟩
abbrev cX2_becomeJoined : ByteArray := prog_4_method_9_code
def yX2_becomeJoined : MethodName := ⟨RX2, "becomeJoined", "(ILNextKeys$KeySet;LNextKeys$KeySet;)V"⟩
abbrev cX2_joined : ByteArray := prog_4_method_10_code
def yX2_joined : MethodName := ⟨RX2, "joined", "(III)I"⟩
abbrev cX2_moveBy : ByteArray := prog_4_method_11_code
def yX2_moveBy : MethodName := ⟨RX2, "moveBy", "(I)V"⟩
abbrev cX2_cutOut : ByteArray := prog_4_method_12_code
def yX2_cutOut : MethodName := ⟨RX2, "cutOut", "([II)I"⟩
abbrev cX2_wordOf : ByteArray := prog_4_method_13_code
def yX2_wordOf : MethodName := ⟨RX2, "wordOf", "([II)I"⟩
abbrev cX2_size : ByteArray := prog_4_method_14_code
def yX2_size : MethodName := ⟨RX2, "size", "()I"⟩
abbrev cX2_sizeWithin : ByteArray := prog_4_method_15_code
def yX2_sizeWithin : MethodName := ⟨RX2, "sizeWithin", "(II)I"⟩
abbrev cX2_total : ByteArray := prog_4_method_16_code
def yX2_total : MethodName := ⟨RX2, "total", "()I"⟩
abbrev cX2_from : ByteArray := prog_4_method_17_code
def yX2_from : MethodName := ⟨RX2, "from", "(I)I"⟩
abbrev cX2_upTo : ByteArray := prog_4_method_18_code
def yX2_upTo : MethodName := ⟨RX2, "upTo", "(I)I"⟩
abbrev cX2_least : ByteArray := prog_4_method_19_code
def yX2_least : MethodName := ⟨RX2, "least", "()I"⟩
abbrev cX2_greatest : ByteArray := prog_4_method_20_code
def yX2_greatest : MethodName := ⟨RX2, "greatest", "()I"⟩
abbrev cX2_following : ByteArray := prog_4_method_21_code
def yX2_following : MethodName := ⟨RX2, "following", "(I)I"⟩
abbrev cX2_eitherOf : ByteArray := prog_4_method_22_code
def yX2_eitherOf : MethodName := ⟨RX2, "eitherOf", "(II)I"⟩
abbrev cX2_nearest : ByteArray := prog_4_method_23_code
def yX2_nearest : MethodName := ⟨RX2, "nearest", "(I)I"⟩
abbrev cX2_keyAt : ByteArray := prog_4_method_24_code
def yX2_keyAt : MethodName := ⟨RX2, "keyAt", "(I)I"⟩
abbrev cX2_widestFrom : ByteArray := prog_4_method_25_code
def yX2_widestFrom : MethodName := ⟨RX2, "widestFrom", "()I"⟩
abbrev cX2_hasWord : ByteArray := prog_4_method_26_code
def yX2_hasWord : MethodName := ⟨RX2, "hasWord", "(II)Z"⟩
abbrev cX2_wordAt : ByteArray := prog_4_method_27_code
def yX2_wordAt : MethodName := ⟨RX2, "wordAt", "(II)I"⟩
abbrev cX2_upperWord : ByteArray := prog_4_method_28_code
def yX2_upperWord : MethodName := ⟨RX2, "upperWord", "()I"⟩
abbrev cX2_isHigh : ByteArray := prog_4_method_29_code
def yX2_isHigh : MethodName := ⟨RX2, "isHigh", "(I)Z"⟩
abbrev cX2_clusterAt : ByteArray := prog_4_method_30_code
def yX2_clusterAt : MethodName := ⟨RX2, "clusterAt", "(II)I"⟩
abbrev cX2_rootSummary : ByteArray := prog_4_method_31_code
def yX2_rootSummary : MethodName := ⟨RX2, "rootSummary", "()I"⟩
abbrev cX2_rootNodes : ByteArray := prog_4_method_32_code
def yX2_rootNodes : MethodName := ⟨RX2, "rootNodes", "()I"⟩
abbrev cX2_rootDepth : ByteArray := prog_4_method_33_code
def yX2_rootDepth : MethodName := ⟨RX2, "rootDepth", "()I"⟩
abbrev cX2_rootSteps : ByteArray := prog_4_method_34_code
def yX2_rootSteps : MethodName := ⟨RX2, "rootSteps", "(I)I"⟩
def RX3 : String := "NextKeys$Node"
def TX3 : u_T := fun k => match k with
  | _ => ("", "", "", false)
def tyX3 : Nat → FieldType := fun k => match k with
  | _ => .int
abbrev wsX30 : List Cond := u_ws RX3 TX3 0
theorem nmX3 : ∀ a, a < 0 → ∀ b, b < 0 → a ≠ b → (TX3 a).2.1 ≠ (TX3 b).2.1 := by decide +kernel
theorem tyX3_ok : ∀ k, k < 0 → parseFieldDescriptor (TX3 k).2.2.1 = some (tyX3 k) := by decide +kernel
abbrev cX3_lowOf : ByteArray := prog_5_method_2_code
def yX3_lowOf : MethodName := ⟨RX3, "lowOf", "(I)I"⟩
abbrev cX3_highOf : ByteArray := prog_5_method_3_code
def yX3_highOf : MethodName := ⟨RX3, "highOf", "(I)I"⟩
abbrev cX3_leastOf : ByteArray := prog_5_method_4_code
def yX3_leastOf : MethodName := ⟨RX3, "leastOf", "(I)I"⟩
abbrev cX3_greatestOf : ByteArray := prog_5_method_5_code
def yX3_greatestOf : MethodName := ⟨RX3, "greatestOf", "(I)I"⟩
abbrev cX3_withoutLeast : ByteArray := prog_5_method_6_code
def yX3_withoutLeast : MethodName := ⟨RX3, "withoutLeast", "(I)I"⟩
abbrev cX3_clusterIn : ByteArray := prog_5_method_7_code
def yX3_clusterIn : MethodName := ⟨RX3, "clusterIn", "(III)I"⟩
abbrev cX3_summaryIn : ByteArray := prog_5_method_8_code
def yX3_summaryIn : MethodName := ⟨RX3, "summaryIn", "(II)I"⟩
abbrev cX3_about : ByteArray := prog_5_method_9_code
def yX3_about : MethodName := ⟨RX3, "about", "(III)I"⟩
abbrev cX3_nodesOf : ByteArray := prog_5_method_10_code
def yX3_nodesOf : MethodName := ⟨RX3, "nodesOf", "(II)I"⟩
abbrev cX3_depthOf : ByteArray := prog_5_method_11_code
def yX3_depthOf : MethodName := ⟨RX3, "depthOf", "(II)I"⟩
abbrev cX3_stepsAbove : ByteArray := prog_5_method_12_code
def yX3_stepsAbove : MethodName := ⟨RX3, "stepsAbove", "(III)I"⟩
def RX4 : String := "NextKeys$Row"
def TX4 : u_T := fun k => match k with
  | 0 => ("NextKeys$Row", "lane", "I", true)
  | _ => ("NextKeys$Row", "items", "[I", true)
def tyX4 : Nat → FieldType := fun k => match k with
  | 0 => .int
  | _ => .array .int
abbrev wsX40 : List Cond := u_ws RX4 TX4 2
theorem nmX4 : ∀ a, a < 2 → ∀ b, b < 2 → a ≠ b → (TX4 a).2.1 ≠ (TX4 b).2.1 := by decide +kernel
theorem tyX4_ok : ∀ k, k < 2 → parseFieldDescriptor (TX4 k).2.2.1 = some (tyX4 k) := by decide +kernel
abbrev cX4_init : ByteArray := prog_6_method_1_code
def yX4_init : MethodName := ⟨RX4, "<init>", "(II)V"⟩
abbrev cX4_spans : ByteArray := prog_6_method_2_code
def yX4_spans : MethodName := ⟨RX4, "spans", "(II)Z"⟩
abbrev cX4_store : ByteArray := prog_6_method_3_code
def yX4_store : MethodName := ⟨RX4, "store", "(II)I"⟩
def RX5 : String := "NextKeys$Shelf"
def TX5 : u_T := fun k => match k with
  | 0 => ("NextKeys$Shelf", "figures", "I", true)
  | 1 => ("NextKeys$Shelf", "top", "I", true)
  | 2 => ("NextKeys$Shelf", "sets", "[LNextKeys$KeySet;", true)
  | _ => ("NextKeys$Shelf", "held", "I", false)
def tyX5 : Nat → FieldType := fun k => match k with
  | 0 => .int
  | 1 => .int
  | 2 => .array (.object "NextKeys$KeySet")
  | _ => .int
abbrev wsX50 : List Cond := u_ws RX5 TX5 4
theorem nmX5 : ∀ a, a < 4 → ∀ b, b < 4 → a ≠ b → (TX5 a).2.1 ≠ (TX5 b).2.1 := by decide +kernel
theorem tyX5_ok : ∀ k, k < 4 → parseFieldDescriptor (TX5 k).2.2.1 = some (tyX5 k) := by decide +kernel
abbrev cX5_init : ByteArray := prog_7_method_1_code
def yX5_init : MethodName := ⟨RX5, "<init>", "(I)V"⟩
abbrev cX5_append : ByteArray := prog_7_method_2_code
def yX5_append : MethodName := ⟨RX5, "append", "(I)LNextKeys$KeySet;"⟩
abbrev cX5_numbered : ByteArray := prog_7_method_3_code
def yX5_numbered : MethodName := ⟨RX5, "numbered", "(I)LNextKeys$KeySet;"⟩
abbrev cX5_isKey : ByteArray := prog_7_method_4_code
def yX5_isKey : MethodName := ⟨RX5, "isKey", "(I)Z"⟩
abbrev cX5_twin : ByteArray := prog_7_method_5_code
def yX5_twin : MethodName := ⟨RX5, "twin", "()LNextKeys$Shelf;"⟩
abbrev cX5_sizeOfAll : ByteArray := prog_7_method_6_code
def yX5_sizeOfAll : MethodName := ⟨RX5, "sizeOfAll", "()I"⟩
abbrev cX5_nodesOfAll : ByteArray := prog_7_method_7_code
def yX5_nodesOfAll : MethodName := ⟨RX5, "nodesOfAll", "()I"⟩
abbrev cX5_commonFrom : ByteArray := prog_7_method_8_code
def yX5_commonFrom : MethodName := ⟨RX5, "commonFrom", "(I)I"⟩
abbrev cX5_fewestOver : ByteArray := prog_7_method_9_code
def yX5_fewestOver : MethodName := ⟨RX5, "fewestOver", "(II)I"⟩
abbrev cX5_isCovered : ByteArray := prog_7_method_10_code
def yX5_isCovered : MethodName := ⟨RX5, "isCovered", "(III)Z"⟩
abbrev cX5_draw : ByteArray := prog_7_method_11_code
def yX5_draw : MethodName := ⟨RX5, "draw", "(II)V"⟩
def RX6 : String := "NextKeys$Tape"
def TX6 : u_T := fun k => match k with
  | 0 => ("NextKeys$Tape", "bytes", "[I", true)
  | 1 => ("NextKeys$Tape", "length", "I", false)
  | 2 => ("NextKeys$Tape", "at", "I", false)
  | 3 => ("NextKeys$Tape", "behind", "I", false)
  | 4 => ("NextKeys$Tape", "token", "I", false)
  | 5 => ("NextKeys$Tape", "worth", "I", false)
  | _ => ("NextKeys$Tape", "faultFound", "I", false)
def tyX6 : Nat → FieldType := fun k => match k with
  | 0 => .array .int
  | 1 => .int
  | 2 => .int
  | 3 => .int
  | 4 => .int
  | 5 => .int
  | _ => .int
abbrev wsX60 : List Cond := u_ws RX6 TX6 7
theorem nmX6 : ∀ a, a < 7 → ∀ b, b < 7 → a ≠ b → (TX6 a).2.1 ≠ (TX6 b).2.1 := by decide +kernel
theorem tyX6_ok : ∀ k, k < 7 → parseFieldDescriptor (TX6 k).2.2.1 = some (tyX6 k) := by decide +kernel
abbrev cX6_init : ByteArray := prog_8_method_1_code
def yX6_init : MethodName := ⟨RX6, "<init>", "()V"⟩
abbrev cX6_append : ByteArray := prog_8_method_2_code
def yX6_append : MethodName := ⟨RX6, "append", "(I)I"⟩
abbrev cX6_readShelf : ByteArray := prog_8_method_3_code
def yX6_readShelf : MethodName := ⟨RX6, "readShelf", "()LNextKeys$Shelf;"⟩
abbrev cX6_readSet : ByteArray := prog_8_method_4_code
def yX6_readSet : MethodName := ⟨RX6, "readSet", "(LNextKeys$Shelf;)V"⟩
abbrev cX6_fail : ByteArray := prog_8_method_5_code
def yX6_fail : MethodName := ⟨RX6, "fail", "(I)V"⟩
abbrev cX6_expect : ByteArray := prog_8_method_6_code
def yX6_expect : MethodName := ⟨RX6, "expect", "(I)V"⟩
abbrev cX6_readNumber : ByteArray := prog_8_method_7_code
def yX6_readNumber : MethodName := ⟨RX6, "readNumber", "(II)I"⟩
abbrev cX6_advance : ByteArray := prog_8_method_8_code
def yX6_advance : MethodName := ⟨RX6, "advance", "()V"⟩
abbrev cX6_takeFigures : ByteArray := prog_8_method_9_code
def yX6_takeFigures : MethodName := ⟨RX6, "takeFigures", "()V"⟩
abbrev cX6_isFigure : ByteArray := prog_8_method_10_code
def yX6_isFigure : MethodName := ⟨RX6, "isFigure", "(I)Z"⟩
abbrev cX6_sortOf : ByteArray := prog_8_method_11_code
def yX6_sortOf : MethodName := ⟨RX6, "sortOf", "(I)I"⟩
def RX7 : String := "NextKeys"
def TX7 : u_T := fun k => match k with
  | 0 => ("NextKeys", "rows", "[LNextKeys$Row;", true)
  | 1 => ("NextKeys", "tape", "LNextKeys$Tape;", true)
  | 2 => ("NextKeys", "images", "[LNextKeys$Shelf;", true)
  | 3 => ("NextKeys", "acts", "LNextKeys$Acts;", true)
  | 4 => ("NextKeys", "asks", "LNextKeys$Asks;", true)
  | 5 => ("NextKeys", "shelf", "LNextKeys$Shelf;", false)
  | 6 => ("NextKeys", "latestFault", "I", false)
  | _ => ("NextKeys", "latestFinding", "I", false)
def tyX7 : Nat → FieldType := fun k => match k with
  | 0 => .array (.object "NextKeys$Row")
  | 1 => .object "NextKeys$Tape"
  | 2 => .array (.object "NextKeys$Shelf")
  | 3 => .object "NextKeys$Acts"
  | 4 => .object "NextKeys$Asks"
  | 5 => .object "NextKeys$Shelf"
  | 6 => .int
  | _ => .int
abbrev wsX70 : List Cond := u_ws RX7 TX7 8
theorem nmX7 : ∀ a, a < 8 → ∀ b, b < 8 → a ≠ b → (TX7 a).2.1 ≠ (TX7 b).2.1 := by decide +kernel
theorem tyX7_ok : ∀ k, k < 8 → parseFieldDescriptor (TX7 k).2.2.1 = some (tyX7 k) := by decide +kernel
abbrev cX7_init : ByteArray := prog_1_method_1_code
def yX7_init : MethodName := ⟨RX7, "<init>", "()V"⟩
abbrev cX7_row : ByteArray := prog_1_method_2_code
def yX7_row : MethodName := ⟨RX7, "row", "(III)I"⟩
abbrev cX7_set : ByteArray := prog_1_method_3_code
def yX7_set : MethodName := ⟨RX7, "set", "(III)I"⟩
abbrev cX7_copy : ByteArray := prog_1_method_4_code
def yX7_copy : MethodName := ⟨RX7, "copy", "(IIIII)I"⟩
abbrev cX7_drop : ByteArray := prog_1_method_5_code
def yX7_drop : MethodName := ⟨RX7, "drop", "(I)I"⟩
abbrev cX7_feed : ByteArray := prog_1_method_6_code
def yX7_feed : MethodName := ⟨RX7, "feed", "(I)I"⟩
abbrev cX7_shelf : ByteArray := prog_1_method_7_code
def yX7_shelf : MethodName := ⟨RX7, "shelf", "()I"⟩
abbrev cX7_fault : ByteArray := prog_1_method_8_code
def yX7_fault : MethodName := ⟨RX7, "fault", "()I"⟩
abbrev cX7_undo : ByteArray := prog_1_method_9_code
def yX7_undo : MethodName := ⟨RX7, "undo", "()I"⟩
abbrev cX7_add : ByteArray := prog_1_method_10_code
def yX7_add : MethodName := ⟨RX7, "add", "(II)I"⟩
abbrev cX7_take : ByteArray := prog_1_method_11_code
def yX7_take : MethodName := ⟨RX7, "take", "(II)I"⟩
abbrev cX7_flip : ByteArray := prog_1_method_12_code
def yX7_flip : MethodName := ⟨RX7, "flip", "(III)I"⟩
abbrev cX7_join : ByteArray := prog_1_method_13_code
def yX7_join : MethodName := ⟨RX7, "join", "(IIII)I"⟩
abbrev cX7_shift : ByteArray := prog_1_method_14_code
def yX7_shift : MethodName := ⟨RX7, "shift", "(II)I"⟩
abbrev cX7_gather : ByteArray := prog_1_method_15_code
def yX7_gather : MethodName := ⟨RX7, "gather", "(IIII)I"⟩
abbrev cX7_contains : ByteArray := prog_1_method_16_code
def yX7_contains : MethodName := ⟨RX7, "contains", "(II)I"⟩
abbrev cX7_keys : ByteArray := prog_1_method_17_code
def yX7_keys : MethodName := ⟨RX7, "keys", "(I)I"⟩
abbrev cX7_end : ByteArray := prog_1_method_18_code
def yX7_end : MethodName := ⟨RX7, "end", "(II)I"⟩
abbrev cX7_next : ByteArray := prog_1_method_19_code
def yX7_next : MethodName := ⟨RX7, "next", "(II)I"⟩
abbrev cX7_beside : ByteArray := prog_1_method_20_code
def yX7_beside : MethodName := ⟨RX7, "beside", "(III)I"⟩
abbrev cX7_steps : ByteArray := prog_1_method_21_code
def yX7_steps : MethodName := ⟨RX7, "steps", "(II)I"⟩
abbrev cX7_tree : ByteArray := prog_1_method_22_code
def yX7_tree : MethodName := ⟨RX7, "tree", "(II)I"⟩
abbrev cX7_cluster : ByteArray := prog_1_method_23_code
def yX7_cluster : MethodName := ⟨RX7, "cluster", "(III)I"⟩
abbrev cX7_summary : ByteArray := prog_1_method_24_code
def yX7_summary : MethodName := ⟨RX7, "summary", "(II)I"⟩
abbrev cX7_word : ByteArray := prog_1_method_25_code
def yX7_word : MethodName := ⟨RX7, "word", "(III)I"⟩
abbrev cX7_bits : ByteArray := prog_1_method_26_code
def yX7_bits : MethodName := ⟨RX7, "bits", "(IIII)I"⟩
abbrev cX7_share : ByteArray := prog_1_method_27_code
def yX7_share : MethodName := ⟨RX7, "share", "(II)I"⟩
abbrev cX7_rank : ByteArray := prog_1_method_28_code
def yX7_rank : MethodName := ⟨RX7, "rank", "(II)I"⟩
abbrev cX7_nth : ByteArray := prog_1_method_29_code
def yX7_nth : MethodName := ⟨RX7, "nth", "(II)I"⟩
abbrev cX7_near : ByteArray := prog_1_method_30_code
def yX7_near : MethodName := ⟨RX7, "near", "(II)I"⟩
abbrev cX7_tell : ByteArray := prog_1_method_31_code
def yX7_tell : MethodName := ⟨RX7, "tell", "(IIII)I"⟩
abbrev cX7_chase : ByteArray := prog_1_method_32_code
def yX7_chase : MethodName := ⟨RX7, "chase", "(IIII)I"⟩
abbrev cX7_meet : ByteArray := prog_1_method_33_code
def yX7_meet : MethodName := ⟨RX7, "meet", "(I)I"⟩
abbrev cX7_cover : ByteArray := prog_1_method_34_code
def yX7_cover : MethodName := ⟨RX7, "cover", "(III)I"⟩
abbrev cX7_gap : ByteArray := prog_1_method_35_code
def yX7_gap : MethodName := ⟨RX7, "gap", "(II)I"⟩
abbrev cX7_likely : ByteArray := prog_1_method_36_code
def yX7_likely : MethodName := ⟨RX7, "likely", "(IIIII)J"⟩
abbrev cX7_drawn : ByteArray := prog_1_method_37_code
def yX7_drawn : MethodName := ⟨RX7, "drawn", "(III)I"⟩
abbrev cX7_image : ByteArray := prog_1_method_38_code
def yX7_image : MethodName := ⟨RX7, "image", "(I)I"⟩
abbrev cX7_restore : ByteArray := prog_1_method_39_code
def yX7_restore : MethodName := ⟨RX7, "restore", "(I)I"⟩
abbrev cX7_kind : ByteArray := prog_1_method_40_code
def yX7_kind : MethodName := ⟨RX7, "kind", "(I)I"⟩
abbrev cX7_as : ByteArray := prog_1_method_41_code
def yX7_as : MethodName := ⟨RX7, "as", "(II)I"⟩
abbrev cX7_ask : ByteArray := prog_1_method_42_code
def yX7_ask : MethodName := ⟨RX7, "ask", "(II)I"⟩
abbrev cX7_trace : ByteArray := prog_1_method_43_code
def yX7_trace : MethodName := ⟨RX7, "trace", "(I)I"⟩
abbrev cX7_count : ByteArray := prog_1_method_44_code
def yX7_count : MethodName := ⟨RX7, "count", "(I)I"⟩
abbrev cX7_status : ByteArray := prog_1_method_45_code
def yX7_status : MethodName := ⟨RX7, "status", "()I"⟩
abbrev cX7_within : ByteArray := prog_1_method_46_code
def yX7_within : MethodName := ⟨RX7, "within", "(III)Z"⟩
abbrev cX7_isRow : ByteArray := prog_1_method_47_code
def yX7_isRow : MethodName := ⟨RX7, "isRow", "(I)Z"⟩
abbrev cX7_found : ByteArray := prog_1_method_48_code
def yX7_found : MethodName := ⟨RX7, "found", "(I)I"⟩
abbrev cX7_fine : ByteArray := prog_1_method_49_code
def yX7_fine : MethodName := ⟨RX7, "fine", "(I)I"⟩
abbrev cX7_setAt : ByteArray := prog_1_method_50_code
def yX7_setAt : MethodName := ⟨RX7, "setAt", "(I)LNextKeys$KeySet;"⟩
abbrev cX7_setWith : ByteArray := prog_1_method_51_code
def yX7_setWith : MethodName := ⟨RX7, "setWith", "(II)LNextKeys$KeySet;"⟩
abbrev cX7_turned : ByteArray := prog_1_method_52_code
def yX7_turned : MethodName := ⟨RX7, "turned", "(LNextKeys$KeySet;II)I"⟩
abbrev cX7_allKeys : ByteArray := prog_1_method_53_code
def yX7_allKeys : MethodName := ⟨RX7, "allKeys", "(LNextKeys$KeySet;LNextKeys$Row;II)Z"⟩
abbrev cX7_rowsThere : ByteArray := prog_1_method_54_code
def yX7_rowsThere : MethodName := ⟨RX7, "rowsThere", "()I"⟩
abbrev cX7_isSuch : ByteArray := prog_1_method_55_code
def yX7_isSuch : MethodName := ⟨RX7, "isSuch", "(II)Z"⟩
abbrev cX7_sharedFactor : ByteArray := prog_1_method_56_code
def yX7_sharedFactor : MethodName := ⟨RX7, "sharedFactor", "(JJ)J"⟩
abbrev cX7_floatBits : ByteArray := prog_1_method_57_code
def yX7_floatBits : MethodName := ⟨RX7, "floatBits", "(II)I"⟩
def RX8 : String := "NextKeysModel"
def TX8 : u_T := fun k => match k with
  | 0 => ("NextKeysModel", "row", "[I", true)
  | 1 => ("NextKeysModel", "undos", "I", false)
  | 2 => ("NextKeysModel", "isKept", "[Z", true)
  | 3 => ("NextKeysModel", "lanes", "[I", true)
  | 4 => ("NextKeysModel", "sizes", "[I", true)
  | 5 => ("NextKeysModel", "items", "[I", true)
  | 6 => ("NextKeysModel", "tape", "[I", true)
  | 7 => ("NextKeysModel", "length", "I", false)
  | 8 => ("NextKeysModel", "fault", "I", false)
  | 9 => ("NextKeysModel", "status", "I", false)
  | 10 => ("NextKeysModel", "trace", "[I", true)
  | 11 => ("NextKeysModel", "traced", "I", false)
  | 12 => ("NextKeysModel", "at", "I", false)
  | 13 => ("NextKeysModel", "wrong", "I", false)
  | _ => ("NextKeysModel", "number", "I", false)
def tyX8 : Nat → FieldType := fun k => match k with
  | 0 => .array .int
  | 1 => .int
  | 2 => .array .boolean
  | 3 => .array .int
  | 4 => .array .int
  | 5 => .array .int
  | 6 => .array .int
  | 7 => .int
  | 8 => .int
  | 9 => .int
  | 10 => .array .int
  | 11 => .int
  | 12 => .int
  | 13 => .int
  | _ => .int
abbrev wsX80 : List Cond := u_ws RX8 TX8 15
theorem nmX8 : ∀ a, a < 15 → ∀ b, b < 15 → a ≠ b → (TX8 a).2.1 ≠ (TX8 b).2.1 := by decide +kernel
theorem tyX8_ok : ∀ k, k < 15 → parseFieldDescriptor (TX8 k).2.2.1 = some (tyX8 k) := by decide +kernel
abbrev cX8_init : ByteArray := prog_10_method_1_code
def yX8_init : MethodName := ⟨RX8, "<init>", "()V"⟩
abbrev cX8_in : ByteArray := prog_10_method_2_code
def yX8_in : MethodName := ⟨RX8, "in", "(JJJ)Z"⟩
abbrev cX8_has : ByteArray := prog_10_method_3_code
def yX8_has : MethodName := ⟨RX8, "has", "(II)Z"⟩
abbrev cX8_ones : ByteArray := prog_10_method_4_code
def yX8_ones : MethodName := ⟨RX8, "ones", "(I)I"⟩
abbrev cX8_find : ByteArray := prog_10_method_5_code
def yX8_find : MethodName := ⟨RX8, "find", "(I)I"⟩
abbrev cX8_well : ByteArray := prog_10_method_6_code
def yX8_well : MethodName := ⟨RX8, "well", "(I)I"⟩
abbrev cX8_isRow : ByteArray := prog_10_method_7_code
def yX8_isRow : MethodName := ⟨RX8, "isRow", "(I)Z"⟩
abbrev cX8_row : ByteArray := prog_10_method_8_code
def yX8_row : MethodName := ⟨RX8, "row", "(III)I"⟩
abbrev cX8_narrow : ByteArray := prog_10_method_9_code
def yX8_narrow : MethodName := ⟨RX8, "narrow", "(II)I"⟩
abbrev cX8_set : ByteArray := prog_10_method_10_code
def yX8_set : MethodName := ⟨RX8, "set", "(III)I"⟩
abbrev cX8_isSpan : ByteArray := prog_10_method_11_code
def yX8_isSpan : MethodName := ⟨RX8, "isSpan", "(III)Z"⟩
abbrev cX8_copy : ByteArray := prog_10_method_12_code
def yX8_copy : MethodName := ⟨RX8, "copy", "(IIIII)I"⟩
abbrev cX8_drop : ByteArray := prog_10_method_13_code
def yX8_drop : MethodName := ⟨RX8, "drop", "(I)I"⟩
abbrev cX8_feed : ByteArray := prog_10_method_14_code
def yX8_feed : MethodName := ⟨RX8, "feed", "(I)I"⟩
abbrev cX8_isLetter : ByteArray := prog_10_method_15_code
def yX8_isLetter : MethodName := ⟨RX8, "isLetter", "(I)Z"⟩
abbrev cX8_isFigure : ByteArray := prog_10_method_16_code
def yX8_isFigure : MethodName := ⟨RX8, "isFigure", "(I)Z"⟩
abbrev cX8_refuse : ByteArray := prog_10_method_17_code
def yX8_refuse : MethodName := ⟨RX8, "refuse", "(I)Z"⟩
abbrev cX8_sign : ByteArray := prog_10_method_18_code
def yX8_sign : MethodName := ⟨RX8, "sign", "(I)Z"⟩
abbrev cX8_readsNumber : ByteArray := prog_10_method_19_code
def yX8_readsNumber : MethodName := ⟨RX8, "readsNumber", "(II)Z"⟩
abbrev cX8_readsLaw : ByteArray := prog_10_method_20_code
def yX8_readsLaw : MethodName := ⟨RX8, "readsLaw", "()Z"⟩
abbrev cX8_kindOfLetter : ByteArray := prog_10_method_21_code
def yX8_kindOfLetter : MethodName := ⟨RX8, "kindOfLetter", "(I)I"⟩
abbrev cX8_readsSet : ByteArray := prog_10_method_22_code
def yX8_readsSet : MethodName := ⟨RX8, "readsSet", "()Z"⟩
abbrev cX8_reads : ByteArray := prog_10_method_23_code
def yX8_reads : MethodName := ⟨RX8, "reads", "()Z"⟩
abbrev cX8_shelf : ByteArray := prog_10_method_24_code
def yX8_shelf : MethodName := ⟨RX8, "shelf", "()I"⟩
abbrev cX8_fault : ByteArray := prog_10_method_25_code
def yX8_fault : MethodName := ⟨RX8, "fault", "()I"⟩
abbrev cX8_copyShelf : ByteArray := prog_10_method_26_code
def yX8_copyShelf : MethodName := ⟨RX8, "copyShelf", "(II)V"⟩
abbrev cX8_isShelf : ByteArray := prog_10_method_27_code
def yX8_isShelf : MethodName := ⟨RX8, "isShelf", "()Z"⟩
abbrev cX8_isSet : ByteArray := prog_10_method_28_code
def yX8_isSet : MethodName := ⟨RX8, "isSet", "(I)Z"⟩
abbrev cX8_top : ByteArray := prog_10_method_29_code
def yX8_top : MethodName := ⟨RX8, "top", "()I"⟩
abbrev cX8_isKey : ByteArray := prog_10_method_30_code
def yX8_isKey : MethodName := ⟨RX8, "isKey", "(J)Z"⟩
abbrev cX8_hasKey : ByteArray := prog_10_method_31_code
def yX8_hasKey : MethodName := ⟨RX8, "hasKey", "(III)Z"⟩
abbrev cX8_turnKey : ByteArray := prog_10_method_32_code
def yX8_turnKey : MethodName := ⟨RX8, "turnKey", "(III)V"⟩
abbrev cX8_keysOf : ByteArray := prog_10_method_33_code
def yX8_keysOf : MethodName := ⟨RX8, "keysOf", "(II)I"⟩
abbrev cX8_above : ByteArray := prog_10_method_34_code
def yX8_above : MethodName := ⟨RX8, "above", "(II)I"⟩
abbrev cX8_below : ByteArray := prog_10_method_35_code
def yX8_below : MethodName := ⟨RX8, "below", "(II)I"⟩
abbrev cX8_leastOf : ByteArray := prog_10_method_36_code
def yX8_leastOf : MethodName := ⟨RX8, "leastOf", "(I)I"⟩
abbrev cX8_greatestOf : ByteArray := prog_10_method_37_code
def yX8_greatestOf : MethodName := ⟨RX8, "greatestOf", "(I)I"⟩
abbrev cX8_nextOf : ByteArray := prog_10_method_38_code
def yX8_nextOf : MethodName := ⟨RX8, "nextOf", "(II)I"⟩
abbrev cX8_keepPast : ByteArray := prog_10_method_39_code
def yX8_keepPast : MethodName := ⟨RX8, "keepPast", "()V"⟩
abbrev cX8_undo : ByteArray := prog_10_method_40_code
def yX8_undo : MethodName := ⟨RX8, "undo", "()I"⟩
abbrev cX8_turnOne : ByteArray := prog_10_method_41_code
def yX8_turnOne : MethodName := ⟨RX8, "turnOne", "(IIZ)I"⟩
abbrev cX8_add : ByteArray := prog_10_method_42_code
def yX8_add : MethodName := ⟨RX8, "add", "(II)I"⟩
abbrev cX8_take : ByteArray := prog_10_method_43_code
def yX8_take : MethodName := ⟨RX8, "take", "(II)I"⟩
abbrev cX8_flip : ByteArray := prog_10_method_44_code
def yX8_flip : MethodName := ⟨RX8, "flip", "(III)I"⟩
abbrev cX8_join : ByteArray := prog_10_method_45_code
def yX8_join : MethodName := ⟨RX8, "join", "(IIII)I"⟩
abbrev cX8_shift : ByteArray := prog_10_method_46_code
def yX8_shift : MethodName := ⟨RX8, "shift", "(II)I"⟩
abbrev cX8_gather : ByteArray := prog_10_method_47_code
def yX8_gather : MethodName := ⟨RX8, "gather", "(IIII)I"⟩
abbrev cX8_contains : ByteArray := prog_10_method_48_code
def yX8_contains : MethodName := ⟨RX8, "contains", "(II)I"⟩
abbrev cX8_keys : ByteArray := prog_10_method_49_code
def yX8_keys : MethodName := ⟨RX8, "keys", "(I)I"⟩
abbrev cX8_end : ByteArray := prog_10_method_50_code
def yX8_end : MethodName := ⟨RX8, "end", "(II)I"⟩
abbrev cX8_next : ByteArray := prog_10_method_51_code
def yX8_next : MethodName := ⟨RX8, "next", "(II)I"⟩
abbrev cX8_beside : ByteArray := prog_10_method_52_code
def yX8_beside : MethodName := ⟨RX8, "beside", "(III)I"⟩
abbrev cX8_leastBit : ByteArray := prog_10_method_53_code
def yX8_leastBit : MethodName := ⟨RX8, "leastBit", "(I)I"⟩
abbrev cX8_greatestBit : ByteArray := prog_10_method_54_code
def yX8_greatestBit : MethodName := ⟨RX8, "greatestBit", "(I)I"⟩
abbrev cX8_rest : ByteArray := prog_10_method_55_code
def yX8_rest : MethodName := ⟨RX8, "rest", "(I)I"⟩
abbrev cX8_part : ByteArray := prog_10_method_56_code
def yX8_part : MethodName := ⟨RX8, "part", "(III)I"⟩
abbrev cX8_highs : ByteArray := prog_10_method_57_code
def yX8_highs : MethodName := ⟨RX8, "highs", "(III)I"⟩
abbrev cX8_nodes1 : ByteArray := prog_10_method_58_code
def yX8_nodes1 : MethodName := ⟨RX8, "nodes1", "(I)I"⟩
abbrev cX8_nodes2 : ByteArray := prog_10_method_59_code
def yX8_nodes2 : MethodName := ⟨RX8, "nodes2", "(I)I"⟩
abbrev cX8_nodes3 : ByteArray := prog_10_method_60_code
def yX8_nodes3 : MethodName := ⟨RX8, "nodes3", "(I)I"⟩
abbrev cX8_nodes4 : ByteArray := prog_10_method_61_code
def yX8_nodes4 : MethodName := ⟨RX8, "nodes4", "(I)I"⟩
abbrev cX8_nodes5 : ByteArray := prog_10_method_62_code
def yX8_nodes5 : MethodName := ⟨RX8, "nodes5", "(I)I"⟩
abbrev cX8_nodesOf : ByteArray := prog_10_method_63_code
def yX8_nodesOf : MethodName := ⟨RX8, "nodesOf", "(II)I"⟩
abbrev cX8_more : ByteArray := prog_10_method_64_code
def yX8_more : MethodName := ⟨RX8, "more", "(II)I"⟩
abbrev cX8_deep2 : ByteArray := prog_10_method_65_code
def yX8_deep2 : MethodName := ⟨RX8, "deep2", "(I)I"⟩
abbrev cX8_deep3 : ByteArray := prog_10_method_66_code
def yX8_deep3 : MethodName := ⟨RX8, "deep3", "(I)I"⟩
abbrev cX8_deep4 : ByteArray := prog_10_method_67_code
def yX8_deep4 : MethodName := ⟨RX8, "deep4", "(I)I"⟩
abbrev cX8_deep5 : ByteArray := prog_10_method_68_code
def yX8_deep5 : MethodName := ⟨RX8, "deep5", "(I)I"⟩
abbrev cX8_deepOf : ByteArray := prog_10_method_69_code
def yX8_deepOf : MethodName := ⟨RX8, "deepOf", "(II)I"⟩
abbrev cX8_lowBits : ByteArray := prog_10_method_70_code
def yX8_lowBits : MethodName := ⟨RX8, "lowBits", "()I"⟩
abbrev cX8_highBits : ByteArray := prog_10_method_71_code
def yX8_highBits : MethodName := ⟨RX8, "highBits", "()I"⟩
abbrev cX8_clusterOf : ByteArray := prog_10_method_72_code
def yX8_clusterOf : MethodName := ⟨RX8, "clusterOf", "(II)I"⟩
abbrev cX8_summaryOf : ByteArray := prog_10_method_73_code
def yX8_summaryOf : MethodName := ⟨RX8, "summaryOf", "(I)I"⟩
abbrev cX8_nodesIn : ByteArray := prog_10_method_74_code
def yX8_nodesIn : MethodName := ⟨RX8, "nodesIn", "(I)I"⟩
abbrev cX8_depthIn : ByteArray := prog_10_method_75_code
def yX8_depthIn : MethodName := ⟨RX8, "depthIn", "(I)I"⟩
abbrev cX8_stepsIn : ByteArray := prog_10_method_76_code
def yX8_stepsIn : MethodName := ⟨RX8, "stepsIn", "(III)I"⟩
abbrev cX8_steps : ByteArray := prog_10_method_77_code
def yX8_steps : MethodName := ⟨RX8, "steps", "(II)I"⟩
abbrev cX8_tree : ByteArray := prog_10_method_78_code
def yX8_tree : MethodName := ⟨RX8, "tree", "(II)I"⟩
abbrev cX8_nodeTells : ByteArray := prog_10_method_79_code
def yX8_nodeTells : MethodName := ⟨RX8, "nodeTells", "(III)I"⟩
abbrev cX8_cluster : ByteArray := prog_10_method_80_code
def yX8_cluster : MethodName := ⟨RX8, "cluster", "(III)I"⟩
abbrev cX8_summary : ByteArray := prog_10_method_81_code
def yX8_summary : MethodName := ⟨RX8, "summary", "(II)I"⟩
abbrev cX8_wordMany : ByteArray := prog_10_method_82_code
def yX8_wordMany : MethodName := ⟨RX8, "wordMany", "()I"⟩
abbrev cX8_isWord : ByteArray := prog_10_method_83_code
def yX8_isWord : MethodName := ⟨RX8, "isWord", "(III)Z"⟩
abbrev cX8_wordOf : ByteArray := prog_10_method_84_code
def yX8_wordOf : MethodName := ⟨RX8, "wordOf", "(III)I"⟩
abbrev cX8_word : ByteArray := prog_10_method_85_code
def yX8_word : MethodName := ⟨RX8, "word", "(III)I"⟩
abbrev cX8_bits : ByteArray := prog_10_method_86_code
def yX8_bits : MethodName := ⟨RX8, "bits", "(IIII)I"⟩
abbrev cX8_floatOf : ByteArray := prog_10_method_87_code
def yX8_floatOf : MethodName := ⟨RX8, "floatOf", "(II)I"⟩
abbrev cX8_sumOf : ByteArray := prog_10_method_88_code
def yX8_sumOf : MethodName := ⟨RX8, "sumOf", "(I)I"⟩
abbrev cX8_share : ByteArray := prog_10_method_89_code
def yX8_share : MethodName := ⟨RX8, "share", "(II)I"⟩
abbrev cX8_rank : ByteArray := prog_10_method_90_code
def yX8_rank : MethodName := ⟨RX8, "rank", "(II)I"⟩
abbrev cX8_nth : ByteArray := prog_10_method_91_code
def yX8_nth : MethodName := ⟨RX8, "nth", "(II)I"⟩
abbrev cX8_near : ByteArray := prog_10_method_92_code
def yX8_near : MethodName := ⟨RX8, "near", "(II)I"⟩
abbrev cX8_tell : ByteArray := prog_10_method_93_code
def yX8_tell : MethodName := ⟨RX8, "tell", "(IIII)I"⟩
abbrev cX8_chase : ByteArray := prog_10_method_94_code
def yX8_chase : MethodName := ⟨RX8, "chase", "(IIII)I"⟩
abbrev cX8_meet : ByteArray := prog_10_method_95_code
def yX8_meet : MethodName := ⟨RX8, "meet", "(I)I"⟩
abbrev cX8_isCovered : ByteArray := prog_10_method_96_code
def yX8_isCovered : MethodName := ⟨RX8, "isCovered", "(III)Z"⟩
abbrev cX8_cover : ByteArray := prog_10_method_97_code
def yX8_cover : MethodName := ⟨RX8, "cover", "(III)I"⟩
abbrev cX8_gap : ByteArray := prog_10_method_98_code
def yX8_gap : MethodName := ⟨RX8, "gap", "(II)I"⟩
abbrev cX8_likely : ByteArray := prog_10_method_99_code
def yX8_likely : MethodName := ⟨RX8, "likely", "(IIIII)J"⟩
abbrev cX8_allKeys : ByteArray := prog_10_method_100_code
def yX8_allKeys : MethodName := ⟨RX8, "allKeys", "()I"⟩
abbrev cX8_allNodes : ByteArray := prog_10_method_101_code
def yX8_allNodes : MethodName := ⟨RX8, "allNodes", "()I"⟩
abbrev cX8_drawn : ByteArray := prog_10_method_102_code
def yX8_drawn : MethodName := ⟨RX8, "drawn", "(III)I"⟩
abbrev cX8_image : ByteArray := prog_10_method_103_code
def yX8_image : MethodName := ⟨RX8, "image", "(I)I"⟩
abbrev cX8_restore : ByteArray := prog_10_method_104_code
def yX8_restore : MethodName := ⟨RX8, "restore", "(I)I"⟩
abbrev cX8_kind : ByteArray := prog_10_method_105_code
def yX8_kind : MethodName := ⟨RX8, "kind", "(I)I"⟩
abbrev cX8_isOf : ByteArray := prog_10_method_106_code
def yX8_isOf : MethodName := ⟨RX8, "isOf", "(II)Z"⟩
abbrev cX8_as : ByteArray := prog_10_method_107_code
def yX8_as : MethodName := ⟨RX8, "as", "(II)I"⟩
abbrev cX8_begin : ByteArray := prog_10_method_108_code
def yX8_begin : MethodName := ⟨RX8, "begin", "(I)V"⟩
abbrev cX8_lentSize : ByteArray := prog_10_method_109_code
def yX8_lentSize : MethodName := ⟨RX8, "lentSize", "(I)I"⟩
abbrev cX8_aboveSize : ByteArray := prog_10_method_110_code
def yX8_aboveSize : MethodName := ⟨RX8, "aboveSize", "(I)I"⟩
abbrev cX8_belowSize : ByteArray := prog_10_method_111_code
def yX8_belowSize : MethodName := ⟨RX8, "belowSize", "(I)I"⟩
abbrev cX8_sizeOf : ByteArray := prog_10_method_112_code
def yX8_sizeOf : MethodName := ⟨RX8, "sizeOf", "(I)I"⟩
abbrev cX8_lentMark : ByteArray := prog_10_method_113_code
def yX8_lentMark : MethodName := ⟨RX8, "lentMark", "(I)I"⟩
abbrev cX8_plainMark : ByteArray := prog_10_method_114_code
def yX8_plainMark : MethodName := ⟨RX8, "plainMark", "(I)I"⟩
abbrev cX8_aboveMark : ByteArray := prog_10_method_115_code
def yX8_aboveMark : MethodName := ⟨RX8, "aboveMark", "(I)I"⟩
abbrev cX8_belowMark : ByteArray := prog_10_method_116_code
def yX8_belowMark : MethodName := ⟨RX8, "belowMark", "(I)I"⟩
abbrev cX8_ask : ByteArray := prog_10_method_117_code
def yX8_ask : MethodName := ⟨RX8, "ask", "(II)I"⟩
abbrev cX8_trace : ByteArray := prog_10_method_118_code
def yX8_trace : MethodName := ⟨RX8, "trace", "(I)I"⟩
abbrev cX8_count : ByteArray := prog_10_method_119_code
def yX8_count : MethodName := ⟨RX8, "count", "(I)I"⟩
abbrev cX8_status : ByteArray := prog_10_method_120_code
def yX8_status : MethodName := ⟨RX8, "status", "()I"⟩
def RJx8e188 : String := "java/lang/Cloneable"
def TJx8e188 : u_T := fun k => match k with
  | _ => ("", "", "", false)
def tyJx8e188 : Nat → FieldType := fun k => match k with
  | _ => .int
abbrev wsJx8e1880 : List Cond := u_ws RJx8e188 TJx8e188 0
theorem nmJx8e188 : ∀ a, a < 0 → ∀ b, b < 0 → a ≠ b → (TJx8e188 a).2.1 ≠ (TJx8e188 b).2.1 := by decide +kernel
theorem tyJx8e188_ok : ∀ k, k < 0 → parseFieldDescriptor (TJx8e188 k).2.2.1 = some (tyJx8e188 k) := by decide +kernel
def RJ6 : String := "java/lang/Integer"
def TJ6 : u_T := fun k => match k with
  | _ => ("", "", "", false)
def tyJ6 : Nat → FieldType := fun k => match k with
  | _ => .int
abbrev wsJ60 : List Cond := u_ws RJ6 TJ6 0
theorem nmJ6 : ∀ a, a < 0 → ∀ b, b < 0 → a ≠ b → (TJ6 a).2.1 ≠ (TJ6 b).2.1 := by decide +kernel
theorem tyJ6_ok : ∀ k, k < 0 → parseFieldDescriptor (TJ6 k).2.2.1 = some (tyJ6 k) := by decide +kernel
abbrev cJ6_numberOfLeadingZeros_0f7a4 : ByteArray := prog_12_method_47_code
def yJ6_numberOfLeadingZeros_0f7a4 : MethodName := ⟨RJ6, "numberOfLeadingZeros", "(I)I"⟩
abbrev cJ6_numberOfTrailingZeros_0f7a4 : ByteArray := prog_12_method_48_code
def yJ6_numberOfTrailingZeros_0f7a4 : MethodName := ⟨RJ6, "numberOfTrailingZeros", "(I)I"⟩
abbrev cJ6_bitCount_0f7a4 : ByteArray := prog_12_method_49_code
def yJ6_bitCount_0f7a4 : MethodName := ⟨RJ6, "bitCount", "(I)I"⟩
def RJ9 : String := "java/lang/Math"
def TJ9 : u_T := fun k => match k with
  | _ => ("", "", "", false)
def tyJ9 : Nat → FieldType := fun k => match k with
  | _ => .int
abbrev wsJ90 : List Cond := u_ws RJ9 TJ9 0
theorem nmJ9 : ∀ a, a < 0 → ∀ b, b < 0 → a ≠ b → (TJ9 a).2.1 ≠ (TJ9 b).2.1 := by decide +kernel
theorem tyJ9_ok : ∀ k, k < 0 → parseFieldDescriptor (TJ9 k).2.2.1 = some (tyJ9 k) := by decide +kernel
abbrev cJ9_max_7cf53 : ByteArray := prog_13_method_65_code
def yJ9_max_7cf53 : MethodName := ⟨RJ9, "max", "(II)I"⟩
abbrev cJ9_max_f86c9 : ByteArray := prog_13_method_66_code
def yJ9_max_f86c9 : MethodName := ⟨RJ9, "max", "(JJ)J"⟩
abbrev cJ9_min_7cf53 : ByteArray := prog_13_method_69_code
def yJ9_min_7cf53 : MethodName := ⟨RJ9, "min", "(II)I"⟩
def RJ10 : String := "java/lang/System"
def TJ10 : u_T := fun k => match k with
  | _ => ("", "", "", false)
def tyJ10 : Nat → FieldType := fun k => match k with
  | _ => .int
abbrev wsJ100 : List Cond := u_ws RJ10 TJ10 0
theorem nmJ10 : ∀ a, a < 0 → ∀ b, b < 0 → a ≠ b → (TJ10 a).2.1 ≠ (TJ10 b).2.1 := by decide +kernel
theorem tyJ10_ok : ∀ k, k < 0 → parseFieldDescriptor (TJ10 k).2.2.1 = some (tyJ10 k) := by decide +kernel
def RL : String := "NextKeysLaw"
abbrev cL_law : ByteArray := code
def yL_law : MethodName := ⟨RL, "law", "([I)Z"⟩
abbrev vwCl : List vw_C := [(RX0, TX0, 4), (RX1, TX1, 2), (RX2, TX2, 6), (RX4, TX4, 2), (RX5, TX5, 4), (RX6, TX6, 7), (RX7, TX7, 8), (RX8, TX8, 15)]
end
section
/-! Abstract heaps: what is at an address, if anything; nk_J: from here the method comes to an end with an answer and a heap of a kind. -/
abbrev nk_AC : Type := (FieldType × vp_A) ⊕ (Nat × List Value)
abbrev nk_AH : Type := Nat → Option nk_AC
abbrev nk_MI : Type := MethodName × ByteArray × Nat × Option FieldType
abbrev nk_EG : Type := va_G × (FieldType → ClassId) × (Nat → Option (Nat × (Nat → Int32))) × (Nat → Nat)
def nk_e (dA : FieldType → ClassId) (e : nk_AC) : va_E := match e with
  | .inl q => .inl (dA q.1, q.2)
  | .inr o => .inr o
def nk_P (G : nk_EG) (H : nk_AH) (Hc : Heap) : Prop := ∀ (a : Nat) (e : nk_AC), H a = some e → va_at G.1 vwCl (a, nk_e G.2.1 e) Hc
abbrev nk_Ty : List FieldType := [.int, .boolean, .object RX2, .object RX4, .object RX5, .array .int]
abbrev nk_Ts (G : nk_EG) : List (ClassId × FieldType) := nk_Ty.map (fun t => (G.2.1 t, t))
def nk_K (G : nk_EG) (s : State) : Prop := va_K G.1 vwCl (nk_Ts G) s
abbrev nk_sZ : List (String × String × String) := [(RX7, "PARENT", "[I"), (RX1, "SIZE_BODY", "[I"), (RX1, "MARK_BODY", "[I")]
def nk_Z (G : nk_EG) (A : Nat → Prop) (s : State) (Hc : Heap) : Prop := (∀ (t n : Nat) (f : Nat → Int32), G.2.2.1 t = some (n, f) → va_T .int t n (fun j => .int (f j)) A s Hc) ∧ ∀ (k : Nat) (q : String × String × String), nk_sZ[k]? = some q → va_Z q.1 q.2.1 q.2.2 (.ref (G.2.2.2 k)) A s Hc
abbrev nk_Nm : List (String × Nat × MethodName) := [(RX7, 17, yX6_init), (RX7, 30, yX0_init), (RX7, 37, yX1_init), (RX6, 77, yX7_within), (RX5, 30, yX7_within), (RX2, 52, yX7_within), (RX2, 137, yX3_stepsAbove), (RX2, 131, yX3_nodesOf), (RX2, 134, yX3_depthOf), (RX1, 23, yX7_within)]
def nk_N (s : State) : Prop := (∀ q ∈ nk_Nm, va_Nw (.methodLinkNest q.1 q.2.1 q.2.2 RX7) s) ∧ va_Nw (.castable "[I" "java/lang/Cloneable") s ∧ va_AO RX2 s ∧ va_AO RX4 s ∧ va_AO RX5 s ∧ va_Nw (.arrayOver (.array .int)) s
def nk_A (H : nk_AH) (sz : Nat) : Nat → Prop := fun q => (H q).isSome = true ∨ sz ≤ q
abbrev nk_tw : List Cond := lw_tbl.filter goodWord
def nk_u (H : nk_AH) (a : Nat) (e : nk_AC) : nk_AH := fun b => if b = a then some e else H b
theorem nk_u_self (H : nk_AH) (a : Nat) (e : nk_AC) : nk_u H a e a = some e := if_pos rfl
theorem nk_u_ne {H : nk_AH} {a b : Nat} {e : nk_AC} (h : b ≠ a) : nk_u H a e b = H b := if_neg h
theorem nk_u_dom {H : nk_AH} {a b : Nat} {e : nk_AC} (h : (nk_u H a e b).isSome = true) : b = a ∨ (H b).isSome = true := by
  by_cases q : b = a
  · exact Or.inl q
  · rw [nk_u_ne q] at h; exact Or.inr h
/-- the locals: of size n; those of L are held -/
def nk_L (ls : Array Slot) (n : Nat) (L : List (Option Value)) : Prop := ls.size = n ∧ L.length = n ∧ lv_wf ls ∧ ∀ (i : Nat) (v : Value), L[i]? = some (some v) → ls[i]? = some (.val v)
def nk_al (L : List (Option Value)) : List (Nat × Value) := L.zipIdx.filterMap (fun q => q.1.map (fun v => (q.2, v)))
theorem nk_al_mem {L : List (Option Value)} {i : Nat} {v : Value} : (i, v) ∈ nk_al L ↔ L[i]? = some (some v) := by
  unfold nk_al
  rw [List.mem_filterMap]
  constructor
  · rintro ⟨⟨o, j⟩, h1, h2⟩
    rw [List.mem_zipIdx_iff_getElem?] at h1
    cases o with
    | none => cases h2
    | some w => cases h2; exact h1
  · intro h
    exact ⟨(some v, i), List.mem_zipIdx_iff_getElem?.mpr h, rfl⟩
theorem nk_L.has {ls : Array Slot} {n : Nat} {L : List (Option Value)} (h : nk_L ls n L) : lv_has ls n (nk_al L) := ⟨h.1, h.2.2.1, fun q hq => h.2.2.2 q.1 q.2 (nk_al_mem.mp hq)⟩
theorem nk_L.at {ls : Array Slot} {n : Nat} {L : List (Option Value)} (h : nk_L ls n L) {i : Nat} {v : Value} (hi : L[i]? = some (some v)) : ls[i]? = some (.val v) := h.2.2.2 i v hi
/-- a value of one slot is stored at i: a long that began just before it is gone -/
def nk_c (L : List (Option Value)) (i : Nat) : List (Option Value) := match i with
  | 0 => L
  | j + 1 => match L[j]? with
    | some (some (.long _)) => L.set j none
    | some (some (.double _)) => L.set j none
    | _ => L
def nk_s1 (L : List (Option Value)) (i : Nat) (v : Value) : List (Option Value) := (nk_c L i).set i (some v)
def nk_s2 (L : List (Option Value)) (i : Nat) (v : Value) : List (Option Value) := ((nk_c L i).set i (some v)).set (i + 1) none
theorem nk_c_len (L : List (Option Value)) (i : Nat) : (nk_c L i).length = L.length := by
  unfold nk_c
  split
  · rfl
  · split <;> simp
theorem nk_c_at {L : List (Option Value)} {i j : Nat} {w : Value} (h : (nk_c L i)[j]? = some (some w)) : L[j]? = some (some w) ∧ ¬ (j + 1 = i ∧ w.category = 2) := by
  unfold nk_c at h
  split at h
  · exact ⟨h, fun q => by omega⟩
  · rename_i k
    have key : (L.set k none)[j]? = some (some w) → L[j]? = some (some w) ∧ ¬ (j + 1 = k + 1 ∧ w.category = 2) := by
      intro h
      by_cases q : k = j
      · subst q
        rw [List.getElem?_set] at h
        simp at h
      · rw [List.getElem?_set_ne q] at h
        exact ⟨h, fun z => q (by omega)⟩
    split at h
    · exact key h
    · exact key h
    · rename_i h1 h2
      refine ⟨h, fun ⟨q1, q2⟩ => ?_⟩
      obtain rfl : j = k := by omega
      cases w with
      | long x => exact h1 x h
      | double x => exact h2 x h
      | _ => cases q2
theorem nk_s1_at {L : List (Option Value)} {i j : Nat} {v w : Value} (h : (nk_s1 L i v)[j]? = some (some w)) : (j = i ∧ w = v) ∨ (j ≠ i ∧ L[j]? = some (some w) ∧ ¬ (j + 1 = i ∧ w.category = 2)) := by
  unfold nk_s1 at h
  by_cases q : i = j
  · subst q
    rw [List.getElem?_set] at h
    simp at h
    exact Or.inl ⟨rfl, h.2.symm⟩
  · rw [List.getElem?_set_ne q] at h
    exact Or.inr ⟨fun z => q z.symm, nk_c_at h⟩
theorem nk_s2_at {L : List (Option Value)} {i j : Nat} {v w : Value} (h : (nk_s2 L i v)[j]? = some (some w)) : (j = i ∧ w = v) ∨ (j ≠ i ∧ j ≠ i + 1 ∧ L[j]? = some (some w) ∧ ¬ (j + 1 = i ∧ w.category = 2)) := by
  have h' : ((nk_s1 L i v).set (i + 1) none)[j]? = some (some w) := h
  by_cases q : i + 1 = j
  · subst q
    rw [List.getElem?_set] at h'
    simp at h'
  · rw [List.getElem?_set_ne q] at h'
    rcases nk_s1_at h' with a | ⟨a, b, c⟩
    · exact Or.inl a
    · exact Or.inr ⟨a, fun z => q z.symm, b, c⟩
theorem nk_L.s1 {ls' : Array Slot} {n i : Nat} {L : List (Option Value)} {v : Value} (hL : L.length = n) (h : lv_has ls' n ((i, v) :: (nk_al L).filter (fun q => !(q.1 == i) && !(q.1 + 1 == i && q.2.category == 2)))) : nk_L ls' n (nk_s1 L i v) := by
  refine ⟨h.1, by rw [nk_s1, List.length_set, nk_c_len]; exact hL, h.2.1, fun j w hj => ?_⟩
  rcases nk_s1_at hj with ⟨rfl, rfl⟩ | ⟨a, b, c⟩
  · exact h.2.2 _ List.mem_cons_self
  · refine h.2.2 (j, w) (List.mem_cons_of_mem _ (List.mem_filter.mpr ⟨nk_al_mem.mpr b, ?_⟩))
    simp only [Bool.and_eq_true, Bool.not_eq_true', beq_eq_false_iff_ne, ne_eq, Bool.and_eq_false_iff]
    refine ⟨a, ?_⟩
    by_cases z : j + 1 = i
    · exact Or.inr (fun q => c ⟨z, q⟩)
    · exact Or.inl z
theorem nk_L.s2 {ls' : Array Slot} {n i : Nat} {L : List (Option Value)} {v : Value} (hL : L.length = n) (h : lv_has ls' n ((i, v) :: (nk_al L).filter (fun q => !(q.1 == i) && (!(q.1 == i + 1) && !(q.1 + 1 == i && q.2.category == 2))))) : nk_L ls' n (nk_s2 L i v) := by
  refine ⟨h.1, by rw [nk_s2, List.length_set, List.length_set, nk_c_len]; exact hL, h.2.1, fun j w hj => ?_⟩
  rcases nk_s2_at hj with ⟨rfl, rfl⟩ | ⟨a, a2, b, c⟩
  · exact h.2.2 _ List.mem_cons_self
  · refine h.2.2 (j, w) (List.mem_cons_of_mem _ (List.mem_filter.mpr ⟨nk_al_mem.mpr b, ?_⟩))
    simp only [Bool.and_eq_true, Bool.not_eq_true', beq_eq_false_iff_ne, ne_eq, Bool.and_eq_false_iff]
    refine ⟨a, a2, ?_⟩
    by_cases z : j + 1 = i
    · exact Or.inr (fun q => c ⟨z, q⟩)
    · exact Or.inl z
/-- which instruction returns r from a method that returns ret -/
def nk_rO (ret : Option FieldType) (ins : Instr) (r : Option Value) : Prop :=
  (ret = none ∧ r = none ∧ ins = .return_) ∨ (∃ (ty : FieldType) (v : Int32), ret = some ty ∧ r = some (.int v) ∧ narrow ty (.int v) = .int v ∧ ins = .ireturn) ∨
  (∃ v : Int64, ret = some .long ∧ r = some (.long v) ∧ ins = .lreturn) ∨ (∃ (rt : FieldType) (v : Value), ret = some rt ∧ ((∃ n, rt = .object n) ∨ ∃ t, rt = .array t) ∧ (v = .null ∨ ∃ a, v = .ref a) ∧ r = some v ∧ ins = .areturn)
/-- the context of a method's walk -/
def nk_C (G : nk_EG) (μ : nk_MI) (d : Nat) (Φ : Option Value → nk_AH → Prop) (p : Program) (l : Launch) (e : Env) (R : Room) (s : State) (m : MethodId) (args : Array Value) (below : List Frame) (meth : Method) (c : Code) (mc ms : Nat) (A : Nat → Prop) (Q : State → Prop) : Prop :=
  p.tables.exec = Jvm.exec ∧ c.code = μ.2.1 ∧ c.maxLocals = μ.2.2.1 ∧ s.vm.findClass μ.1.cls = some m.cls ∧ meth.name = μ.1.name ∧ (∀ w ∈ nk_tw, w.before args s = true) ∧ (d ≤ R.frames ∧ 64 * d ≤ R.locals ∧ mc ≤ R.cells ∧ ms ≤ R.slots) ∧ nk_K G s ∧ nk_Z G A s s.heap ∧ nk_N s ∧ (∀ q : Nat, s.heap.size ≤ q → A q) ∧
  ∀ (pc : Nat) (ls : Array Slot) (Hc : Heap) (locs : List Loc) (ins : Instr) (r : Option Value) (H' : nk_AH), decode μ.2.1 pc = .ok (ins, 1) → nk_rO μ.2.2.2 ins r → Φ r H' → nk_P G H' Hc → (∀ a : Nat, (H' a).isSome = true → A a) → va_S A s.heap Hc locs → W p l e R s m args below meth c Hc locs mc ms Q (F0 m pc ls r.toList)
def nk_J (G : nk_EG) (μ : nk_MI) (d : Nat) (Φ : Option Value → nk_AH → Prop) (bc bs pc : Nat) (L : List (Option Value)) (st : List Value) (H : nk_AH) : Prop :=
  ∀ (p : Program) (l : Launch) (e : Env) (R : Room) (s : State) (m : MethodId) (args : Array Value) (below : List Frame) (meth : Method) (c : Code) (mc ms : Nat) (A : Nat → Prop) (Q : State → Prop), nk_C G μ d Φ p l e R s m args below meth c mc ms A Q →
  ∀ (Hc : Heap) (locs : List Loc) (cells slots : Nat) (ls : Array Slot), nk_L ls μ.2.2.1 L → nk_P G H Hc → (∀ a : Nat, (H a).isSome = true → A a) → va_S A s.heap Hc locs → cells + bc ≤ mc → slots + bs ≤ ms →
  W p l e R s m args below meth c Hc locs cells slots Q (F0 m pc ls st)
section NKR
variable {G : nk_EG} {μ : nk_MI} {d : Nat} {Φ : Option Value → nk_AH → Prop} {bc bs pc : Nat} {L : List (Option Value)} {st : List Value} {H : nk_AH}
theorem nk_iconst {n : Int} {v : Int32} (hd : decode μ.2.1 pc = .ok (.iconst n, 1)) (hv : Int32.ofInt n = v) (k : nk_J G μ d Φ bc bs (pc + 1) L (.int v :: st) H) : nk_J G μ d Φ bc bs pc L (st) H := by
  intro p l e R s m args below meth c mc ms A Q C Hc locs cells slots ls hl hP hA hS h1 h2
  exact lv_iconst C.1 C.2.1 hd hv (k _ _ _ _ _ _ _ _ _ _ _ _ _ _ C _ _ _ _ _ hl hP hA hS h1 h2)
theorem nk_bipush {n : Int} {v : Int32} (hd : decode μ.2.1 pc = .ok (.bipush n, 2)) (hv : (Int8.ofInt n).toInt32 = v) (k : nk_J G μ d Φ bc bs (pc + 2) L (.int v :: st) H) : nk_J G μ d Φ bc bs pc L (st) H := by
  intro p l e R s m args below meth c mc ms A Q C Hc locs cells slots ls hl hP hA hS h1 h2
  exact lv_bipush C.1 C.2.1 hd hv (k _ _ _ _ _ _ _ _ _ _ _ _ _ _ C _ _ _ _ _ hl hP hA hS h1 h2)
theorem nk_sipush {n : Int} {v : Int32} (hd : decode μ.2.1 pc = .ok (.sipush n, 3)) (hv : (Int16.ofInt n).toInt32 = v) (k : nk_J G μ d Φ bc bs (pc + 3) L (.int v :: st) H) : nk_J G μ d Φ bc bs pc L (st) H := by
  intro p l e R s m args below meth c mc ms A Q C Hc locs cells slots ls hl hP hA hS h1 h2
  exact lv_sipush C.1 C.2.1 hd hv (k _ _ _ _ _ _ _ _ _ _ _ _ _ _ C _ _ _ _ _ hl hP hA hS h1 h2)
theorem nk_lconst {n : Fin 2} {v : Int64} (hd : decode μ.2.1 pc = .ok (.lconst n, 1)) (hv : Int64.ofNat (n : Nat) = v) (k : nk_J G μ d Φ bc bs (pc + 1) L (.long v :: st) H) : nk_J G μ d Φ bc bs pc L (st) H := by
  intro p l e R s m args below meth c mc ms A Q C Hc locs cells slots ls hl hP hA hS h1 h2
  exact lv_lconst C.1 C.2.1 hd hv (k _ _ _ _ _ _ _ _ _ _ _ _ _ _ C _ _ _ _ _ hl hP hA hS h1 h2)
theorem nk_null  (hd : decode μ.2.1 pc = .ok (.aconst_null, 1))  (k : nk_J G μ d Φ bc bs (pc + 1) L (.null :: st) H) : nk_J G μ d Φ bc bs pc L (st) H := by
  intro p l e R s m args below meth c mc ms A Q C Hc locs cells slots ls hl hP hA hS h1 h2
  exact lv_null C.1 C.2.1 hd  (k _ _ _ _ _ _ _ _ _ _ _ _ _ _ C _ _ _ _ _ hl hP hA hS h1 h2)
theorem nk_iload_n {k0 : Fin 4} {i : Nat} {x : Int32} (hd : decode μ.2.1 pc = .ok (.iload_n k0, 1)) (hi : (k0 : Nat) = i) (hx : L[i]? = some (some (.int x))) (k : nk_J G μ d Φ bc bs (pc + 1) L (.int x :: st) H) : nk_J G μ d Φ bc bs pc L (st) H := by
  intro p l e R s m args below meth c mc ms A Q C Hc locs cells slots ls hl hP hA hS h1 h2
  exact lv_iload_n C.1 C.2.1 hd hi (hl.at hx) (k _ _ _ _ _ _ _ _ _ _ _ _ _ _ C _ _ _ _ _ hl hP hA hS h1 h2)
theorem nk_lload_n {k0 : Fin 4} {i : Nat} {x : Int64} (hd : decode μ.2.1 pc = .ok (.lload_n k0, 1)) (hi : (k0 : Nat) = i) (hx : L[i]? = some (some (.long x))) (k : nk_J G μ d Φ bc bs (pc + 1) L (.long x :: st) H) : nk_J G μ d Φ bc bs pc L (st) H := by
  intro p l e R s m args below meth c mc ms A Q C Hc locs cells slots ls hl hP hA hS h1 h2
  exact lv_lload_n C.1 C.2.1 hd hi (hl.at hx) (k _ _ _ _ _ _ _ _ _ _ _ _ _ _ C _ _ _ _ _ hl hP hA hS h1 h2)
theorem nk_aload_n {k0 : Fin 4} {i : Nat} {x : Nat} (hd : decode μ.2.1 pc = .ok (.aload_n k0, 1)) (hi : (k0 : Nat) = i) (hx : L[i]? = some (some (.ref x))) (k : nk_J G μ d Φ bc bs (pc + 1) L (.ref x :: st) H) : nk_J G μ d Φ bc bs pc L (st) H := by
  intro p l e R s m args below meth c mc ms A Q C Hc locs cells slots ls hl hP hA hS h1 h2
  exact lv_aload_n C.1 C.2.1 hd hi (hl.at hx) (k _ _ _ _ _ _ _ _ _ _ _ _ _ _ C _ _ _ _ _ hl hP hA hS h1 h2)
theorem nk_iload {i : Nat} {x : Int32} (hd : decode μ.2.1 pc = .ok (.iload i, 2)) (hx : L[i]? = some (some (.int x))) (k : nk_J G μ d Φ bc bs (pc + 2) L (.int x :: st) H) : nk_J G μ d Φ bc bs pc L (st) H := by
  intro p l e R s m args below meth c mc ms A Q C Hc locs cells slots ls hl hP hA hS h1 h2
  exact lv_iload C.1 C.2.1 hd (hl.at hx) (k _ _ _ _ _ _ _ _ _ _ _ _ _ _ C _ _ _ _ _ hl hP hA hS h1 h2)
theorem nk_lload {i : Nat} {x : Int64} (hd : decode μ.2.1 pc = .ok (.lload i, 2)) (hx : L[i]? = some (some (.long x))) (k : nk_J G μ d Φ bc bs (pc + 2) L (.long x :: st) H) : nk_J G μ d Φ bc bs pc L (st) H := by
  intro p l e R s m args below meth c mc ms A Q C Hc locs cells slots ls hl hP hA hS h1 h2
  exact lv_lload C.1 C.2.1 hd (hl.at hx) (k _ _ _ _ _ _ _ _ _ _ _ _ _ _ C _ _ _ _ _ hl hP hA hS h1 h2)
theorem nk_aload {i : Nat} {x : Nat} (hd : decode μ.2.1 pc = .ok (.aload i, 2)) (hx : L[i]? = some (some (.ref x))) (k : nk_J G μ d Φ bc bs (pc + 2) L (.ref x :: st) H) : nk_J G μ d Φ bc bs pc L (st) H := by
  intro p l e R s m args below meth c mc ms A Q C Hc locs cells slots ls hl hP hA hS h1 h2
  exact lv_aload C.1 C.2.1 hd (hl.at hx) (k _ _ _ _ _ _ _ _ _ _ _ _ _ _ C _ _ _ _ _ hl hP hA hS h1 h2)
theorem nk_aload_nN {k0 : Fin 4} {i : Nat} (hd : decode μ.2.1 pc = .ok (.aload_n k0, 1)) (hi : (k0 : Nat) = i) (hx : L[i]? = some (some .null)) (k : nk_J G μ d Φ bc bs (pc + 1) L (.null :: st) H) : nk_J G μ d Φ bc bs pc L (st) H := by
  intro p l e R s m args below meth c mc ms A Q C Hc locs cells slots ls hl hP hA hS h1 h2
  exact lv_aload_nN C.1 C.2.1 hd hi (hl.at hx) (k _ _ _ _ _ _ _ _ _ _ _ _ _ _ C _ _ _ _ _ hl hP hA hS h1 h2)
theorem nk_aloadN {i : Nat} (hd : decode μ.2.1 pc = .ok (.aload i, 2)) (hx : L[i]? = some (some .null)) (k : nk_J G μ d Φ bc bs (pc + 2) L (.null :: st) H) : nk_J G μ d Φ bc bs pc L (st) H := by
  intro p l e R s m args below meth c mc ms A Q C Hc locs cells slots ls hl hP hA hS h1 h2
  exact lv_aloadN C.1 C.2.1 hd (hl.at hx) (k _ _ _ _ _ _ _ _ _ _ _ _ _ _ C _ _ _ _ _ hl hP hA hS h1 h2)
theorem nk_istore_n {k0 : Fin 4} {i : Nat} {x : Int32} {L' : List (Option Value)} (hd : decode μ.2.1 pc = .ok (.istore_n k0, 1)) (hi : (k0 : Nat) = i) (hn : i < μ.2.2.1) (hL : nk_s1 L i (.int x) = L') (k : nk_J G μ d Φ bc bs (pc + 1) L' st H) : nk_J G μ d Φ bc bs pc L (.int x :: st) H := by
  intro p l e R s m args below meth c mc ms A Q C Hc locs cells slots ls hl hP hA hS h1 h2
  subst hL
  exact lv_istore_n C.1 C.2.1 hd hi hl.has hn rfl (fun ls' hl' => k _ _ _ _ _ _ _ _ _ _ _ _ _ _ C _ _ _ _ _ (nk_L.s1 hl.2.1 hl') hP hA hS h1 h2)
theorem nk_istore {i : Nat} {x : Int32} {L' : List (Option Value)} (hd : decode μ.2.1 pc = .ok (.istore i, 2))  (hn : i < μ.2.2.1) (hL : nk_s1 L i (.int x) = L') (k : nk_J G μ d Φ bc bs (pc + 2) L' st H) : nk_J G μ d Φ bc bs pc L (.int x :: st) H := by
  intro p l e R s m args below meth c mc ms A Q C Hc locs cells slots ls hl hP hA hS h1 h2
  subst hL
  exact lv_istore C.1 C.2.1 hd  hl.has hn rfl (fun ls' hl' => k _ _ _ _ _ _ _ _ _ _ _ _ _ _ C _ _ _ _ _ (nk_L.s1 hl.2.1 hl') hP hA hS h1 h2)
theorem nk_lstore_n {k0 : Fin 4} {i : Nat} {x : Int64} {L' : List (Option Value)} (hd : decode μ.2.1 pc = .ok (.lstore_n k0, 1)) (hi : (k0 : Nat) = i) (hn : i + 1 < μ.2.2.1) (hL : nk_s2 L i (.long x) = L') (k : nk_J G μ d Φ bc bs (pc + 1) L' st H) : nk_J G μ d Φ bc bs pc L (.long x :: st) H := by
  intro p l e R s m args below meth c mc ms A Q C Hc locs cells slots ls hl hP hA hS h1 h2
  subst hL
  exact lv_lstore_n C.1 C.2.1 hd hi hl.has hn rfl (fun ls' hl' => k _ _ _ _ _ _ _ _ _ _ _ _ _ _ C _ _ _ _ _ (nk_L.s2 hl.2.1 hl') hP hA hS h1 h2)
theorem nk_lstore {i : Nat} {x : Int64} {L' : List (Option Value)} (hd : decode μ.2.1 pc = .ok (.lstore i, 2))  (hn : i + 1 < μ.2.2.1) (hL : nk_s2 L i (.long x) = L') (k : nk_J G μ d Φ bc bs (pc + 2) L' st H) : nk_J G μ d Φ bc bs pc L (.long x :: st) H := by
  intro p l e R s m args below meth c mc ms A Q C Hc locs cells slots ls hl hP hA hS h1 h2
  subst hL
  exact lv_lstore C.1 C.2.1 hd  hl.has hn rfl (fun ls' hl' => k _ _ _ _ _ _ _ _ _ _ _ _ _ _ C _ _ _ _ _ (nk_L.s2 hl.2.1 hl') hP hA hS h1 h2)
theorem nk_astore_n {k0 : Fin 4} {i : Nat} {x : Nat} {L' : List (Option Value)} (hd : decode μ.2.1 pc = .ok (.astore_n k0, 1)) (hi : (k0 : Nat) = i) (hn : i < μ.2.2.1) (hL : nk_s1 L i (.ref x) = L') (k : nk_J G μ d Φ bc bs (pc + 1) L' st H) : nk_J G μ d Φ bc bs pc L (.ref x :: st) H := by
  intro p l e R s m args below meth c mc ms A Q C Hc locs cells slots ls hl hP hA hS h1 h2
  subst hL
  exact lv_astore_n C.1 C.2.1 hd hi hl.has hn rfl (fun ls' hl' => k _ _ _ _ _ _ _ _ _ _ _ _ _ _ C _ _ _ _ _ (nk_L.s1 hl.2.1 hl') hP hA hS h1 h2)
theorem nk_astore {i : Nat} {x : Nat} {L' : List (Option Value)} (hd : decode μ.2.1 pc = .ok (.astore i, 2))  (hn : i < μ.2.2.1) (hL : nk_s1 L i (.ref x) = L') (k : nk_J G μ d Φ bc bs (pc + 2) L' st H) : nk_J G μ d Φ bc bs pc L (.ref x :: st) H := by
  intro p l e R s m args below meth c mc ms A Q C Hc locs cells slots ls hl hP hA hS h1 h2
  subst hL
  exact lv_astore C.1 C.2.1 hd  hl.has hn rfl (fun ls' hl' => k _ _ _ _ _ _ _ _ _ _ _ _ _ _ C _ _ _ _ _ (nk_L.s1 hl.2.1 hl') hP hA hS h1 h2)
theorem nk_astore_nN {k0 : Fin 4} {i : Nat} {L' : List (Option Value)} (hd : decode μ.2.1 pc = .ok (.astore_n k0, 1)) (hi : (k0 : Nat) = i) (hn : i < μ.2.2.1) (hL : nk_s1 L i (.null) = L') (k : nk_J G μ d Φ bc bs (pc + 1) L' st H) : nk_J G μ d Φ bc bs pc L (.null :: st) H := by
  intro p l e R s m args below meth c mc ms A Q C Hc locs cells slots ls hl hP hA hS h1 h2
  subst hL
  exact lv_astore_nN C.1 C.2.1 hd hi hl.has hn rfl (fun ls' hl' => k _ _ _ _ _ _ _ _ _ _ _ _ _ _ C _ _ _ _ _ (nk_L.s1 hl.2.1 hl') hP hA hS h1 h2)
theorem nk_astoreN {i : Nat} {L' : List (Option Value)} (hd : decode μ.2.1 pc = .ok (.astore i, 2))  (hn : i < μ.2.2.1) (hL : nk_s1 L i (.null) = L') (k : nk_J G μ d Φ bc bs (pc + 2) L' st H) : nk_J G μ d Φ bc bs pc L (.null :: st) H := by
  intro p l e R s m args below meth c mc ms A Q C Hc locs cells slots ls hl hP hA hS h1 h2
  subst hL
  exact lv_astoreN C.1 C.2.1 hd  hl.has hn rfl (fun ls' hl' => k _ _ _ _ _ _ _ _ _ _ _ _ _ _ C _ _ _ _ _ (nk_L.s1 hl.2.1 hl') hP hA hS h1 h2)
theorem nk_iinc {i : Nat} {n : Int} {x v : Int32} {L' : List (Option Value)} (hd : decode μ.2.1 pc = .ok (.iinc i n, 3)) (hx : L[i]? = some (some (.int x))) (hv : x + Int32.ofInt n = v) (hn : i < μ.2.2.1) (hL : nk_s1 L i (.int v) = L') (k : nk_J G μ d Φ bc bs (pc + 3) L' st H) : nk_J G μ d Φ bc bs pc L st H := by
  intro p l e R s m args below meth c mc ms A Q C Hc locs cells slots ls hl hP hA hS h1 h2
  subst hL
  obtain ⟨q, hq⟩ := List.getElem?_of_mem (nk_al_mem.mpr hx)
  exact lv_iinc C.1 C.2.1 hd hl.has hq hv hn rfl (fun ls' hl' => k _ _ _ _ _ _ _ _ _ _ _ _ _ _ C _ _ _ _ _ (nk_L.s1 hl.2.1 hl') hP hA hS h1 h2)
theorem nk_iadd {x y : Int32} (hd : decode μ.2.1 pc = .ok (.iadd, 1))  (k : nk_J G μ d Φ bc bs (pc + 1) L (.int (x + y) :: st) H) : nk_J G μ d Φ bc bs pc L (.int y :: .int x :: st) H := by
  intro p l e R s m args below meth c mc ms A Q C Hc locs cells slots ls hl hP hA hS h1 h2
  exact lv_iadd C.1 C.2.1 hd  (k _ _ _ _ _ _ _ _ _ _ _ _ _ _ C _ _ _ _ _ hl hP hA hS h1 h2)
theorem nk_isub {x y : Int32} (hd : decode μ.2.1 pc = .ok (.isub, 1))  (k : nk_J G μ d Φ bc bs (pc + 1) L (.int (x - y) :: st) H) : nk_J G μ d Φ bc bs pc L (.int y :: .int x :: st) H := by
  intro p l e R s m args below meth c mc ms A Q C Hc locs cells slots ls hl hP hA hS h1 h2
  exact lv_isub C.1 C.2.1 hd  (k _ _ _ _ _ _ _ _ _ _ _ _ _ _ C _ _ _ _ _ hl hP hA hS h1 h2)
theorem nk_imul {x y : Int32} (hd : decode μ.2.1 pc = .ok (.imul, 1))  (k : nk_J G μ d Φ bc bs (pc + 1) L (.int (x * y) :: st) H) : nk_J G μ d Φ bc bs pc L (.int y :: .int x :: st) H := by
  intro p l e R s m args below meth c mc ms A Q C Hc locs cells slots ls hl hP hA hS h1 h2
  exact lv_imul C.1 C.2.1 hd  (k _ _ _ _ _ _ _ _ _ _ _ _ _ _ C _ _ _ _ _ hl hP hA hS h1 h2)
theorem nk_iand {x y : Int32} (hd : decode μ.2.1 pc = .ok (.iand, 1))  (k : nk_J G μ d Φ bc bs (pc + 1) L (.int (x &&& y) :: st) H) : nk_J G μ d Φ bc bs pc L (.int y :: .int x :: st) H := by
  intro p l e R s m args below meth c mc ms A Q C Hc locs cells slots ls hl hP hA hS h1 h2
  exact lv_iand C.1 C.2.1 hd  (k _ _ _ _ _ _ _ _ _ _ _ _ _ _ C _ _ _ _ _ hl hP hA hS h1 h2)
theorem nk_ior {x y : Int32} (hd : decode μ.2.1 pc = .ok (.ior, 1))  (k : nk_J G μ d Φ bc bs (pc + 1) L (.int (x ||| y) :: st) H) : nk_J G μ d Φ bc bs pc L (.int y :: .int x :: st) H := by
  intro p l e R s m args below meth c mc ms A Q C Hc locs cells slots ls hl hP hA hS h1 h2
  exact lv_ior C.1 C.2.1 hd  (k _ _ _ _ _ _ _ _ _ _ _ _ _ _ C _ _ _ _ _ hl hP hA hS h1 h2)
theorem nk_ixor {x y : Int32} (hd : decode μ.2.1 pc = .ok (.ixor, 1))  (k : nk_J G μ d Φ bc bs (pc + 1) L (.int (x ^^^ y) :: st) H) : nk_J G μ d Φ bc bs pc L (.int y :: .int x :: st) H := by
  intro p l e R s m args below meth c mc ms A Q C Hc locs cells slots ls hl hP hA hS h1 h2
  exact lv_ixor C.1 C.2.1 hd  (k _ _ _ _ _ _ _ _ _ _ _ _ _ _ C _ _ _ _ _ hl hP hA hS h1 h2)
theorem nk_ishl {x y : Int32} (hd : decode μ.2.1 pc = .ok (.ishl, 1))  (k : nk_J G μ d Φ bc bs (pc + 1) L (.int (x <<< (y &&& 31)) :: st) H) : nk_J G μ d Φ bc bs pc L (.int y :: .int x :: st) H := by
  intro p l e R s m args below meth c mc ms A Q C Hc locs cells slots ls hl hP hA hS h1 h2
  exact lv_ishl C.1 C.2.1 hd  (k _ _ _ _ _ _ _ _ _ _ _ _ _ _ C _ _ _ _ _ hl hP hA hS h1 h2)
theorem nk_ishr {x y : Int32} (hd : decode μ.2.1 pc = .ok (.ishr, 1))  (k : nk_J G μ d Φ bc bs (pc + 1) L (.int (x >>> (y &&& 31)) :: st) H) : nk_J G μ d Φ bc bs pc L (.int y :: .int x :: st) H := by
  intro p l e R s m args below meth c mc ms A Q C Hc locs cells slots ls hl hP hA hS h1 h2
  exact lv_ishr C.1 C.2.1 hd  (k _ _ _ _ _ _ _ _ _ _ _ _ _ _ C _ _ _ _ _ hl hP hA hS h1 h2)
theorem nk_idiv {x y : Int32} (hd : decode μ.2.1 pc = .ok (.idiv, 1)) (hne : ¬ y = 0) (k : nk_J G μ d Φ bc bs (pc + 1) L (.int (x / y) :: st) H) : nk_J G μ d Φ bc bs pc L (.int y :: .int x :: st) H := by
  intro p l e R s m args below meth c mc ms A Q C Hc locs cells slots ls hl hP hA hS h1 h2
  exact lv_idiv C.1 C.2.1 hd hne (k _ _ _ _ _ _ _ _ _ _ _ _ _ _ C _ _ _ _ _ hl hP hA hS h1 h2)
theorem nk_irem {x y : Int32} (hd : decode μ.2.1 pc = .ok (.irem, 1)) (hne : ¬ y = 0) (k : nk_J G μ d Φ bc bs (pc + 1) L (.int (x - x / y * y) :: st) H) : nk_J G μ d Φ bc bs pc L (.int y :: .int x :: st) H := by
  intro p l e R s m args below meth c mc ms A Q C Hc locs cells slots ls hl hP hA hS h1 h2
  exact lv_irem C.1 C.2.1 hd hne (k _ _ _ _ _ _ _ _ _ _ _ _ _ _ C _ _ _ _ _ hl hP hA hS h1 h2)
theorem nk_iushr {x y : Int32} (hd : decode μ.2.1 pc = .ok (.iushr, 1))  (k : nk_J G μ d Φ bc bs (pc + 1) L (.int ((x.toUInt32 >>> (y.toUInt32 &&& Int32.toUInt32 31)).toInt32) :: st) H) : nk_J G μ d Φ bc bs pc L (.int y :: .int x :: st) H := by
  intro p l e R s m args below meth c mc ms A Q C Hc locs cells slots ls hl hP hA hS h1 h2
  exact lv_iushr C.1 C.2.1 hd rfl (k _ _ _ _ _ _ _ _ _ _ _ _ _ _ C _ _ _ _ _ hl hP hA hS h1 h2)
theorem nk_ineg {x : Int32} (hd : decode μ.2.1 pc = .ok (.ineg, 1))  (k : nk_J G μ d Φ bc bs (pc + 1) L (.int (-x) :: st) H) : nk_J G μ d Φ bc bs pc L (.int x :: st) H := by
  intro p l e R s m args below meth c mc ms A Q C Hc locs cells slots ls hl hP hA hS h1 h2
  exact lv_ineg C.1 C.2.1 hd  (k _ _ _ _ _ _ _ _ _ _ _ _ _ _ C _ _ _ _ _ hl hP hA hS h1 h2)
theorem nk_ladd {x y : Int64} (hd : decode μ.2.1 pc = .ok (.ladd, 1))  (k : nk_J G μ d Φ bc bs (pc + 1) L (.long (x + y) :: st) H) : nk_J G μ d Φ bc bs pc L (.long y :: .long x :: st) H := by
  intro p l e R s m args below meth c mc ms A Q C Hc locs cells slots ls hl hP hA hS h1 h2
  exact lv_ladd C.1 C.2.1 hd  (k _ _ _ _ _ _ _ _ _ _ _ _ _ _ C _ _ _ _ _ hl hP hA hS h1 h2)
theorem nk_lsub {x y : Int64} (hd : decode μ.2.1 pc = .ok (.lsub, 1))  (k : nk_J G μ d Φ bc bs (pc + 1) L (.long (x - y) :: st) H) : nk_J G μ d Φ bc bs pc L (.long y :: .long x :: st) H := by
  intro p l e R s m args below meth c mc ms A Q C Hc locs cells slots ls hl hP hA hS h1 h2
  exact lv_lsub C.1 C.2.1 hd  (k _ _ _ _ _ _ _ _ _ _ _ _ _ _ C _ _ _ _ _ hl hP hA hS h1 h2)
theorem nk_lmul {x y : Int64} (hd : decode μ.2.1 pc = .ok (.lmul, 1))  (k : nk_J G μ d Φ bc bs (pc + 1) L (.long (x * y) :: st) H) : nk_J G μ d Φ bc bs pc L (.long y :: .long x :: st) H := by
  intro p l e R s m args below meth c mc ms A Q C Hc locs cells slots ls hl hP hA hS h1 h2
  exact lv_lmul C.1 C.2.1 hd  (k _ _ _ _ _ _ _ _ _ _ _ _ _ _ C _ _ _ _ _ hl hP hA hS h1 h2)
theorem nk_land {x y : Int64} (hd : decode μ.2.1 pc = .ok (.land, 1))  (k : nk_J G μ d Φ bc bs (pc + 1) L (.long (x &&& y) :: st) H) : nk_J G μ d Φ bc bs pc L (.long y :: .long x :: st) H := by
  intro p l e R s m args below meth c mc ms A Q C Hc locs cells slots ls hl hP hA hS h1 h2
  exact lv_land C.1 C.2.1 hd  (k _ _ _ _ _ _ _ _ _ _ _ _ _ _ C _ _ _ _ _ hl hP hA hS h1 h2)
theorem nk_lor {x y : Int64} (hd : decode μ.2.1 pc = .ok (.lor, 1))  (k : nk_J G μ d Φ bc bs (pc + 1) L (.long (x ||| y) :: st) H) : nk_J G μ d Φ bc bs pc L (.long y :: .long x :: st) H := by
  intro p l e R s m args below meth c mc ms A Q C Hc locs cells slots ls hl hP hA hS h1 h2
  exact lv_lor C.1 C.2.1 hd  (k _ _ _ _ _ _ _ _ _ _ _ _ _ _ C _ _ _ _ _ hl hP hA hS h1 h2)
theorem nk_ldiv {x y : Int64} (hd : decode μ.2.1 pc = .ok (.ldiv, 1)) (hne : ¬ y = 0) (k : nk_J G μ d Φ bc bs (pc + 1) L (.long (x / y) :: st) H) : nk_J G μ d Φ bc bs pc L (.long y :: .long x :: st) H := by
  intro p l e R s m args below meth c mc ms A Q C Hc locs cells slots ls hl hP hA hS h1 h2
  exact lv_ldiv C.1 C.2.1 hd hne (k _ _ _ _ _ _ _ _ _ _ _ _ _ _ C _ _ _ _ _ hl hP hA hS h1 h2)
theorem nk_lrem {x y : Int64} (hd : decode μ.2.1 pc = .ok (.lrem, 1)) (hne : ¬ y = 0) (k : nk_J G μ d Φ bc bs (pc + 1) L (.long (x - x / y * y) :: st) H) : nk_J G μ d Φ bc bs pc L (.long y :: .long x :: st) H := by
  intro p l e R s m args below meth c mc ms A Q C Hc locs cells slots ls hl hP hA hS h1 h2
  exact lv_lrem C.1 C.2.1 hd hne (k _ _ _ _ _ _ _ _ _ _ _ _ _ _ C _ _ _ _ _ hl hP hA hS h1 h2)
theorem nk_lshl {x : Int64} {y : Int32} (hd : decode μ.2.1 pc = .ok (.lshl, 1))  (k : nk_J G μ d Φ bc bs (pc + 1) L (.long (x <<< (y.toInt64 &&& 63)) :: st) H) : nk_J G μ d Φ bc bs pc L (.int y :: .long x :: st) H := by
  intro p l e R s m args below meth c mc ms A Q C Hc locs cells slots ls hl hP hA hS h1 h2
  exact lv_lshl C.1 C.2.1 hd rfl (k _ _ _ _ _ _ _ _ _ _ _ _ _ _ C _ _ _ _ _ hl hP hA hS h1 h2)
theorem nk_i2l {x : Int32} (hd : decode μ.2.1 pc = .ok (.i2l, 1))  (k : nk_J G μ d Φ bc bs (pc + 1) L (.long x.toInt64 :: st) H) : nk_J G μ d Φ bc bs pc L (.int x :: st) H := by
  intro p l e R s m args below meth c mc ms A Q C Hc locs cells slots ls hl hP hA hS h1 h2
  exact lv_i2l C.1 C.2.1 hd rfl (k _ _ _ _ _ _ _ _ _ _ _ _ _ _ C _ _ _ _ _ hl hP hA hS h1 h2)
theorem nk_l2i {x : Int64} (hd : decode μ.2.1 pc = .ok (.l2i, 1))  (k : nk_J G μ d Φ bc bs (pc + 1) L (.int x.toInt32 :: st) H) : nk_J G μ d Φ bc bs pc L (.long x :: st) H := by
  intro p l e R s m args below meth c mc ms A Q C Hc locs cells slots ls hl hP hA hS h1 h2
  exact lv_l2i C.1 C.2.1 hd rfl (k _ _ _ _ _ _ _ _ _ _ _ _ _ _ C _ _ _ _ _ hl hP hA hS h1 h2)
theorem nk_i2b {x : Int32} (hd : decode μ.2.1 pc = .ok (.i2b, 1))  (k : nk_J G μ d Φ bc bs (pc + 1) L (.int x.toInt8.toInt32 :: st) H) : nk_J G μ d Φ bc bs pc L (.int x :: st) H := by
  intro p l e R s m args below meth c mc ms A Q C Hc locs cells slots ls hl hP hA hS h1 h2
  exact lv_i2b C.1 C.2.1 hd rfl (k _ _ _ _ _ _ _ _ _ _ _ _ _ _ C _ _ _ _ _ hl hP hA hS h1 h2)
theorem nk_i2s {x : Int32} (hd : decode μ.2.1 pc = .ok (.i2s, 1))  (k : nk_J G μ d Φ bc bs (pc + 1) L (.int x.toInt16.toInt32 :: st) H) : nk_J G μ d Φ bc bs pc L (.int x :: st) H := by
  intro p l e R s m args below meth c mc ms A Q C Hc locs cells slots ls hl hP hA hS h1 h2
  exact lv_i2s C.1 C.2.1 hd rfl (k _ _ _ _ _ _ _ _ _ _ _ _ _ _ C _ _ _ _ _ hl hP hA hS h1 h2)
theorem nk_dup {v : Value} (hd : decode μ.2.1 pc = .ok (.dup, 1)) (hv : v.category = 1) (k : nk_J G μ d Φ bc bs (pc + 1) L (v :: v :: st) H) : nk_J G μ d Φ bc bs pc L (v :: st) H := by
  intro p l e R s m args below meth c mc ms A Q C Hc locs cells slots ls hl hP hA hS h1 h2
  exact lv_dup C.1 C.2.1 hd hv (k _ _ _ _ _ _ _ _ _ _ _ _ _ _ C _ _ _ _ _ hl hP hA hS h1 h2)
theorem nk_pop {v : Value} (hd : decode μ.2.1 pc = .ok (.pop, 1)) (hv : v.category = 1) (k : nk_J G μ d Φ bc bs (pc + 1) L (st) H) : nk_J G μ d Φ bc bs pc L (v :: st) H := by
  intro p l e R s m args below meth c mc ms A Q C Hc locs cells slots ls hl hP hA hS h1 h2
  exact lv_pop C.1 C.2.1 hd hv (k _ _ _ _ _ _ _ _ _ _ _ _ _ _ C _ _ _ _ _ hl hP hA hS h1 h2)
theorem nk_dup2 {v u : Value} (hd : decode μ.2.1 pc = .ok (.dup2, 1)) (hv : v.category = 1) (hu : u.category = 1) (k : nk_J G μ d Φ bc bs (pc + 1) L (v :: u :: v :: u :: st) H) : nk_J G μ d Φ bc bs pc L (v :: u :: st) H := by
  intro p l e R s m args below meth c mc ms A Q C Hc locs cells slots ls hl hP hA hS h1 h2
  exact lv_dup2_11 C.1 C.2.1 hd hv hu (k _ _ _ _ _ _ _ _ _ _ _ _ _ _ C _ _ _ _ _ hl hP hA hS h1 h2)
theorem nk_ifeq {x : Int32} {off : Int} {tgt : Nat} (hd : decode μ.2.1 pc = .ok (.ifCond .eq off, 3)) (ht : (pc : Int) + off = (tgt : Int)) (kt : x = 0 → nk_J G μ d Φ bc bs tgt L st H) (kf : ¬ x = 0 → nk_J G μ d Φ bc bs (pc + 3) L st H) : nk_J G μ d Φ bc bs pc L (.int x :: st) H := by
  intro p l e R s m args below meth c mc ms A Q C Hc locs cells slots ls hl hP hA hS h1 h2
  exact lv_if_eq C.1 C.2.1 hd ht (fun q => kt q _ _ _ _ _ _ _ _ _ _ _ _ _ _ C _ _ _ _ _ hl hP hA hS h1 h2) (fun q => kf q _ _ _ _ _ _ _ _ _ _ _ _ _ _ C _ _ _ _ _ hl hP hA hS h1 h2)
theorem nk_ifne {x : Int32} {off : Int} {tgt : Nat} (hd : decode μ.2.1 pc = .ok (.ifCond .ne off, 3)) (ht : (pc : Int) + off = (tgt : Int)) (kt : ¬ x = 0 → nk_J G μ d Φ bc bs tgt L st H) (kf : x = 0 → nk_J G μ d Φ bc bs (pc + 3) L st H) : nk_J G μ d Φ bc bs pc L (.int x :: st) H := by
  intro p l e R s m args below meth c mc ms A Q C Hc locs cells slots ls hl hP hA hS h1 h2
  exact lv_if_ne C.1 C.2.1 hd ht (fun q => kt q _ _ _ _ _ _ _ _ _ _ _ _ _ _ C _ _ _ _ _ hl hP hA hS h1 h2) (fun q => kf q _ _ _ _ _ _ _ _ _ _ _ _ _ _ C _ _ _ _ _ hl hP hA hS h1 h2)
theorem nk_iflt {x : Int32} {off : Int} {tgt : Nat} (hd : decode μ.2.1 pc = .ok (.ifCond .lt off, 3)) (ht : (pc : Int) + off = (tgt : Int)) (kt : x < 0 → nk_J G μ d Φ bc bs tgt L st H) (kf : ¬ x < 0 → nk_J G μ d Φ bc bs (pc + 3) L st H) : nk_J G μ d Φ bc bs pc L (.int x :: st) H := by
  intro p l e R s m args below meth c mc ms A Q C Hc locs cells slots ls hl hP hA hS h1 h2
  exact lv_if_lt C.1 C.2.1 hd ht (fun q => kt q _ _ _ _ _ _ _ _ _ _ _ _ _ _ C _ _ _ _ _ hl hP hA hS h1 h2) (fun q => kf q _ _ _ _ _ _ _ _ _ _ _ _ _ _ C _ _ _ _ _ hl hP hA hS h1 h2)
theorem nk_ifge {x : Int32} {off : Int} {tgt : Nat} (hd : decode μ.2.1 pc = .ok (.ifCond .ge off, 3)) (ht : (pc : Int) + off = (tgt : Int)) (kt : 0 ≤ x → nk_J G μ d Φ bc bs tgt L st H) (kf : ¬ 0 ≤ x → nk_J G μ d Φ bc bs (pc + 3) L st H) : nk_J G μ d Φ bc bs pc L (.int x :: st) H := by
  intro p l e R s m args below meth c mc ms A Q C Hc locs cells slots ls hl hP hA hS h1 h2
  exact lv_if_ge C.1 C.2.1 hd ht (fun q => kt q _ _ _ _ _ _ _ _ _ _ _ _ _ _ C _ _ _ _ _ hl hP hA hS h1 h2) (fun q => kf q _ _ _ _ _ _ _ _ _ _ _ _ _ _ C _ _ _ _ _ hl hP hA hS h1 h2)
theorem nk_ifgt {x : Int32} {off : Int} {tgt : Nat} (hd : decode μ.2.1 pc = .ok (.ifCond .gt off, 3)) (ht : (pc : Int) + off = (tgt : Int)) (kt : 0 < x → nk_J G μ d Φ bc bs tgt L st H) (kf : ¬ 0 < x → nk_J G μ d Φ bc bs (pc + 3) L st H) : nk_J G μ d Φ bc bs pc L (.int x :: st) H := by
  intro p l e R s m args below meth c mc ms A Q C Hc locs cells slots ls hl hP hA hS h1 h2
  exact lv_if_gt C.1 C.2.1 hd ht (fun q => kt q _ _ _ _ _ _ _ _ _ _ _ _ _ _ C _ _ _ _ _ hl hP hA hS h1 h2) (fun q => kf q _ _ _ _ _ _ _ _ _ _ _ _ _ _ C _ _ _ _ _ hl hP hA hS h1 h2)
theorem nk_ifle {x : Int32} {off : Int} {tgt : Nat} (hd : decode μ.2.1 pc = .ok (.ifCond .le off, 3)) (ht : (pc : Int) + off = (tgt : Int)) (kt : x ≤ 0 → nk_J G μ d Φ bc bs tgt L st H) (kf : ¬ x ≤ 0 → nk_J G μ d Φ bc bs (pc + 3) L st H) : nk_J G μ d Φ bc bs pc L (.int x :: st) H := by
  intro p l e R s m args below meth c mc ms A Q C Hc locs cells slots ls hl hP hA hS h1 h2
  exact lv_if_le C.1 C.2.1 hd ht (fun q => kt q _ _ _ _ _ _ _ _ _ _ _ _ _ _ C _ _ _ _ _ hl hP hA hS h1 h2) (fun q => kf q _ _ _ _ _ _ _ _ _ _ _ _ _ _ C _ _ _ _ _ hl hP hA hS h1 h2)
theorem nk_icmpeq {x y : Int32} {off : Int} {tgt : Nat} (hd : decode μ.2.1 pc = .ok (.if_icmp .eq off, 3)) (ht : (pc : Int) + off = (tgt : Int)) (kt : x = y → nk_J G μ d Φ bc bs tgt L st H) (kf : ¬ x = y → nk_J G μ d Φ bc bs (pc + 3) L st H) : nk_J G μ d Φ bc bs pc L (.int y :: .int x :: st) H := by
  intro p l e R s m args below meth c mc ms A Q C Hc locs cells slots ls hl hP hA hS h1 h2
  exact lv_icmp_eq C.1 C.2.1 hd ht (fun q => kt q _ _ _ _ _ _ _ _ _ _ _ _ _ _ C _ _ _ _ _ hl hP hA hS h1 h2) (fun q => kf q _ _ _ _ _ _ _ _ _ _ _ _ _ _ C _ _ _ _ _ hl hP hA hS h1 h2)
theorem nk_icmpne {x y : Int32} {off : Int} {tgt : Nat} (hd : decode μ.2.1 pc = .ok (.if_icmp .ne off, 3)) (ht : (pc : Int) + off = (tgt : Int)) (kt : ¬ x = y → nk_J G μ d Φ bc bs tgt L st H) (kf : x = y → nk_J G μ d Φ bc bs (pc + 3) L st H) : nk_J G μ d Φ bc bs pc L (.int y :: .int x :: st) H := by
  intro p l e R s m args below meth c mc ms A Q C Hc locs cells slots ls hl hP hA hS h1 h2
  exact lv_icmp_ne C.1 C.2.1 hd ht (fun q => kt q _ _ _ _ _ _ _ _ _ _ _ _ _ _ C _ _ _ _ _ hl hP hA hS h1 h2) (fun q => kf q _ _ _ _ _ _ _ _ _ _ _ _ _ _ C _ _ _ _ _ hl hP hA hS h1 h2)
theorem nk_icmplt {x y : Int32} {off : Int} {tgt : Nat} (hd : decode μ.2.1 pc = .ok (.if_icmp .lt off, 3)) (ht : (pc : Int) + off = (tgt : Int)) (kt : x < y → nk_J G μ d Φ bc bs tgt L st H) (kf : ¬ x < y → nk_J G μ d Φ bc bs (pc + 3) L st H) : nk_J G μ d Φ bc bs pc L (.int y :: .int x :: st) H := by
  intro p l e R s m args below meth c mc ms A Q C Hc locs cells slots ls hl hP hA hS h1 h2
  exact lv_icmp_lt C.1 C.2.1 hd ht (fun q => kt q _ _ _ _ _ _ _ _ _ _ _ _ _ _ C _ _ _ _ _ hl hP hA hS h1 h2) (fun q => kf q _ _ _ _ _ _ _ _ _ _ _ _ _ _ C _ _ _ _ _ hl hP hA hS h1 h2)
theorem nk_icmpge {x y : Int32} {off : Int} {tgt : Nat} (hd : decode μ.2.1 pc = .ok (.if_icmp .ge off, 3)) (ht : (pc : Int) + off = (tgt : Int)) (kt : y ≤ x → nk_J G μ d Φ bc bs tgt L st H) (kf : ¬ y ≤ x → nk_J G μ d Φ bc bs (pc + 3) L st H) : nk_J G μ d Φ bc bs pc L (.int y :: .int x :: st) H := by
  intro p l e R s m args below meth c mc ms A Q C Hc locs cells slots ls hl hP hA hS h1 h2
  exact lv_icmp_ge C.1 C.2.1 hd ht (fun q => kt q _ _ _ _ _ _ _ _ _ _ _ _ _ _ C _ _ _ _ _ hl hP hA hS h1 h2) (fun q => kf q _ _ _ _ _ _ _ _ _ _ _ _ _ _ C _ _ _ _ _ hl hP hA hS h1 h2)
theorem nk_icmpgt {x y : Int32} {off : Int} {tgt : Nat} (hd : decode μ.2.1 pc = .ok (.if_icmp .gt off, 3)) (ht : (pc : Int) + off = (tgt : Int)) (kt : y < x → nk_J G μ d Φ bc bs tgt L st H) (kf : ¬ y < x → nk_J G μ d Φ bc bs (pc + 3) L st H) : nk_J G μ d Φ bc bs pc L (.int y :: .int x :: st) H := by
  intro p l e R s m args below meth c mc ms A Q C Hc locs cells slots ls hl hP hA hS h1 h2
  exact lv_icmp_gt C.1 C.2.1 hd ht (fun q => kt q _ _ _ _ _ _ _ _ _ _ _ _ _ _ C _ _ _ _ _ hl hP hA hS h1 h2) (fun q => kf q _ _ _ _ _ _ _ _ _ _ _ _ _ _ C _ _ _ _ _ hl hP hA hS h1 h2)
theorem nk_icmple {x y : Int32} {off : Int} {tgt : Nat} (hd : decode μ.2.1 pc = .ok (.if_icmp .le off, 3)) (ht : (pc : Int) + off = (tgt : Int)) (kt : x ≤ y → nk_J G μ d Φ bc bs tgt L st H) (kf : ¬ x ≤ y → nk_J G μ d Φ bc bs (pc + 3) L st H) : nk_J G μ d Φ bc bs pc L (.int y :: .int x :: st) H := by
  intro p l e R s m args below meth c mc ms A Q C Hc locs cells slots ls hl hP hA hS h1 h2
  exact lv_icmp_le C.1 C.2.1 hd ht (fun q => kt q _ _ _ _ _ _ _ _ _ _ _ _ _ _ C _ _ _ _ _ hl hP hA hS h1 h2) (fun q => kf q _ _ _ _ _ _ _ _ _ _ _ _ _ _ C _ _ _ _ _ hl hP hA hS h1 h2)
theorem nk_goto  {off : Int} {tgt : Nat} (hd : decode μ.2.1 pc = .ok (.goto off, 3)) (ht : (pc : Int) + off = (tgt : Int)) (k : nk_J G μ d Φ bc bs tgt L st H) : nk_J G μ d Φ bc bs pc L (st) H := by
  intro p l e R s m args below meth c mc ms A Q C Hc locs cells slots ls hl hP hA hS h1 h2
  exact lv_goto C.1 C.2.1 hd ht (k _ _ _ _ _ _ _ _ _ _ _ _ _ _ C _ _ _ _ _ hl hP hA hS h1 h2)
theorem nk_ifnonnullR {x : Nat} {off : Int} {tgt : Nat} (hd : decode μ.2.1 pc = .ok (.ifnonnull off, 3)) (ht : (pc : Int) + off = (tgt : Int)) (k : nk_J G μ d Φ bc bs tgt L st H) : nk_J G μ d Φ bc bs pc L (.ref x :: st) H := by
  intro p l e R s m args below meth c mc ms A Q C Hc locs cells slots ls hl hP hA hS h1 h2
  exact lv_ifnonnull C.1 C.2.1 hd ht (k _ _ _ _ _ _ _ _ _ _ _ _ _ _ C _ _ _ _ _ hl hP hA hS h1 h2)
theorem nk_ifnullN  {off : Int} {tgt : Nat} (hd : decode μ.2.1 pc = .ok (.ifnull off, 3)) (ht : (pc : Int) + off = (tgt : Int)) (k : nk_J G μ d Φ bc bs tgt L st H) : nk_J G μ d Φ bc bs pc L (.null :: st) H := by
  intro p l e R s m args below meth c mc ms A Q C Hc locs cells slots ls hl hP hA hS h1 h2
  exact lv_ifnullN C.1 C.2.1 hd ht (k _ _ _ _ _ _ _ _ _ _ _ _ _ _ C _ _ _ _ _ hl hP hA hS h1 h2)
theorem nk_ifnullR {x : Nat} {off : Int} (hd : decode μ.2.1 pc = .ok (.ifnull off, 3)) (k : nk_J G μ d Φ bc bs (pc + 3) L st H) : nk_J G μ d Φ bc bs pc L (.ref x :: st) H := by
  intro p l e R s m args below meth c mc ms A Q C Hc locs cells slots ls hl hP hA hS h1 h2
  exact lv_ifnull C.1 C.2.1 hd (k _ _ _ _ _ _ _ _ _ _ _ _ _ _ C _ _ _ _ _ hl hP hA hS h1 h2)
theorem nk_ifnonnullN  {off : Int} (hd : decode μ.2.1 pc = .ok (.ifnonnull off, 3)) (k : nk_J G μ d Φ bc bs (pc + 3) L st H) : nk_J G μ d Φ bc bs pc L (.null :: st) H := by
  intro p l e R s m args below meth c mc ms A Q C Hc locs cells slots ls hl hP hA hS h1 h2
  exact lv_ifnonnullN C.1 C.2.1 hd (k _ _ _ _ _ _ _ _ _ _ _ _ _ _ C _ _ _ _ _ hl hP hA hS h1 h2)
theorem nk_lcmp {x y : Int64} (hd : decode μ.2.1 pc = .ok (.lcmp, 1)) (k : nk_J G μ d Φ bc bs (pc + 1) L (.int (lg_cmp x y) :: st) H) : nk_J G μ d Φ bc bs pc L (.long y :: .long x :: st) H := by
  intro p l e R s m args below meth c mc ms A Q C Hc locs cells slots ls hl hP hA hS h1 h2
  exact W.lcmp C.1 C.2.1 hd (k _ _ _ _ _ _ _ _ _ _ _ _ _ _ C _ _ _ _ _ hl hP hA hS h1 h2)
theorem nk_lookup {dflt : Int} {ps : Array (Int × Int)} {len : Nat} {x : Int32} {off : Int} {tgt : Nat} (hd : decode μ.2.1 pc = .ok (.lookupswitch dflt ps, len)) (hp : (ps.toList.zip (ps.toList.drop 1)).all (fun (a, next) => a.1 < next.1) = true) (ho : Op.lookupswitch.offset ps.toList dflt x.toInt = off) (ht : (pc : Int) + off = (tgt : Int)) (k : nk_J G μ d Φ bc bs tgt L st H) : nk_J G μ d Φ bc bs pc L (.int x :: st) H := by
  intro p l e R s m args below meth c mc ms A Q C Hc locs cells slots ls hl hP hA hS h1 h2
  exact lv_lookup C.1 C.2.1 hd hp ho ht (k _ _ _ _ _ _ _ _ _ _ _ _ _ _ C _ _ _ _ _ hl hP hA hS h1 h2)
theorem nk_tableOut {dflt lo hi : Int} {offs : Array Int} {len : Nat} {x : Int32} {tgt : Nat} (hd : decode μ.2.1 pc = .ok (.tableswitch dflt lo hi offs, len)) (h : x.toInt < lo ∨ hi < x.toInt) (ht : (pc : Int) + dflt = (tgt : Int)) (k : nk_J G μ d Φ bc bs tgt L st H) : nk_J G μ d Φ bc bs pc L (.int x :: st) H := by
  intro p l e R s m args below meth c mc ms A Q C Hc locs cells slots ls hl hP hA hS h1 h2
  exact lv_tableOut C.1 C.2.1 hd h ht (k _ _ _ _ _ _ _ _ _ _ _ _ _ _ C _ _ _ _ _ hl hP hA hS h1 h2)
theorem nk_tableIn {dflt lo hi : Int} {offs : Array Int} {len : Nat} {x : Int32} {off : Int} {tgt : Nat} (hd : decode μ.2.1 pc = .ok (.tableswitch dflt lo hi offs, len)) (ha : ¬ x.toInt < lo) (hb : ¬ hi < x.toInt) (ho : offs[(x.toInt - lo).toNat]? = some off) (ht : (pc : Int) + off = (tgt : Int)) (k : nk_J G μ d Φ bc bs tgt L st H) : nk_J G μ d Φ bc bs pc L (.int x :: st) H := by
  intro p l e R s m args below meth c mc ms A Q C Hc locs cells slots ls hl hP hA hS h1 h2
  exact lv_tableIn C.1 C.2.1 hd ha hb ho ht (k _ _ _ _ _ _ _ _ _ _ _ _ _ _ C _ _ _ _ _ hl hP hA hS h1 h2)
theorem nk_ldc {index : Nat} {v : Int32} (hw : Cond.constant μ.1.cls index v ∈ nk_tw) (hd : decode μ.2.1 pc = .ok (.ldc index, 2)) (k : nk_J G μ d Φ bc bs (pc + 2) L (.int v :: st) H) : nk_J G μ d Φ bc bs pc L st H := by
  intro p l e R s m args below meth c mc ms A Q C Hc locs cells slots ls hl hP hA hS h1 h2
  exact lv_ldc C.1 C.2.1 C.2.2.2.1 (C.2.2.2.2.2.1 _ hw) hd (k _ _ _ _ _ _ _ _ _ _ _ _ _ _ C _ _ _ _ _ hl hP hA hS h1 h2)
theorem nk_ldcw {index : Nat} {v : Int32} (hw : Cond.constant μ.1.cls index v ∈ nk_tw) (hd : decode μ.2.1 pc = .ok (.ldc_w index, 3)) (k : nk_J G μ d Φ bc bs (pc + 3) L (.int v :: st) H) : nk_J G μ d Φ bc bs pc L st H := by
  intro p l e R s m args below meth c mc ms A Q C Hc locs cells slots ls hl hP hA hS h1 h2
  exact lv_ldcw C.1 C.2.1 C.2.2.2.1 (C.2.2.2.2.2.1 _ hw) hd (k _ _ _ _ _ _ _ _ _ _ _ _ _ _ C _ _ _ _ _ hl hP hA hS h1 h2)
theorem nk_ldc2 {index : Nat} {v : Int64} (hw : Cond.constantLong μ.1.cls index v ∈ nk_tw) (hd : decode μ.2.1 pc = .ok (.ldc2_w index, 3)) (k : nk_J G μ d Φ bc bs (pc + 3) L (.long v :: st) H) : nk_J G μ d Φ bc bs pc L st H := by
  intro p l e R s m args below meth c mc ms A Q C Hc locs cells slots ls hl hP hA hS h1 h2
  exact lv_ldc2 C.1 C.2.1 C.2.2.2.1 (C.2.2.2.2.2.1 _ hw) hd (k _ _ _ _ _ _ _ _ _ _ _ _ _ _ C _ _ _ _ _ hl hP hA hS h1 h2)
/-- the returns -/
theorem nk_ret {ins : Instr} {r : Option Value} (hd : decode μ.2.1 pc = .ok (ins, 1)) (hr : nk_rO μ.2.2.2 ins r) (hf : Φ r H) : nk_J G μ d Φ bc bs pc L r.toList H := by
  intro p l e R s m args below meth c mc ms A Q C Hc locs cells slots ls hl hP hA hS h1 h2
  exact W.widen (by omega) (by omega) (C.2.2.2.2.2.2.2.2.2.2.2 pc ls Hc locs ins r H hd hr hf hP hA hS)
theorem nk_ireturn {v : Int32} (hd : decode μ.2.1 pc = .ok (.ireturn, 1)) (hr : μ.2.2.2 = some .int) (hf : Φ (some (.int v)) H) : nk_J G μ d Φ bc bs pc L [.int v] H :=
  nk_ret hd (Or.inr (Or.inl ⟨.int, v, hr, rfl, rfl, rfl⟩)) hf
theorem nk_zreturn {v : Int32} (hd : decode μ.2.1 pc = .ok (.ireturn, 1)) (hr : μ.2.2.2 = some .boolean) (hn : narrow .boolean (.int v) = .int v) (hf : Φ (some (.int v)) H) : nk_J G μ d Φ bc bs pc L [.int v] H :=
  nk_ret hd (Or.inr (Or.inl ⟨.boolean, v, hr, rfl, hn, rfl⟩)) hf
theorem nk_lreturn {v : Int64} (hd : decode μ.2.1 pc = .ok (.lreturn, 1)) (hr : μ.2.2.2 = some .long) (hf : Φ (some (.long v)) H) : nk_J G μ d Φ bc bs pc L [.long v] H :=
  nk_ret hd (Or.inr (Or.inr (Or.inl ⟨v, hr, rfl, rfl⟩))) hf
theorem nk_vreturn (hd : decode μ.2.1 pc = .ok (.return_, 1)) (hr : μ.2.2.2 = none) (hf : Φ none H) : nk_J G μ d Φ bc bs pc L [] H :=
  nk_ret hd (Or.inl ⟨hr, rfl, rfl⟩) hf
theorem nk_areturn {a : Nat} {n : String} (hd : decode μ.2.1 pc = .ok (.areturn, 1)) (hr : μ.2.2.2 = some (.object n)) (hf : Φ (some (.ref a)) H) : nk_J G μ d Φ bc bs pc L [.ref a] H :=
  nk_ret hd (Or.inr (Or.inr (Or.inr ⟨_, _, hr, Or.inl ⟨n, rfl⟩, Or.inr ⟨a, rfl⟩, rfl, rfl⟩))) hf
theorem nk_areturnN {n : String} (hd : decode μ.2.1 pc = .ok (.areturn, 1)) (hr : μ.2.2.2 = some (.object n)) (hf : Φ (some .null) H) : nk_J G μ d Φ bc bs pc L [.null] H :=
  nk_ret hd (Or.inr (Or.inr (Or.inr ⟨_, _, hr, Or.inl ⟨n, rfl⟩, Or.inl rfl, rfl, rfl⟩))) hf
/-- the budget may be cut; the heap, the stack, the locals told otherwise -/
theorem nk_J.less {bc' bs' : Nat} (h1 : bc' ≤ bc) (h2 : bs' ≤ bs) (k : nk_J G μ d Φ bc' bs' pc L st H) : nk_J G μ d Φ bc bs pc L st H :=
  fun p l e R s m args below meth c mc ms A Q C Hc locs cells slots ls hl hP hA hS g1 g2 => k p l e R s m args below meth c mc ms A Q C Hc locs cells slots ls hl hP hA hS (by omega) (by omega)
theorem nk_J.to {L' : List (Option Value)} {st' : List Value} {H' : nk_AH} (k : nk_J G μ d Φ bc bs pc L' st' H') (hL : L = L') (hst : st = st') (hH : H = H') : nk_J G μ d Φ bc bs pc L st H := by
  subst hL; subst hst; subst hH; exact k
end NKR
end
section
/-! heap rows of nk_J -/
theorem nk_in {w : Cond} (k : Nat) (h : lw_tbl[k]? = some w) (g : goodWord w = true) : w ∈ nk_tw := List.mem_filter.mpr ⟨List.mem_of_getElem? h, g⟩
def nk_f (G : nk_EG) (H : nk_AH) (a : Nat) : va_E := match H a with
  | some e => nk_e G.2.1 e
  | none => .inr (0, [])
theorem nk_f_some {G : nk_EG} {H : nk_AH} {a : Nat} {e : nk_AC} (h : H a = some e) : nk_f G H a = nk_e G.2.1 e := by unfold nk_f; rw [h]
theorem nk_list {G : nk_EG} {H : nk_AH} {Hc : Heap} (hP : nk_P G H Hc) : ∃ Ls : List Nat, Ls.Nodup ∧ (∀ a, a ∈ Ls ↔ (H a).isSome = true) ∧ va_P G.1 vwCl (va_pl Ls (nk_f G H)) Hc := by
  have hm : ∀ a, a ∈ (List.range Hc.size).filter (fun a => (H a).isSome) ↔ (H a).isSome = true := by
    intro a
    rw [List.mem_filter, List.mem_range]
    refine ⟨fun h => h.2, fun h => ⟨?_, h⟩⟩
    obtain ⟨e, he⟩ := Option.isSome_iff_exists.mp h
    exact (hP a e he).lt
  refine ⟨(List.range Hc.size).filter (fun a => (H a).isSome), List.nodup_range.filter _, hm, fun k q hk => ?_⟩
  obtain ⟨a, ha, rfl⟩ := List.mem_map.mp (List.mem_of_getElem? hk)
  obtain ⟨e, he⟩ := Option.isSome_iff_exists.mp ((hm a).mp ha)
  rw [nk_f_some he]
  exact hP a e he
theorem nk_Dpl {A : Nat → Prop} {Ls : List Nat} {f : Nat → va_E} (hn : Ls.Nodup) (hA : ∀ a ∈ Ls, A a) : va_D A (va_pl Ls f) := by
  refine ⟨fun i j p q hi hj hpq => ?_, fun k q hk => ?_⟩
  · unfold va_pl at hi hj
    rw [List.getElem?_map] at hi hj
    cases hx : Ls[i]? with
    | none => rw [hx] at hi; cases hi
    | some x =>
      cases hy : Ls[j]? with
      | none => rw [hy] at hj; cases hj
      | some y =>
        rw [hx] at hi; rw [hy] at hj
        cases hi; cases hj
        have hxy : x = y := hpq
        subst hxy
        obtain ⟨l1, e1⟩ := List.getElem?_eq_some_iff.mp hx
        obtain ⟨l2, e2⟩ := List.getElem?_eq_some_iff.mp hy
        exact (List.getElem?_inj l1 hn).mp (hx.trans hy.symm)
  · obtain ⟨a, ha, rfl⟩ := List.mem_map.mp (List.mem_of_getElem? hk)
    exact hA a ha
theorem nk_from {G : nk_EG} {H : nk_AH} {Hc : Heap} {Ls : List Nat} {f : Nat → va_E} (h : va_P G.1 vwCl (va_pl Ls f) Hc) (hf : ∀ a ∈ Ls, f a = nk_f G H a) (hm : ∀ a, (H a).isSome = true → a ∈ Ls) : nk_P G H Hc := by
  intro a e he
  have ha := hm a (by rw [he]; rfl)
  obtain ⟨k, hk⟩ := List.getElem?_of_mem (show (a, f a) ∈ va_pl Ls f from List.mem_map.mpr ⟨a, ha, rfl⟩)
  have := h k _ hk
  rw [hf a ha, nk_f_some he] at this
  exact this
theorem nk_get {G : nk_EG} {H : nk_AH} {Ls : List Nat} {a : Nat} {e : nk_AC} (hm : ∀ a, a ∈ Ls ↔ (H a).isSome = true) (h : H a = some e) : ∃ k : Nat, (va_pl Ls (nk_f G H))[k]? = some (a, nk_e G.2.1 e) := by
  obtain ⟨k, hk⟩ := va_pl_get (X := []) (L := Ls) (f := nk_f G H) ((hm a).mpr (by rw [h]; rfl))
  rw [nk_f_some h] at hk
  exact ⟨k, hk⟩
/-- a cell is written -/
theorem nk_set {A : Nat → Prop} {G : nk_EG} {H : nk_AH} {Ls : List Nat} {a q0 : Nat} {e e' : nk_AC} {H1 : Heap} (hm : ∀ a, a ∈ Ls ↔ (H a).isSome = true) (hD : va_D A (va_pl Ls (nk_f G H))) (h : H a = some e) (hk : (va_pl Ls (nk_f G H))[q0]? = some (a, nk_e G.2.1 e)) (hP : va_P G.1 vwCl ((va_pl Ls (nk_f G H)).set q0 (a, nk_e G.2.1 e')) H1) : nk_P G (nk_u H a e') H1 := by
  have ha : a ∈ Ls := (hm a).mpr (by rw [h]; rfl)
  have hs := va_pl_set (X := []) (e := nk_e G.2.1 e') hD ha (by rw [nk_f_some h]; exact hk)
  have hs : (va_pl Ls (nk_f G H)).set q0 (a, nk_e G.2.1 e') = va_pl Ls (va_up (nk_f G H) a (nk_e G.2.1 e')) := hs
  rw [hs] at hP
  refine nk_from hP (fun b _ => ?_) (fun b hb => ?_)
  · by_cases q : b = a
    · subst q
      rw [nk_f_some (nk_u_self H b e')]
      simp [va_up]
    · simp [va_up, q, nk_f, nk_u_ne q]
  · rcases nk_u_dom hb with rfl | q
    · exact ha
    · exact (hm b).mpr q
/-- a cell is new -/
theorem nk_push {A : Nat → Prop} {G : nk_EG} {H : nk_AH} {Ls : List Nat} {a : Nat} {e : nk_AC} {H1 : Heap} (hm : ∀ a, a ∈ Ls ↔ (H a).isSome = true) (hD : va_D A (va_pl Ls (nk_f G H) ++ [(a, nk_e G.2.1 e)])) (hP : va_P G.1 vwCl (va_pl Ls (nk_f G H) ++ [(a, nk_e G.2.1 e)]) H1) : H a = none ∧ A a ∧ nk_P G (nk_u H a e) H1 := by
  have hlast : (va_pl Ls (nk_f G H) ++ [(a, nk_e G.2.1 e)])[(va_pl Ls (nk_f G H)).length]? = some (a, nk_e G.2.1 e) := by
    rw [List.getElem?_append_right (Nat.le_refl _), Nat.sub_self]; rfl
  have hn : a ∉ Ls := by
    intro ha
    obtain ⟨k, hk⟩ := List.getElem?_of_mem (show (a, nk_f G H a) ∈ va_pl Ls (nk_f G H) from List.mem_map.mpr ⟨a, ha, rfl⟩)
    have hl := (List.getElem?_eq_some_iff.mp hk).1
    have hk2 : (va_pl Ls (nk_f G H) ++ [(a, nk_e G.2.1 e)])[k]? = some (a, nk_f G H a) := by rw [List.getElem?_append_left hl]; exact hk
    have := hD.1 _ _ _ _ hk2 hlast rfl
    omega
  refine ⟨?_, hD.2 _ _ hlast, ?_⟩
  · cases hh : H a with
    | none => rfl
    | some x => exact absurd ((hm a).mpr (by rw [hh]; rfl)) hn
  · rw [va_pl_push hn] at hP
    refine nk_from hP (fun b hb => ?_) (fun b hb => ?_)
    · by_cases q : b = a
      · subst q
        rw [nk_f_some (nk_u_self H b e)]
        simp [va_up]
      · simp [va_up, q, nk_f, nk_u_ne q]
    · rcases nk_u_dom hb with rfl | q
      · exact List.mem_append_right _ List.mem_cons_self
      · exact List.mem_append_left _ ((hm b).mpr q)
theorem nk_cA {s : State} {c c' : ClassId} {ty : FieldType} (h : va_RA s c ty) (h' : va_RA s c' ty) : c = c' := by
  cases ty with
  | object C =>
    obtain ⟨_, _, -, -, -, h1⟩ := h
    obtain ⟨_, _, -, -, -, h2⟩ := h'
    rw [h1] at h2
    exact Option.some.inj h2
  | _ => exact Option.some.inj (Eq.trans (Eq.symm (show s.vm.findClass _ = some c from h)) (show s.vm.findClass _ = some c' from h'))
end
section
/-! rows that read or write the heap -/
def nk_fl (own : String) (index ci k : Nat) : Prop := ∃ (C : String) (T : u_T) (N : Nat), vwCl[ci]? = some (C, T, N) ∧ (∀ w ∈ u_ws C T N, w ∈ nk_tw) ∧ k < N ∧ Cond.fieldLink own index (T k).1 (T k).2.1 (T k).2.2.1 ∈ nk_tw
def nk_fp (own : String) (index ci k : Nat) (ty : FieldType) (fin : Bool) : Prop := ∃ (C : String) (T : u_T) (N : Nat) (ty0 : Nat → FieldType), vwCl[ci]? = some (C, T, N) ∧ (∀ w ∈ u_ws C T N, w ∈ nk_tw) ∧ (∀ k, k < N → parseFieldDescriptor (T k).2.2.1 = some (ty0 k)) ∧ (∀ a, a < N → ∀ b, b < N → a ≠ b → (T a).2.1 ≠ (T b).2.1) ∧ k < N ∧ Cond.fieldLink own index (T k).1 (T k).2.1 (T k).2.2.1 ∈ nk_tw ∧ (T k).2.2.2 = fin ∧ parseFieldDescriptor (T k).2.2.1 = some ty ∧ (T k).1 = C
def nk_nw (own : String) (index ci N : Nat) (fs : List Value) : Prop := ∃ (C : String) (T : u_T) (ty0 : Nat → FieldType), vwCl[ci]? = some (C, T, N) ∧ (∀ w ∈ u_ws C T N, w ∈ nk_tw) ∧ (∀ k, k < N → parseFieldDescriptor (T k).2.2.1 = some (ty0 k)) ∧ Cond.classLink own index C ∈ nk_tw ∧ Cond.instantiable C N ∈ nk_tw ∧ Cond.initialized C ∈ nk_tw ∧ ∀ j, j < N → defaultValue (ty0 j) = vp_V fs j
theorem nk_tys {G : nk_EG} {t0 : Nat} {ty : FieldType} (h : nk_Ty[t0]? = some ty) : (nk_Ts G)[t0]? = some (G.2.1 ty, ty) := by
  rw [List.getElem?_map, h]; rfl
section NKH
variable {G : nk_EG} {μ : nk_MI} {d : Nat} {Φ : Option Value → nk_AH → Prop} {bc bs pc : Nat} {L : List (Option Value)} {st : List Value} {H : nk_AH} {a : Nat}
theorem nk_getf {index ci i : Nat} {fs : List Value} {v : Value} (f : nk_fl μ.1.cls index ci i) (hd : decode μ.2.1 pc = .ok (.getfield index, 3)) (hH : H a = some (.inr (ci, fs))) (hv : fs[i]? = some v) (k : nk_J G μ d Φ bc bs (pc + 3) L (v :: st) H) : nk_J G μ d Φ bc bs pc L (.ref a :: st) H := by
  intro p l e R s m args below meth c mc ms A Q C Hc locs cells slots ls hl hP hA hS h1 h2
  obtain ⟨Cn, T, N, f1, f2, f3, f4⟩ := f
  have hw : va_P G.1 vwCl [(a, nk_e G.2.1 (.inr (ci, fs)))] Hc := fun k q hk => by
    cases k with
    | zero => cases hk; exact hP a _ hH
    | succ k => cases hk
  exact va_get (D := G.1) C.1 C.2.1 C.2.2.2.2.2.1 f2 C.2.2.2.1 C.2.2.2.2.2.2.2.1 hw 0 rfl f1 i f3 (C.2.2.2.2.2.1 _ f4) (fun _ h9 => h9) hv hd (k _ _ _ _ _ _ _ _ _ _ _ _ _ _ C _ _ _ _ _ hl hP hA hS h1 h2)
theorem nk_putf {index ci i : Nat} {fs fs' : List Value} {v : Value} {ty : FieldType} (f : nk_fp μ.1.cls index ci i ty false) (hd : decode μ.2.1 pc = .ok (.putfield index, 3)) (hH : H a = some (.inr (ci, fs))) (hn : narrow ty v = v) (hfit : fits ty v = true) (hi : i < fs.length) (hfs : fs.set i v = fs') (k : nk_J G μ d Φ bc bs (pc + 3) L st (nk_u H a (.inr (ci, fs')))) : nk_J G μ d Φ bc bs pc L (v :: .ref a :: st) H := by
  intro p l e R s m args below meth c mc ms A Q C Hc locs cells slots ls hl hP hA hS h1 h2
  subst hfs
  obtain ⟨Cn, T, N, ty0, f1, f2, f3, f4, f5, f6, f7, f8, f9⟩ := f
  obtain ⟨Ls, n1, n2, n3⟩ := nk_list hP
  obtain ⟨q0, hq⟩ := nk_get (G := G) n2 hH
  have hD : va_D A (va_pl Ls (nk_f G H)) := nk_Dpl n1 (fun b hb => hA b ((n2 b).mp hb))
  exact va_put (D := G.1) C.1 C.2.1 C.2.2.2.2.2.1 f2 ty0 f3 f4 C.2.2.2.1 C.2.2.2.2.2.2.2.1 n3 hD hS q0 hq f1 i f5 (C.2.2.2.2.2.1 _ f6) (fun _ h9 => h9) f7 f8 hn hfit hi hd (fun H1 locs1 gP gD gS =>
    k _ _ _ _ _ _ _ _ _ _ _ _ _ _ C _ _ _ _ _ hl (nk_set (e' := .inr (ci, fs.set i v)) n2 hD hH hq gP) (fun b hb => (nk_u_dom hb).elim (fun z => by rw [z]; exact hA a (by rw [hH]; rfl)) (hA b)) gS h1 h2)
theorem nk_putF {index ci i : Nat} {fs fs' : List Value} {v : Value} {ty : FieldType} (f : nk_fp μ.1.cls index ci i ty true) (hin : μ.1.name = "<init>") (hown : ∀ q, vwCl[ci]? = some q → q.1 = μ.1.cls) (hd : decode μ.2.1 pc = .ok (.putfield index, 3)) (hH : H a = some (.inr (ci, fs))) (hn : narrow ty v = v) (hfit : fits ty v = true) (hi : i < fs.length) (hfs : fs.set i v = fs') (k : nk_J G μ d Φ bc bs (pc + 3) L st (nk_u H a (.inr (ci, fs')))) : nk_J G μ d Φ bc bs pc L (v :: .ref a :: st) H := by
  intro p l e R s m args below meth c mc ms A Q C Hc locs cells slots ls hl hP hA hS h1 h2
  subst hfs
  obtain ⟨Cn, T, N, ty0, f1, f2, f3, f4, f5, f6, f7, f8, f9⟩ := f
  obtain ⟨Ls, n1, n2, n3⟩ := nk_list hP
  obtain ⟨q0, hq⟩ := nk_get (G := G) n2 hH
  have hD : va_D A (va_pl Ls (nk_f G H)) := nk_Dpl n1 (fun b hb => hA b ((n2 b).mp hb))
  exact va_putF (D := G.1) C.1 C.2.1 C.2.2.2.2.2.1 f2 ty0 f3 f4 C.2.2.2.1 C.2.2.2.2.2.2.2.1 n3 hD hS q0 hq f1 i f5 (C.2.2.2.2.2.1 _ f6) (fun _ h9 => h9) f7 (C.2.2.2.2.1.trans hin) (f9.trans (hown _ f1)) f8 hn hfit hi hd (fun H1 locs1 gP gD gS =>
    k _ _ _ _ _ _ _ _ _ _ _ _ _ _ C _ _ _ _ _ hl (nk_set (e' := .inr (ci, fs.set i v)) n2 hD hH hq gP) (fun b hb => (nk_u_dom hb).elim (fun z => by rw [z]; exact hA a (by rw [hH]; rfl)) (hA b)) gS h1 h2)
theorem nk_new {index ci N bc' bs' : Nat} {fs : List Value} (f : nk_nw μ.1.cls index ci N fs) (hd : decode μ.2.1 pc = .ok (.new index, 3)) (hb : bc' + 1 ≤ bc ∧ bs' + N ≤ bs) (k : ∀ q : Nat, H q = none → nk_J G μ d Φ bc' bs' (pc + 3) L (.ref q :: st) (nk_u H q (.inr (ci, fs)))) : nk_J G μ d Φ bc bs pc L st H := by
  intro p l e R s m args below meth c mc ms A Q C Hc locs cells slots ls hl hP hA hS h1 h2
  obtain ⟨Cn, T, ty0, f1, f2, f3, f4, f5, f6, f7⟩ := f
  obtain ⟨Ls, n1, n2, n3⟩ := nk_list hP
  have hD : va_D A (va_pl Ls (nk_f G H)) := nk_Dpl n1 (fun b hb => hA b ((n2 b).mp hb))
  have hr := C.2.2.2.2.2.2.1
  refine va_new (D := G.1) (fs := fs) C.1 C.2.1 C.2.2.2.2.2.1 f2 ty0 f3 C.2.2.2.1 (C.2.2.2.2.2.1 _ f4) (C.2.2.2.2.2.1 _ f5) (C.2.2.2.2.2.1 _ f6) C.2.2.2.2.2.2.2.1 n3 hD hS C.2.2.2.2.2.2.2.2.2.2.1 f1 f7 (by omega) (by omega) hd (fun q H1 gP gD gS => ?_)
  obtain ⟨g1, g2, g3⟩ := nk_push (e := .inr (ci, fs)) n2 gD gP
  exact k q g1 _ _ _ _ _ _ _ _ _ _ _ _ _ _ C _ _ _ _ _ hl g3 (fun b hb => (nk_u_dom hb).elim (fun z => by rw [z]; exact g2) (hA b)) gS (by omega) (by omega)
theorem nk_iald {n : Nat} {f : Nat → Int32} {i : Int32} (hd : decode μ.2.1 pc = .ok (.iaload, 1)) (hH : H a = some (.inl (.int, n, .inl f))) (hin : vp_in i n) (k : nk_J G μ d Φ bc bs (pc + 1) L (.int (f i.toNatClampNeg) :: st) H) : nk_J G μ d Φ bc bs pc L (.int i :: .ref a :: st) H := by
  intro p l e R s m args below meth c mc ms A Q C Hc locs cells slots ls hl hP hA hS h1 h2
  obtain ⟨Ls, n1, n2, n3⟩ := nk_list hP
  obtain ⟨q0, hq⟩ := nk_get (G := G) n2 hH
  exact va_iald C.1 C.2.1 C.2.2.2.2.2.2.2.1 n3 q0 0 hq (nk_tys (t0 := 0) rfl) hin hd (k _ _ _ _ _ _ _ _ _ _ _ _ _ _ C _ _ _ _ _ hl hP hA hS h1 h2)
theorem nk_zald {n : Nat} {f : Nat → Int32} {i : Int32} (hd : decode μ.2.1 pc = .ok (.baload, 1)) (hH : H a = some (.inl (.boolean, n, .inl f))) (hin : vp_in i n) (k : nk_J G μ d Φ bc bs (pc + 1) L (.int (f i.toNatClampNeg) :: st) H) : nk_J G μ d Φ bc bs pc L (.int i :: .ref a :: st) H := by
  intro p l e R s m args below meth c mc ms A Q C Hc locs cells slots ls hl hP hA hS h1 h2
  obtain ⟨Ls, n1, n2, n3⟩ := nk_list hP
  obtain ⟨q0, hq⟩ := nk_get (G := G) n2 hH
  exact va_zald C.1 C.2.1 C.2.2.2.2.2.2.2.1 n3 q0 1 hq (nk_tys (t0 := 1) rfl) hin hd (k _ _ _ _ _ _ _ _ _ _ _ _ _ _ C _ _ _ _ _ hl hP hA hS h1 h2)
theorem nk_aald {n : Nat} {ty : FieldType} {f : Nat → Option Nat} {i : Int32} {v : Value} (t0 : Nat) (ht : nk_Ty[t0]? = some ty) (hr : ty.isReference = true) (hd : decode μ.2.1 pc = .ok (.aaload, 1)) (hH : H a = some (.inl (ty, n, .inr (.inr (.inr (.inr f)))))) (hin : vp_in i n) (hv : va_rf (f i.toNatClampNeg) = v) (k : nk_J G μ d Φ bc bs (pc + 1) L (v :: st) H) : nk_J G μ d Φ bc bs pc L (.int i :: .ref a :: st) H := by
  intro p l e R s m args below meth c mc ms A Q C Hc locs cells slots ls hl hP hA hS h1 h2
  subst hv
  have hlt : i.toNatClampNeg < n := Nat.not_le.mp fun q => hin (Or.inr q)
  have hc : Hc[a]? = some (vp_cell (G.2.1 ty) (n, .inr (.inr (.inr (.inr f))))) := hP a _ hH
  have hK := C.2.2.2.2.2.2.2.1
  exact W.aald (v := va_rf (f i.toNatClampNeg)) (ty := ty) C.1 C.2.1 hc ((hK.2 t0 _ (nk_tys ht)).1 n (fun j => va_rf (f j))) hr (fun q => by cases q) (by show ¬ (i < 0 ∨ (arrV _ _ _).slots.size ≤ _); rw [arrV_size]; exact hin) (by show (arrV _ _ _).slots[_]? = _; rw [arrV_read _ _ hlt]) rfl rfl hd (k _ _ _ _ _ _ _ _ _ _ _ _ _ _ C _ _ _ _ _ hl hP hA hS h1 h2)
theorem nk_iast {n : Nat} {f : Nat → Int32} {i x : Int32} (hd : decode μ.2.1 pc = .ok (.iastore, 1)) (hH : H a = some (.inl (.int, n, .inl f))) (hin : vp_in i n) (k : nk_J G μ d Φ bc bs (pc + 1) L st (nk_u H a (.inl (.int, n, .inl (upd f i.toNatClampNeg x))))) : nk_J G μ d Φ bc bs pc L (.int x :: .int i :: .ref a :: st) H := by
  intro p l e R s m args below meth c mc ms A Q C Hc locs cells slots ls hl hP hA hS h1 h2
  obtain ⟨Ls, n1, n2, n3⟩ := nk_list hP
  obtain ⟨q0, hq⟩ := nk_get (G := G) n2 hH
  have hD : va_D A (va_pl Ls (nk_f G H)) := nk_Dpl n1 (fun b hb => hA b ((n2 b).mp hb))
  exact va_iast C.1 C.2.1 C.2.2.2.2.2.2.2.1 n3 hD hS q0 0 hq (nk_tys (t0 := 0) rfl) hin hd (fun H1 locs1 gP gD gS =>
    k _ _ _ _ _ _ _ _ _ _ _ _ _ _ C _ _ _ _ _ hl (nk_set (e' := .inl (.int, n, .inl (upd f i.toNatClampNeg x))) n2 hD hH hq gP) (fun b hb => (nk_u_dom hb).elim (fun z => by rw [z]; exact hA a (by rw [hH]; rfl)) (hA b)) gS h1 h2)
theorem nk_zast {n : Nat} {f : Nat → Int32} {i x : Int32} (hd : decode μ.2.1 pc = .ok (.bastore, 1)) (hH : H a = some (.inl (.boolean, n, .inl f))) (hin : vp_in i n) (k : nk_J G μ d Φ bc bs (pc + 1) L st (nk_u H a (.inl (.boolean, n, .inl (upd f i.toNatClampNeg (vp_nar .boolean x)))))) : nk_J G μ d Φ bc bs pc L (.int x :: .int i :: .ref a :: st) H := by
  intro p l e R s m args below meth c mc ms A Q C Hc locs cells slots ls hl hP hA hS h1 h2
  obtain ⟨Ls, n1, n2, n3⟩ := nk_list hP
  obtain ⟨q0, hq⟩ := nk_get (G := G) n2 hH
  have hD : va_D A (va_pl Ls (nk_f G H)) := nk_Dpl n1 (fun b hb => hA b ((n2 b).mp hb))
  exact va_zast C.1 C.2.1 C.2.2.2.2.2.2.2.1 n3 hD hS q0 1 hq (nk_tys (t0 := 1) rfl) hin hd (fun H1 locs1 gP gD gS =>
    k _ _ _ _ _ _ _ _ _ _ _ _ _ _ C _ _ _ _ _ hl (nk_set (e' := .inl (.boolean, n, .inl (upd f i.toNatClampNeg (vp_nar .boolean x)))) n2 hD hH hq gP) (fun b hb => (nk_u_dom hb).elim (fun z => by rw [z]; exact hA a (by rw [hH]; rfl)) (hA b)) gS h1 h2)
theorem nk_aast {n v ci : Nat} {r : vw_C} {vs : List Value} {f : Nat → Option Nat} {i : Int32} (t0 : Nat) (ht : nk_Ty[t0]? = some (.object r.1)) (hc : vwCl[ci]? = some r) (hd : decode μ.2.1 pc = .ok (.aastore, 1)) (hH : H a = some (.inl (.object r.1, n, .inr (.inr (.inr (.inr f)))))) (hv : H v = some (.inr (ci, vs))) (hin : vp_in i n) (k : nk_J G μ d Φ bc bs (pc + 1) L st (nk_u H a (.inl (.object r.1, n, .inr (.inr (.inr (.inr (va_up f i.toNatClampNeg (some v)))))))) ) : nk_J G μ d Φ bc bs pc L (.ref v :: .int i :: .ref a :: st) H := by
  intro p l e R s m args below meth c mc ms A Q C Hc locs cells slots ls hl hP hA hS h1 h2
  obtain ⟨Ls, n1, n2, n3⟩ := nk_list hP
  obtain ⟨q0, hq⟩ := nk_get (G := G) n2 hH
  obtain ⟨q1, hq1⟩ := nk_get (G := G) n2 hv
  have hD : va_D A (va_pl Ls (nk_f G H)) := nk_Dpl n1 (fun b hb => hA b ((n2 b).mp hb))
  exact va_astq C.1 C.2.1 C.2.2.2.2.2.2.2.1 n3 hD hS q0 t0 q1 ci hq (nk_tys ht) hq1 hc hin hd (fun H1 locs1 gP gD gS =>
    k _ _ _ _ _ _ _ _ _ _ _ _ _ _ C _ _ _ _ _ hl (nk_set (e' := .inl (.object r.1, n, .inr (.inr (.inr (.inr (va_up f i.toNatClampNeg (some v))))))) n2 hD hH hq gP) (fun b hb => (nk_u_dom hb).elim (fun z => by rw [z]; exact hA a (by rw [hH]; rfl)) (hA b)) gS h1 h2)
theorem nk_aastN {n : Nat} {Cn : String} {f : Nat → Option Nat} {i : Int32} (t0 : Nat) (ht : nk_Ty[t0]? = some (.object Cn)) (hd : decode μ.2.1 pc = .ok (.aastore, 1)) (hH : H a = some (.inl (.object Cn, n, .inr (.inr (.inr (.inr f)))))) (hin : vp_in i n) (k : nk_J G μ d Φ bc bs (pc + 1) L st (nk_u H a (.inl (.object Cn, n, .inr (.inr (.inr (.inr (va_up f i.toNatClampNeg none)))))))) : nk_J G μ d Φ bc bs pc L (.null :: .int i :: .ref a :: st) H := by
  intro p l e R s m args below meth c mc ms A Q C Hc locs cells slots ls hl hP hA hS h1 h2
  obtain ⟨Ls, n1, n2, n3⟩ := nk_list hP
  obtain ⟨q0, hq⟩ := nk_get (G := G) n2 hH
  have hD : va_D A (va_pl Ls (nk_f G H)) := nk_Dpl n1 (fun b hb => hA b ((n2 b).mp hb))
  exact va_astqN C.1 C.2.1 C.2.2.2.2.2.2.2.1 n3 hD hS q0 t0 hq (nk_tys ht) hin hd (fun H1 locs1 gP gD gS =>
    k _ _ _ _ _ _ _ _ _ _ _ _ _ _ C _ _ _ _ _ hl (nk_set (e' := .inl (.object Cn, n, .inr (.inr (.inr (.inr (va_up f i.toNatClampNeg none)))))) n2 hD hH hq gP) (fun b hb => (nk_u_dom hb).elim (fun z => by rw [z]; exact hA a (by rw [hH]; rfl)) (hA b)) gS h1 h2)
theorem nk_alen {ty : FieldType} {x : vp_A} {v : Int32} (t0 : Nat) (ht : nk_Ty[t0]? = some ty) (hd : decode μ.2.1 pc = .ok (.arraylength, 1)) (hH : H a = some (.inl (ty, x))) (hv : Int32.ofNat x.1 = v) (k : nk_J G μ d Φ bc bs (pc + 1) L (.int v :: st) H) : nk_J G μ d Φ bc bs pc L (.ref a :: st) H := by
  intro p l e R s m args below meth c mc ms A Q C Hc locs cells slots ls hl hP hA hS h1 h2
  obtain ⟨Ls, n1, n2, n3⟩ := nk_list hP
  obtain ⟨q0, hq⟩ := nk_get (G := G) n2 hH
  exact va_alen C.1 C.2.1 C.2.2.2.2.2.2.2.1 n3 q0 t0 hq (nk_tys ht) hv hd (k _ _ _ _ _ _ _ _ _ _ _ _ _ _ C _ _ _ _ _ hl hP hA hS h1 h2)
theorem nk_tld {t n : Nat} {f : Nat → Int32} {i : Int32} (hd : decode μ.2.1 pc = .ok (.iaload, 1)) (hG : G.2.2.1 t = some (n, f)) (hin : vp_in i n) (k : nk_J G μ d Φ bc bs (pc + 1) L (.int (f i.toNatClampNeg) :: st) H) : nk_J G μ d Φ bc bs pc L (.int i :: .ref t :: st) H := by
  intro p l e R s m args below meth c mc ms A Q C Hc locs cells slots ls hl hP hA hS h1 h2
  exact va_ti C.1 C.2.1 (C.2.2.2.2.2.2.2.2.1.1 t n f hG) hS hin rfl hd (k _ _ _ _ _ _ _ _ _ _ _ _ _ _ C _ _ _ _ _ hl hP hA hS h1 h2)
theorem nk_tlen {t n : Nat} {f : Nat → Int32} {v : Int32} (hd : decode μ.2.1 pc = .ok (.arraylength, 1)) (hG : G.2.2.1 t = some (n, f)) (hv : Int32.ofNat n = v) (k : nk_J G μ d Φ bc bs (pc + 1) L (.int v :: st) H) : nk_J G μ d Φ bc bs pc L (.ref t :: st) H := by
  intro p l e R s m args below meth c mc ms A Q C Hc locs cells slots ls hl hP hA hS h1 h2
  exact va_tlen C.1 C.2.1 (C.2.2.2.2.2.2.2.2.1.1 t n f hG) hS hv hd (k _ _ _ _ _ _ _ _ _ _ _ _ _ _ C _ _ _ _ _ hl hP hA hS h1 h2)
theorem nk_gets {index : Nat} {q : String × String × String} (j : Nat) (hj : nk_sZ[j]? = some q) (hw : Cond.fieldLink μ.1.cls index q.1 q.2.1 q.2.2 ∈ nk_tw) (hd : decode μ.2.1 pc = .ok (.getstatic index, 3)) (k : nk_J G μ d Φ bc bs (pc + 3) L (.ref (G.2.2.2 j) :: st) H) : nk_J G μ d Φ bc bs pc L st H := by
  intro p l e R s m args below meth c mc ms A Q C Hc locs cells slots ls hl hP hA hS h1 h2
  exact va_gets C.1 C.2.1 (C.2.2.2.2.2.2.2.2.1.2 j q hj) hS C.2.2.2.1 (C.2.2.2.2.2.1 _ hw) (fun _ h9 => h9) hd (k _ _ _ _ _ _ _ _ _ _ _ _ _ _ C _ _ _ _ _ hl hP hA hS h1 h2)
theorem nk_newi {n : Int32} {N bc' bs' : Nat} (hw : Cond.arrayClass .int ∈ nk_tw) (hd : decode μ.2.1 pc = .ok (.newarray .int, 2)) (hn : n = nI N) (hN : N ≤ 65536) (hb : bc' + 1 ≤ bc ∧ bs' + N ≤ bs) (k : ∀ q : Nat, H q = none → nk_J G μ d Φ bc' bs' (pc + 2) L (.ref q :: st) (nk_u H q (.inl (.int, N, .inl (fun _ => 0))))) : nk_J G μ d Φ bc bs pc L (.int n :: st) H := by
  intro p l e R s m args below meth c mc ms A Q C Hc locs cells slots ls hl hP hA hS h1 h2
  subst hn
  obtain ⟨Ls, n1, n2, n3⟩ := nk_list hP
  have hD : va_D A (va_pl Ls (nk_f G H)) := nk_Dpl n1 (fun b hb => hA b ((n2 b).mp hb))
  have hr := C.2.2.2.2.2.2.1
  have hK := C.2.2.2.2.2.2.2.1
  have hN2 : N < 2 ^ 31 := Nat.lt_of_le_of_lt hN (Nat.le_of_ble_eq_true rfl : 65536 + 1 ≤ 2 ^ 31)
  refine va_newa (atype := .int) (ty := .int) (a0 := (N, .inl (fun _ => 0))) (D := G.1) C.1 C.2.1 (C.2.2.2.2.2.1 _ hw) rfl hK n3 hD hS C.2.2.2.2.2.2.2.2.2.2.1 (fun _ => rfl) (nI_pos hN2) (nI_clamp hN2) (by show N * 4 ≤ 536870912; omega) (by omega) (by omega) hd (fun q cA H1 gK gP gD gS => ?_)
  have hc : cA = G.2.1 .int := nk_cA (gK.2 6 _ (by rfl)).2 (hK.2 0 _ (nk_tys (t0 := 0) rfl)).2
  subst hc
  obtain ⟨g1, g2, g3⟩ := nk_push (e := .inl (.int, N, .inl (fun _ => 0))) n2 gD gP
  exact k q g1 _ _ _ _ _ _ _ _ _ _ _ _ _ _ C _ _ _ _ _ hl g3 (fun b hb => (nk_u_dom hb).elim (fun z => by rw [z]; exact g2) (hA b)) gS (by omega) (by omega)
theorem nk_newz {n : Int32} {N bc' bs' : Nat} (hw : Cond.arrayClass .boolean ∈ nk_tw) (hd : decode μ.2.1 pc = .ok (.newarray .boolean, 2)) (hn : n = nI N) (hN : N ≤ 65536) (hb : bc' + 1 ≤ bc ∧ bs' + N ≤ bs) (k : ∀ q : Nat, H q = none → nk_J G μ d Φ bc' bs' (pc + 2) L (.ref q :: st) (nk_u H q (.inl (.boolean, N, .inl (fun _ => 0))))) : nk_J G μ d Φ bc bs pc L (.int n :: st) H := by
  intro p l e R s m args below meth c mc ms A Q C Hc locs cells slots ls hl hP hA hS h1 h2
  subst hn
  obtain ⟨Ls, n1, n2, n3⟩ := nk_list hP
  have hD : va_D A (va_pl Ls (nk_f G H)) := nk_Dpl n1 (fun b hb => hA b ((n2 b).mp hb))
  have hr := C.2.2.2.2.2.2.1
  have hK := C.2.2.2.2.2.2.2.1
  have hN2 : N < 2 ^ 31 := Nat.lt_of_le_of_lt hN (Nat.le_of_ble_eq_true rfl : 65536 + 1 ≤ 2 ^ 31)
  refine va_newa (atype := .boolean) (ty := .boolean) (a0 := (N, .inl (fun _ => 0))) (D := G.1) C.1 C.2.1 (C.2.2.2.2.2.1 _ hw) rfl hK n3 hD hS C.2.2.2.2.2.2.2.2.2.2.1 (fun _ => rfl) (nI_pos hN2) (nI_clamp hN2) (by show N * 1 ≤ 536870912; omega) (by omega) (by omega) hd (fun q cA H1 gK gP gD gS => ?_)
  have hc : cA = G.2.1 .boolean := nk_cA (gK.2 6 _ (by rfl)).2 (hK.2 1 _ (nk_tys (t0 := 1) rfl)).2
  subst hc
  obtain ⟨g1, g2, g3⟩ := nk_push (e := .inl (.boolean, N, .inl (fun _ => 0))) n2 gD gP
  exact k q g1 _ _ _ _ _ _ _ _ _ _ _ _ _ _ C _ _ _ _ _ hl g3 (fun b hb => (nk_u_dom hb).elim (fun z => by rw [z]; exact g2) (hA b)) gS (by omega) (by omega)
theorem nk_newq {n : Int32} {Cn : String} {N index bc' bs' : Nat} (t0 : Nat) (ht : nk_Ty[t0]? = some (.object Cn)) (ho : ∀ s, nk_N s → va_AO Cn s) (hw : Cond.classLink μ.1.cls index Cn ∈ nk_tw) (hd : decode μ.2.1 pc = .ok (.anewarray index, 3)) (hn : n = nI N) (hN : N ≤ 65536) (hb : bc' + 1 ≤ bc ∧ bs' + N ≤ bs) (k : ∀ q : Nat, H q = none → nk_J G μ d Φ bc' bs' (pc + 3) L (.ref q :: st) (nk_u H q (.inl (.object Cn, N, .inr (.inr (.inr (.inr (fun _ => none)))))))) : nk_J G μ d Φ bc bs pc L (.int n :: st) H := by
  intro p l e R s m args below meth c mc ms A Q C Hc locs cells slots ls hl hP hA hS h1 h2
  subst hn
  obtain ⟨Ls, n1, n2, n3⟩ := nk_list hP
  have hD : va_D A (va_pl Ls (nk_f G H)) := nk_Dpl n1 (fun b hb => hA b ((n2 b).mp hb))
  have hr := C.2.2.2.2.2.2.1
  have hK := C.2.2.2.2.2.2.2.1
  have hN2 : N < 2 ^ 31 := Nat.lt_of_le_of_lt hN (Nat.le_of_ble_eq_true rfl : 65536 + 1 ≤ 2 ^ 31)
  refine va_newq (D := G.1) C.1 C.2.1 C.2.2.2.1 (C.2.2.2.2.2.1 _ hw) (ho s C.2.2.2.2.2.2.2.2.2.1) hK n3 hD hS C.2.2.2.2.2.2.2.2.2.2.1 (nI_pos hN2) (nI_clamp hN2) (by omega) (by omega) (by omega) hd (fun q cA H1 gK gP gD gS => ?_)
  have hc : cA = G.2.1 (.object Cn) := nk_cA (gK.2 6 _ (by rfl)).2 (hK.2 t0 _ (nk_tys ht)).2
  subst hc
  obtain ⟨g1, g2, g3⟩ := nk_push (e := .inl (.object Cn, N, .inr (.inr (.inr (.inr (fun _ => none)))))) n2 gD gP
  exact k q g1 _ _ _ _ _ _ _ _ _ _ _ _ _ _ C _ _ _ _ _ hl g3 (fun b hb => (nk_u_dom hb).elim (fun z => by rw [z]; exact g2) (hA b)) gS (by omega) (by omega)
theorem nk_copy {index a0 n0 n1 : Nat} {f g : Nat → Int32} {sp dp n : Int32} (hw : Cond.methodLink μ.1.cls index arraycopyName ∈ nk_tw) (hwn : Cond.native arraycopyName ∈ nk_tw) (hws : Cond.static arraycopyName ∈ nk_tw) (hwi : Cond.initialized "java/lang/System" ∈ nk_tw) (hd : decode μ.2.1 pc = .ok (.invokestatic index, 3)) (h0 : H a0 = some (.inl (.int, n0, .inl f))) (hH : H a = some (.inl (.int, n1, .inl g))) (k1 : ¬ sp < 0) (k2 : ¬ dp < 0) (k3 : ¬ n < 0) (k4 : sp.toNatClampNeg + n.toNatClampNeg ≤ n0) (k5 : dp.toNatClampNeg + n.toNatClampNeg ≤ n1) (hdp : 1 ≤ d) (hst : (st.map fun v => v.category).sum ≤ 8)
    (k : nk_J G μ d Φ bc bs (pc + 3) L st (nk_u H a (.inl (.int, n1, .inl (va_cpy f g sp.toNatClampNeg dp.toNatClampNeg n.toNatClampNeg))))) : nk_J G μ d Φ bc bs pc L (.int n :: .int dp :: .ref a :: .int sp :: .ref a0 :: st) H := by
  intro p l e R s m args below meth c mc ms A Q C Hc locs cells slots ls hl hP hA hS h1 h2
  obtain ⟨Ls, n1', n2, n3⟩ := nk_list hP
  obtain ⟨q0, hq0⟩ := nk_get (G := G) n2 h0
  obtain ⟨q1, hq1⟩ := nk_get (G := G) n2 hH
  have hD : va_D A (va_pl Ls (nk_f G H)) := nk_Dpl n1' (fun b hb => hA b ((n2 b).mp hb))
  have hr := C.2.2.2.2.2.2.1
  have hnw : nativeFrameWords "java/lang/System" "arraycopy" 5 = 7 := by decide +kernel
  exact va_copyi C.1 C.2.1 (C.2.2.1.trans hl.1.symm) C.2.2.2.1 (C.2.2.2.2.2.1 _ hw) (C.2.2.2.2.2.1 _ hwn) (C.2.2.2.2.2.1 _ hws) (C.2.2.2.2.2.1 _ hwi) C.2.2.2.2.2.2.2.1 n3 hD hS q0 q1 0 0 hq0 hq1 (nk_tys (t0 := 0) rfl) (nk_tys (t0 := 0) rfl) rfl k1 k2 k3 k4 k5 (fun _ _ => rfl) (by omega) (by omega) hd (fun H1 locs1 gP gD gS =>
    k _ _ _ _ _ _ _ _ _ _ _ _ _ _ C _ _ _ _ _ hl (nk_set (e' := .inl (.int, n1, .inl (va_cpy f g sp.toNatClampNeg dp.toNatClampNeg n.toNatClampNeg))) n2 hD hH hq1 gP) (fun b hb => (nk_u_dom hb).elim (fun z => by rw [z]; exact hA a (by rw [hH]; rfl)) (hA b)) gS h1 h2)
end NKH
end
section
/-! contracts and calls -/
def nk_Pre (G : nk_EG) (H : nk_AH) (sz : Nat) (av : List Value) : Array Value → State → Prop := fun v U => v = av.toArray ∧ U.heap.size = sz ∧ nk_P G H U.heap ∧ nk_K G U ∧ nk_Z G (nk_A H sz) U U.heap ∧ nk_N U
def nk_Q (G : nk_EG) (H : nk_AH) (sz : Nat) (Φ : Option Value → nk_AH → Prop) : Array Value → State → Outcome → State → Prop := fun _ s o t => ∃ (r : Option Value) (H' : nk_AH), o = .returned r ∧ Φ r H' ∧ nk_P G H' t.heap ∧ (∀ a : Nat, (H' a).isSome = true → nk_A H sz a) ∧ va_F (nk_A H sz) s t
abbrev nk_ws (μ : nk_MI) : List Cond := .code μ.1 μ.2.1 μ.2.2.1 μ.2.2.2 :: nk_tw
abbrev nk_rm (d mc ms : Nat) : Room := { frames := d, cells := mc, slots := ms, locals := 64 * d }
/-- the contract of a method: with these arguments, on this heap, it returns, and Φ -/
def nk_S (G : nk_EG) (μ : nk_MI) (d mc ms : Nat) (av : List Value) (H : nk_AH) (Φ : Option Value → nk_AH → Prop) : Prop := ∀ (l : Launch) (sz : Nat), Met l μ.1 (nk_ws μ) (nk_rm d mc ms) (nk_Pre G H sz av) (nk_Q G H sz Φ) mc ms (nk_A H sz)
theorem nk_N.same {u U : State} (h : u.vm = U.vm) (hN : nk_N u) : nk_N U :=
  ⟨fun q hq => va_Nw.same rfl h (hN.1 q hq), va_Nw.same rfl h hN.2.1, va_AO.moved (by rw [h]; exact Vm.Alike.refl _) hN.2.2.1, va_AO.moved (by rw [h]; exact Vm.Alike.refl _) hN.2.2.2.1, va_AO.moved (by rw [h]; exact Vm.Alike.refl _) hN.2.2.2.2.1, over_moved (by rw [h]; exact Vm.Alike.refl _) hN.2.2.2.2.2⟩
theorem nk_N.warm {u U : State} (h : u.WarmedH U.vm) (hN : nk_N u) : nk_N U :=
  ⟨fun q hq => va_Nw.warmM h (hN.1 q hq), va_Nw.warmC h hN.2.1, va_AO.moved h.alike hN.2.2.1, va_AO.moved h.alike hN.2.2.2.1, va_AO.moved h.alike hN.2.2.2.2.1, over_moved h.alike hN.2.2.2.2.2⟩
theorem nk_Z.moved {G : nk_EG} {A : Nat → Prop} {u U : State} {Hc : Heap} (h : u.vm.Alike U.vm) (hZ : nk_Z G A u Hc) : nk_Z G A U Hc :=
  ⟨fun t n f ht => va_T.moved h (hZ.1 t n f ht), fun k q hk => va_Z.moved h (hZ.2 k q hk)⟩
theorem va_T.nkLt {ty : FieldType} {t N : Nat} {f : Nat → Value} {A : Nat → Prop} {U : State} {H : Heap} (h : va_T ty t N f A U H) : t < H.size := by
  obtain ⟨cell, h1, -⟩ := h
  exact (Array.getElem?_eq_some_iff.mp h1).1
theorem nk_Z.next {G : nk_EG} {A : Nat → Prop} {s : State} {Hc : Heap} {locs : List Loc} {H : nk_AH} (hZ : nk_Z G A s s.heap) (hA : ∀ a : Nat, (H a).isSome = true → A a) (hA2 : ∀ q : Nat, s.heap.size ≤ q → A q) (hS : va_S A s.heap Hc locs) : nk_Z G (nk_A H Hc.size) s Hc := by
  have hn : ∀ q, nk_A H Hc.size q → A q := fun q hq => hq.elim (hA q) (fun z => hA2 q (Nat.le_trans hS.1 z))
  exact ⟨fun t n f ht => ((hZ.1 t n f ht).kept hS.2.1).narrow hn, fun k q hk => ((hZ.2 k q hk).kept hS.2.1).narrow hn⟩
theorem nk_blind {G : nk_EG} {H : nk_AH} {sz : Nat} {av : List Value} : FrameBlind (nk_Pre G H sz av) := fun a U g mk q =>
  ⟨q.1, q.2.1, q.2.2.1, va_K.moved (u := U) (U := U.calling g mk a) (Vm.Alike.refl U.vm) q.2.2.2.1, nk_Z.moved (u := U) (U := U.calling g mk a) (Vm.Alike.refl U.vm) q.2.2.2.2.1, nk_N.same (u := U) (U := U.calling g mk a) rfl q.2.2.2.2.2⟩
def nk_sv (x : Slot) : Option Value := match x with
  | .val v => some v
  | _ => none
def nk_ent (av : List Value) (n : Nat) : List (Option Value) := (lg_sl av ++ List.replicate (n - (lg_sl av).length) Slot.unset).map nk_sv
theorem nk_ent_L {av : List Value} {n : Nat} (h : (lg_sl av).length ≤ n) : nk_L ((lg_sl av ++ List.replicate (n - (lg_sl av).length) Slot.unset).toArray) n (nk_ent av n) := by
  have hh := lv_entry av h
  refine ⟨hh.1, ?_, hh.2.1, fun i v hi => ?_⟩
  · have := hh.1
    rw [nk_ent, List.length_map]
    simpa using this
  · rw [nk_ent, List.getElem?_map] at hi
    rw [List.getElem?_toArray]
    cases hx : (lg_sl av ++ List.replicate (n - (lg_sl av).length) Slot.unset)[i]? with
    | none => rw [hx] at hi; cases hi
    | some x =>
      rw [hx] at hi
      cases x with
      | val w => cases hi; rfl
      | _ => cases hi
theorem nk_S.of {G : nk_EG} {μ : nk_MI} {d mc ms : Nat} {av : List Value} {H : nk_AH} {Φ : Option Value → nk_AH → Prop} (hp : plainName μ.1.cls = true) (hlen : (lg_sl av).length ≤ μ.2.2.1) {L : List (Option Value)} (hL : nk_ent av μ.2.2.1 = L) (k : nk_J G μ d Φ mc ms 0 L [] H) : nk_S G μ d mc ms av H Φ := by
  intro l sz
  subst hL
  refine Met.ofW (cc := μ.2.1) (maxL := μ.2.2.1) (ret := μ.2.2.2) hp rfl ?_
  intro p e s m args below meth c s₁ B hml hv
  obtain ⟨rfl, hsz, hP, hK, hZ, hN⟩ := hv
  subst hsz
  have hlocks := B.notSynchronized
  have hr := B.returns
  have hts := atoms_spec (ws := nk_ws μ) B.pre
  rw [lg_entry_eq]
  refine k p l e _ s m _ below meth c mc ms (nk_A H s.heap.size) _ ⟨B.exec, B.bytes, hml, findClass_of_methodNamed B.named, (name_of_methodNamed B.named B.method).1, fun w hw => hts w (List.mem_cons_of_mem _ hw), ⟨Nat.le_refl _, Nat.le_refl _, Nat.le_refl _, Nat.le_refl _⟩, hK, hZ, hN, fun q hq => Or.inr hq, ?_⟩ _ _ 0 0 _ (nk_ent_L hlen) hP (fun a ha => Or.inl ha) va_S.rf (by omega) (by omega)
  intro pc ls Hc locs ins r H' hd hro hf hP' hA' hS'
  have hq : ∀ t : State, t.heap = Hc → s.WarmedH t.vm → nk_Q G H s.heap.size Φ av.toArray s (.returned r) t := fun t ht _ => ⟨r, H', rfl, hf, by rw [ht]; exact hP', hA', hS'.F ht⟩
  rcases hro with ⟨h1, rfl, rfl⟩ | ⟨ty, v, h1, rfl, h3, rfl⟩ | ⟨v, h1, rfl, rfl⟩ | ⟨rt, v, h1, h2, h3, rfl, rfl⟩
  · exact W.vret B.exec B.bytes (hr.trans h1) hq hS'.2.2 hd
  · exact W.zret B.exec B.bytes (hr.trans h1) h3 hq hS'.2.2 hd
  · exact W.lret B.exec B.bytes (hr.trans h1) hq hS'.2.2 hd
  · exact W.aret B.exec B.bytes (hr.trans h1) h2 h3 hq hS'.2.2 hd
theorem nk_S.mono {G : nk_EG} {μ : nk_MI} {d mc ms : Nat} {av : List Value} {H : nk_AH} {Φ Ψ : Option Value → nk_AH → Prop} (h : nk_S G μ d mc ms av H Φ) (hi : ∀ r H', Φ r H' → Ψ r H') : nk_S G μ d mc ms av H Ψ := by
  intro l sz p e ha hc hk s m args below hf happ hpre htr
  obtain ⟨t, o, h1, h2, h3, ⟨r, H', g1, g2, g3⟩, h5⟩ := h l sz p e ha hc hk s m args below hf happ hpre htr
  exact ⟨t, o, h1, h2, h3, ⟨r, H', g1, hi r H' g2, g3⟩, h5⟩
section NKC
variable {p : Program} {l : Launch} {e : Env} {R : Room} {s : State} {m : MethodId} {args : Array Value} {below : List Frame} {meth : Method} {c : Code} {Hc : Heap} {locs : List Loc} {cells slots : Nat} {Q : State → Prop}
variable {G : nk_EG} {pc : Nat} {ls : Array Slot} {rest st0 : List Value} {aa : Array Value} {A : Nat → Prop} {mc' ms' : Nat} {H : nk_AH} {Ψ : Option Value → nk_AH → Prop}
theorem nk_back (hr : va_Run p l e R s m args below meth c Hc locs cells slots mc' ms' (F0 m pc ls st0) rest (nk_Q G H Hc.size Ψ aa) (nk_A H Hc.size)) (hA : ∀ a : Nat, (H a).isSome = true → A a) (hA2 : ∀ q : Nat, s.heap.size ≤ q → A q) (hS : va_S A s.heap Hc locs)
    (kk : ∀ (r : Option Value) (H' : nk_AH) (H1 : Heap) (locs1 : List Loc), Ψ r H' → nk_P G H' H1 → (∀ a : Nat, (H' a).isSome = true → A a) → va_S A s.heap H1 locs1 → W p l e R s m args below meth c H1 locs1 (cells + mc') (slots + ms') Q (F0 m (pc + 3) ls (r.toList ++ rest))) : W p l e R s m args below meth c Hc locs cells slots Q (F0 m pc ls st0) := by
  have hn : ∀ q, nk_A H Hc.size q → A q := fun q hq => hq.elim (hA q) (fun z => hA2 q (Nat.le_trans hS.1 z))
  intro T hT X
  obtain ⟨v, st₀, t, T', L, h0, X', hL, e1, e2, ⟨r, H', g1, g2, g3, g4, g5, g6⟩, st⟩ := hr T hT X
  cases g1
  rw [h0] at g5 g6
  obtain ⟨t2, a1, b1⟩ := kk v H' T'.heap (locs ++ L) g2 (by rw [e1]; exact g3) (fun a ha => hn a (g4 a ha))
    ⟨Nat.le_trans hS.1 (by rw [e1]; exact g5), fun q k1 k2 => by rw [e1, g6 q (Nat.lt_of_lt_of_le k1 hS.1) (fun z => k2 (hn q z))]; exact hS.2.1 q k1 k2, fun q hq => by
      rcases List.mem_append.mp hq with h | h
      · exact hS.2.2 q h
      · exact hn _ (hL q h)⟩ T' rfl X'
  exact ⟨t2, st t2 a1, b1⟩
end NKC
def nk_ln (μ : nk_MI) (n : Nat) : Prop := Cond.initialized μ.1.cls ∈ nk_tw ∧ Cond.code μ.1 μ.2.1 μ.2.2.1 μ.2.2.2 ∈ nk_tw ∧ (μ.1.cls ≠ "java/lang/invoke/MethodHandle" ∧ μ.1.cls ≠ "java/lang/invoke/VarHandle" ∧ (parseMethodDescriptor μ.1.desc).map (fun d => d.parameters.length) = some n) ∧ μ.2.2.1 ≤ 40
def nk_lS (own : String) (index : Nat) (μ : nk_MI) (n : Nat) : Prop := nk_ln μ n ∧ Cond.methodLink own index μ.1 ∈ nk_tw ∧ Cond.static μ.1 ∈ nk_tw
def nk_lSN (own : String) (index : Nat) (μ : nk_MI) (n : Nat) : Prop := nk_ln μ n ∧ (own, index, μ.1) ∈ nk_Nm ∧ Cond.static μ.1 ∈ nk_tw
def nk_lI (own : String) (index : Nat) (μ : nk_MI) (n : Nat) : Prop := nk_ln μ n ∧ Cond.methodLink own index μ.1 ∈ nk_tw ∧ Cond.instanceMethod μ.1 ∈ nk_tw ∧ μ.1.name = "<init>" ∧ μ.2.2.2 = none
def nk_lIN (own : String) (index : Nat) (μ : nk_MI) (n : Nat) : Prop := nk_ln μ n ∧ (own, index, μ.1) ∈ nk_Nm ∧ Cond.instanceMethod μ.1 ∈ nk_tw ∧ μ.1.name = "<init>" ∧ μ.2.2.2 = none
def nk_lV (own : String) (index ci : Nat) (μ : nk_MI) (n : Nat) : Prop := nk_ln μ n ∧ Cond.methodLink own index μ.1 ∈ nk_tw ∧ Cond.instanceMethod μ.1 ∈ nk_tw ∧ Cond.selects μ.1.cls μ.1 μ.1 ∈ nk_tw ∧ ∃ q : vw_C, vwCl[ci]? = some q ∧ q.1 = μ.1.cls
theorem nk_good {μ : nk_MI} (hc : Cond.code μ.1 μ.2.1 μ.2.2.1 μ.2.2.2 ∈ nk_tw) : GoodIn nk_tw (nk_ws μ) := fun w hw => by
  have h : w ∈ nk_tw := (List.mem_cons.mp hw).elim (fun z => by rw [z]; exact hc) id
  exact ⟨h, good_of_word (List.mem_filter.mp h).2⟩
section NKD
variable {G : nk_EG} {μ μ' : nk_MI} {d d' : Nat} {Φ Ψ : Option Value → nk_AH → Prop} {bc bs bc' bs' mc' ms' pc index n : Nat} {L : List (Option Value)} {st rest av : List Value} {H : nk_AH} {a : Nat}
theorem nk_cS (f : nk_lS μ.1.cls index μ' n) (hs : nk_S G μ' d' mc' ms' av H Ψ) (hd : decode μ.2.1 pc = .ok (.invokestatic index, 3)) (hst : st = av.reverse ++ rest) (hn : av.length = n) (hdd : d' + 1 ≤ d) (hcat : (rest.map fun v => v.category).sum ≤ 8) (hb : bc' + mc' ≤ bc ∧ bs' + ms' ≤ bs) (k : ∀ r H', Ψ r H' → nk_J G μ d Φ bc' bs' (pc + 3) L (r.toList ++ rest) H') : nk_J G μ d Φ bc bs pc L st H := by
  intro p l e R s m args below meth c mc ms A Q C Hc locs cells slots ls hl hP hA hS h1 h2
  obtain ⟨⟨f1, f2, f3, f4⟩, f5, f6⟩ := f
  have hr := C.2.2.2.2.2.2.1
  have hts := C.2.2.2.2.2.1
  subst hst
  refine nk_back (va_runS (Ts := nk_tw) (As := av) ⟨C.1, C.2.1, C.2.2.1, C.2.2.2.1, hts⟩ (hs l Hc.size) ⟨callB_of n hts (nk_good f2) rfl rfl rfl (hts _ f1) (hts _ f5) f3 ⟨by show d' + 1 ≤ _; omega, by show 8 + (μ'.2.2.1 + 11) + 64 * d' ≤ _; omega⟩, hts _ f6⟩ ⟨nk_blind, fun U hU hW => ⟨rfl, by rw [hU], by rw [hU]; exact hP, va_K.moved hW.alike C.2.2.2.2.2.2.2.1, by rw [hU]; exact nk_Z.moved hW.alike (C.2.2.2.2.2.2.2.2.1.next hA C.2.2.2.2.2.2.2.2.2.2.1 hS), C.2.2.2.2.2.2.2.2.2.1.warm hW⟩⟩ rfl hn hl.1 rfl (lv_room hcat) hd ⟨by omega, by omega⟩) hA C.2.2.2.2.2.2.2.2.2.2.1 hS (fun r H' H1 locs1 g1 g2 g3 g4 => ?_)
  exact k r H' g1 _ _ _ _ _ _ _ _ _ _ _ _ _ _ C _ _ _ _ _ hl g2 g3 g4 (by omega) (by omega)
theorem nk_cSN (f : nk_lSN μ.1.cls index μ' n) (hs : nk_S G μ' d' mc' ms' av H Ψ) (hd : decode μ.2.1 pc = .ok (.invokestatic index, 3)) (hst : st = av.reverse ++ rest) (hn : av.length = n) (hdd : d' + 1 ≤ d) (hcat : (rest.map fun v => v.category).sum ≤ 8) (hb : bc' + mc' ≤ bc ∧ bs' + ms' ≤ bs) (k : ∀ r H', Ψ r H' → nk_J G μ d Φ bc' bs' (pc + 3) L (r.toList ++ rest) H') : nk_J G μ d Φ bc bs pc L st H := by
  intro p l e R s m args below meth c mc ms A Q C Hc locs cells slots ls hl hP hA hS h1 h2
  obtain ⟨⟨f1, f2, f3, f4⟩, f5, f6⟩ := f
  have hr := C.2.2.2.2.2.2.1
  have hts := C.2.2.2.2.2.1
  subst hst
  refine nk_back (va_runSN (Ts := nk_tw) (As := av) (host := RX7) ⟨C.1, C.2.1, C.2.2.1, C.2.2.2.1, hts⟩ (hs l Hc.size) ⟨va_cnB n hts (nk_good f2) rfl rfl rfl (C.2.2.2.2.2.2.2.2.2.1.1 _ f5) (hts _ f1) f3 ⟨by show d' + 1 ≤ _; omega, by show 8 + (μ'.2.2.1 + 11) + 64 * d' ≤ _; omega⟩, hts _ f6, trivial⟩ ⟨nk_blind, fun U hU hW => ⟨rfl, by rw [hU], by rw [hU]; exact hP, va_K.moved hW.alike C.2.2.2.2.2.2.2.1, by rw [hU]; exact nk_Z.moved hW.alike (C.2.2.2.2.2.2.2.2.1.next hA C.2.2.2.2.2.2.2.2.2.2.1 hS), C.2.2.2.2.2.2.2.2.2.1.warm hW⟩⟩ rfl hn hl.1 rfl (lv_room hcat) hd ⟨by omega, by omega⟩) hA C.2.2.2.2.2.2.2.2.2.2.1 hS (fun r H' H1 locs1 g1 g2 g3 g4 => ?_)
  exact k r H' g1 _ _ _ _ _ _ _ _ _ _ _ _ _ _ C _ _ _ _ _ hl g2 g3 g4 (by omega) (by omega)
theorem nk_cI (f : nk_lI μ.1.cls index μ' n) (hs : nk_S G μ' d' mc' ms' (.ref a :: av) H Ψ) (hd : decode μ.2.1 pc = .ok (.invokespecial index, 3)) (hst : st = av.reverse ++ .ref a :: rest) (hn : av.length = n) (hdd : d' + 1 ≤ d) (hcat : (rest.map fun v => v.category).sum ≤ 8) (hb : bc' + mc' ≤ bc ∧ bs' + ms' ≤ bs) (k : ∀ r H', Ψ r H' → nk_J G μ d Φ bc' bs' (pc + 3) L (r.toList ++ rest) H') : nk_J G μ d Φ bc bs pc L st H := by
  intro p l e R s m args below meth c mc ms A Q C Hc locs cells slots ls hl hP hA hS h1 h2
  obtain ⟨⟨f1, f2, f3, f4⟩, f5, f6, f7, f8⟩ := f
  have hr := C.2.2.2.2.2.2.1
  have hts := C.2.2.2.2.2.1
  subst hst
  have f2' : Cond.code μ'.1 μ'.2.1 μ'.2.2.1 none ∈ nk_tw := by rw [← f8]; exact f2
  have hw : nk_ws μ' = Cond.code μ'.1 μ'.2.1 μ'.2.2.1 none :: nk_tw := by rw [nk_ws, f8]
  refine nk_back (va_runI (Ts := nk_tw) (As := av) (b := a) ⟨C.1, C.2.1, C.2.2.1, C.2.2.2.1, hts⟩ (hs l Hc.size) ⟨callB_of n hts (nk_good f2) hw rfl rfl (hts _ f1) (hts _ f5) f3 ⟨by show d' + 1 ≤ _; omega, by show 8 + (μ'.2.2.1 + 11) + 64 * d' ≤ _; omega⟩, f7, hts _ f6⟩ ⟨nk_blind, fun U hU hW => ⟨rfl, by rw [hU], by rw [hU]; exact hP, va_K.moved hW.alike C.2.2.2.2.2.2.2.1, by rw [hU]; exact nk_Z.moved hW.alike (C.2.2.2.2.2.2.2.2.1.next hA C.2.2.2.2.2.2.2.2.2.2.1 hS), C.2.2.2.2.2.2.2.2.2.1.warm hW⟩⟩ rfl hn hl.1 rfl (lv_room hcat) hd ⟨by omega, by omega⟩) hA C.2.2.2.2.2.2.2.2.2.2.1 hS (fun r H' H1 locs1 g1 g2 g3 g4 => ?_)
  exact k r H' g1 _ _ _ _ _ _ _ _ _ _ _ _ _ _ C _ _ _ _ _ hl g2 g3 g4 (by omega) (by omega)
theorem nk_cIN (f : nk_lIN μ.1.cls index μ' n) (hs : nk_S G μ' d' mc' ms' (.ref a :: av) H Ψ) (hd : decode μ.2.1 pc = .ok (.invokespecial index, 3)) (hst : st = av.reverse ++ .ref a :: rest) (hn : av.length = n) (hdd : d' + 1 ≤ d) (hcat : (rest.map fun v => v.category).sum ≤ 8) (hb : bc' + mc' ≤ bc ∧ bs' + ms' ≤ bs) (k : ∀ r H', Ψ r H' → nk_J G μ d Φ bc' bs' (pc + 3) L (r.toList ++ rest) H') : nk_J G μ d Φ bc bs pc L st H := by
  intro p l e R s m args below meth c mc ms A Q C Hc locs cells slots ls hl hP hA hS h1 h2
  obtain ⟨⟨f1, f2, f3, f4⟩, f5, f6, f7, f8⟩ := f
  have hr := C.2.2.2.2.2.2.1
  have hts := C.2.2.2.2.2.1
  subst hst
  have hw : nk_ws μ' = Cond.code μ'.1 μ'.2.1 μ'.2.2.1 none :: nk_tw := by rw [nk_ws, f8]
  refine nk_back (va_runIN (Ts := nk_tw) (As := av) (b := a) (host := RX7) ⟨C.1, C.2.1, C.2.2.1, C.2.2.2.1, hts⟩ (hs l Hc.size) ⟨va_cnB n hts (nk_good f2) hw rfl rfl (C.2.2.2.2.2.2.2.2.2.1.1 _ f5) (hts _ f1) f3 ⟨by show d' + 1 ≤ _; omega, by show 8 + (μ'.2.2.1 + 11) + 64 * d' ≤ _; omega⟩, f7, hts _ f6⟩ ⟨nk_blind, fun U hU hW => ⟨rfl, by rw [hU], by rw [hU]; exact hP, va_K.moved hW.alike C.2.2.2.2.2.2.2.1, by rw [hU]; exact nk_Z.moved hW.alike (C.2.2.2.2.2.2.2.2.1.next hA C.2.2.2.2.2.2.2.2.2.2.1 hS), C.2.2.2.2.2.2.2.2.2.1.warm hW⟩⟩ rfl hn hl.1 rfl (lv_room hcat) hd ⟨by omega, by omega⟩) hA C.2.2.2.2.2.2.2.2.2.2.1 hS (fun r H' H1 locs1 g1 g2 g3 g4 => ?_)
  exact k r H' g1 _ _ _ _ _ _ _ _ _ _ _ _ _ _ C _ _ _ _ _ hl g2 g3 g4 (by omega) (by omega)
theorem nk_cV {ci : Nat} {fs : List Value} (f : nk_lV μ.1.cls index ci μ' n) (hs : nk_S G μ' d' mc' ms' (.ref a :: av) H Ψ) (hd : decode μ.2.1 pc = .ok (.invokevirtual index, 3)) (hH : H a = some (.inr (ci, fs))) (hst : st = av.reverse ++ .ref a :: rest) (hn : av.length = n) (hdd : d' + 1 ≤ d) (hcat : (rest.map fun v => v.category).sum ≤ 8) (hb : bc' + mc' ≤ bc ∧ bs' + ms' ≤ bs) (k : ∀ r H', Ψ r H' → nk_J G μ d Φ bc' bs' (pc + 3) L (r.toList ++ rest) H') : nk_J G μ d Φ bc bs pc L st H := by
  intro p l e R s m args below meth c mc ms A Q C Hc locs cells slots ls hl hP hA hS h1 h2
  obtain ⟨⟨f1, f2, f3, f4⟩, f5, f6, f7, q, f8, f9⟩ := f
  have hr := C.2.2.2.2.2.2.1
  have hts := C.2.2.2.2.2.1
  subst hst
  have hw : va_P G.1 vwCl [(a, nk_e G.2.1 (.inr (ci, fs)))] Hc := fun k q hk => by
    cases k with
    | zero => cases hk; exact hP a _ hH
    | succ k => cases hk
  have hrc := va_recv C.2.2.2.2.2.2.2.1 hw f8 (q0 := 0) rfl
  rw [f9] at hrc
  refine nk_back (va_runV (Ts := nk_tw) (As := av) (b := a) (C := μ'.1.cls) ⟨C.1, C.2.1, C.2.2.1, C.2.2.2.1, hts⟩ (hs l Hc.size) ⟨callB_of n hts (nk_good f2) rfl rfl rfl (hts _ f1) (hts _ f5) f3 ⟨by show d' + 1 ≤ _; omega, by show 8 + (μ'.2.2.1 + 11) + 64 * d' ≤ _; omega⟩, hts _ f6, hts _ f7⟩ ⟨nk_blind, hrc, fun U hU hW => ⟨rfl, by rw [hU], by rw [hU]; exact hP, va_K.moved hW.alike C.2.2.2.2.2.2.2.1, by rw [hU]; exact nk_Z.moved hW.alike (C.2.2.2.2.2.2.2.2.1.next hA C.2.2.2.2.2.2.2.2.2.2.1 hS), C.2.2.2.2.2.2.2.2.2.1.warm hW⟩⟩ rfl hn hl.1 rfl (lv_room hcat) hd ⟨by omega, by omega⟩) hA C.2.2.2.2.2.2.2.2.2.2.1 hS (fun r H' H1 locs1 g1 g2 g3 g4 => ?_)
  exact k r H' g1 _ _ _ _ _ _ _ _ _ _ _ _ _ _ C _ _ _ _ _ hl g2 g3 g4 (by omega) (by omega)
theorem nk_objInit (hw1 : Cond.methodLink μ.1.cls index objectInit ∈ nk_tw) (hw2 : Cond.instanceMethod objectInit ∈ nk_tw) (hw3 : Cond.code objectInit ⟨#[0xb1]⟩ 1 none ∈ nk_tw) (hd : decode μ.2.1 pc = .ok (.invokespecial index, 3)) (hdd : 1 ≤ d) (hcat : (st.map fun v => v.category).sum ≤ 8) (k : nk_J G μ d Φ bc bs (pc + 3) L st H) : nk_J G μ d Φ bc bs pc L (.ref a :: st) H := by
  intro p l e R s m args below meth c mc ms A Q C Hc locs cells slots ls hl hP hA hS h1 h2
  have hr := C.2.2.2.2.2.2.1
  have hts := C.2.2.2.2.2.1
  refine W.objInit C.1 C.2.1 C.2.2.2.1 (hts _ hw1) (hts _ hw2) (hts _ hw3) rfl (by show ls.size = _; rw [hl.1, C.2.2.1]) rfl hd (by omega) (by have := lv_room (m := m) (pc := pc) (ls := ls) (rest := .ref a :: st) hcat; omega) ?_
  exact k _ _ _ _ _ _ _ _ _ _ _ _ _ _ C _ _ _ _ _ hl hP hA hS h1 h2
end NKD
end
section
/-! the links of each constant pool entry that is used, out of the tables (by program) -/
theorem nk_inl {ws : List Cond} (ps : List Nat) (hp : ws = ps.filterMap (fun i => lw_tbl[i]?)) (h : ws.all goodWord = true) : ∀ w ∈ ws, w ∈ nk_tw := fun w hw => by
  have g := List.all_eq_true.mp h w hw
  rw [hp] at hw
  obtain ⟨i, -, hi⟩ := List.mem_filterMap.mp hw
  exact List.mem_filter.mpr ⟨List.mem_of_getElem? hi, g⟩
theorem nk_oi1 : Cond.instanceMethod objectInit ∈ nk_tw := nk_in 85 (by decide +kernel) rfl
theorem nk_oi2 : Cond.code objectInit ⟨#[0xb1]⟩ 1 none ∈ nk_tw := nk_in 86 (by decide +kernel) rfl
theorem ftX0 : ∀ w ∈ u_ws RX0 TX0 4, w ∈ nk_tw := nk_inl [138, 140, 142, 144] (by decide +kernel) (by decide +kernel)
theorem ftX1 : ∀ w ∈ u_ws RX1 TX1 2, w ∈ nk_tw := nk_inl [155, 157] (by decide +kernel) (by decide +kernel)
theorem ftX2 : ∀ w ∈ u_ws RX2 TX2 6, w ∈ nk_tw := nk_inl [346, 348, 350, 352, 354, 356] (by decide +kernel) (by decide +kernel)
theorem ftX4 : ∀ w ∈ u_ws RX4 TX4 2, w ∈ nk_tw := nk_inl [210, 212] (by decide +kernel) (by decide +kernel)
theorem ftX5 : ∀ w ∈ u_ws RX5 TX5 4, w ∈ nk_tw := nk_inl [296, 298, 300, 302] (by decide +kernel) (by decide +kernel)
theorem ftX6 : ∀ w ∈ u_ws RX6 TX6 7, w ∈ nk_tw := nk_inl [105, 107, 109, 111, 113, 115, 117] (by decide +kernel) (by decide +kernel)
theorem ftX7 : ∀ w ∈ u_ws RX7 TX7 8, w ∈ nk_tw := nk_inl [168, 170, 172, 174, 176, 178, 180, 182] (by decide +kernel) (by decide +kernel)
theorem ftX8 : ∀ w ∈ u_ws RX8 TX8 15, w ∈ nk_tw := nk_inl [871, 873, 875, 877, 879, 881, 883, 885, 887, 889, 891, 893, 895, 897, 899] (by decide +kernel) (by decide +kernel)
abbrev mX7_init : nk_MI := (yX7_init, cX7_init, 1, none)
abbrev mX6_init : nk_MI := (yX6_init, cX6_init, 1, none)
abbrev mX0_init : nk_MI := (yX0_init, cX0_init, 1, none)
abbrev mX1_init : nk_MI := (yX1_init, cX1_init, 1, none)
abbrev mX7_row : nk_MI := (yX7_row, cX7_row, 4, (some FieldType.int))
abbrev mX7_isRow : nk_MI := (yX7_isRow, cX7_isRow, 1, (some FieldType.boolean))
abbrev mX7_within : nk_MI := (yX7_within, cX7_within, 3, (some FieldType.boolean))
abbrev mX7_found : nk_MI := (yX7_found, cX7_found, 2, (some FieldType.int))
abbrev mX4_init : nk_MI := (yX4_init, cX4_init, 3, none)
abbrev mX7_fine : nk_MI := (yX7_fine, cX7_fine, 2, (some FieldType.int))
abbrev mX7_set : nk_MI := (yX7_set, cX7_set, 5, (some FieldType.int))
abbrev mX4_spans : nk_MI := (yX4_spans, cX4_spans, 3, (some FieldType.boolean))
abbrev mX4_store : nk_MI := (yX4_store, cX4_store, 4, (some FieldType.int))
abbrev mX7_copy : nk_MI := (yX7_copy, cX7_copy, 8, (some FieldType.int))
abbrev mX7_drop : nk_MI := (yX7_drop, cX7_drop, 3, (some FieldType.int))
abbrev mX7_feed : nk_MI := (yX7_feed, cX7_feed, 2, (some FieldType.int))
abbrev mX6_append : nk_MI := (yX6_append, cX6_append, 2, (some FieldType.int))
abbrev mX7_shelf : nk_MI := (yX7_shelf, cX7_shelf, 2, (some FieldType.int))
abbrev mX6_readShelf : nk_MI := (yX6_readShelf, cX6_readShelf, 4, (some (FieldType.object "NextKeys$Shelf")))
abbrev mX6_advance : nk_MI := (yX6_advance, cX6_advance, 2, none)
abbrev mX6_isFigure : nk_MI := (yX6_isFigure, cX6_isFigure, 1, (some FieldType.boolean))
abbrev mX6_takeFigures : nk_MI := (yX6_takeFigures, cX6_takeFigures, 1, none)
abbrev mX6_expect : nk_MI := (yX6_expect, cX6_expect, 2, none)
abbrev mX6_fail : nk_MI := (yX6_fail, cX6_fail, 2, none)
abbrev mX6_readNumber : nk_MI := (yX6_readNumber, cX6_readNumber, 4, (some FieldType.int))
abbrev mX5_init : nk_MI := (yX5_init, cX5_init, 2, none)
abbrev mX6_readSet : nk_MI := (yX6_readSet, cX6_readSet, 7, none)
abbrev mX6_sortOf : nk_MI := (yX6_sortOf, cX6_sortOf, 1, (some FieldType.int))
abbrev mX5_append : nk_MI := (yX5_append, cX5_append, 3, (some (FieldType.object "NextKeys$KeySet")))
abbrev mX2_init : nk_MI := (yX2_init, cX2_init, 4, none)
abbrev mX3_lowOf : nk_MI := (yX3_lowOf, cX3_lowOf, 1, (some FieldType.int))
abbrev mX3_highOf : nk_MI := (yX3_highOf, cX3_highOf, 1, (some FieldType.int))
abbrev mX2_wordsFor : nk_MI := (yX2_wordsFor, cX2_wordsFor, 1, (some FieldType.int))
abbrev mJ9_min_7cf53 : nk_MI := (yJ9_min_7cf53, cJ9_min_7cf53, 2, (some FieldType.int))
abbrev mX2_put : nk_MI := (yX2_put, cX2_put, 2, none)
abbrev mX0_forget : nk_MI := (yX0_forget, cX0_forget, 1, none)
abbrev mX7_fault : nk_MI := (yX7_fault, cX7_fault, 1, (some FieldType.int))
abbrev mX7_undo : nk_MI := (yX7_undo, cX7_undo, 1, (some FieldType.int))
abbrev mX0_takeBack : nk_MI := (yX0_takeBack, cX0_takeBack, 2, none)
abbrev mX2_become : nk_MI := (yX2_become, cX2_become, 2, none)
abbrev mX7_add : nk_MI := (yX7_add, cX7_add, 4, (some FieldType.int))
abbrev mX7_setWith : nk_MI := (yX7_setWith, cX7_setWith, 3, (some (FieldType.object "NextKeys$KeySet")))
abbrev mX5_isKey : nk_MI := (yX5_isKey, cX5_isKey, 2, (some FieldType.boolean))
abbrev mX5_numbered : nk_MI := (yX5_numbered, cX5_numbered, 2, (some (FieldType.object "NextKeys$KeySet")))
abbrev mX2_holds : nk_MI := (yX2_holds, cX2_holds, 2, (some FieldType.boolean))
abbrev mX7_turned : nk_MI := (yX7_turned, cX7_turned, 4, (some FieldType.int))
abbrev mX0_keep : nk_MI := (yX0_keep, cX0_keep, 2, none)
abbrev mX2_turn : nk_MI := (yX2_turn, cX2_turn, 4, none)
abbrev mX2_spanIn : nk_MI := (yX2_spanIn, cX2_spanIn, 5, (some FieldType.int))
abbrev mJ9_max_7cf53 : nk_MI := (yJ9_max_7cf53, cJ9_max_7cf53, 2, (some FieldType.int))
abbrev mX2_size : nk_MI := (yX2_size, cX2_size, 1, (some FieldType.int))
abbrev mX2_sizeWithin : nk_MI := (yX2_sizeWithin, cX2_sizeWithin, 5, (some FieldType.int))
abbrev mJ6_bitCount_0f7a4 : nk_MI := (yJ6_bitCount_0f7a4, cJ6_bitCount_0f7a4, 1, (some FieldType.int))
abbrev mX7_take : nk_MI := (yX7_take, cX7_take, 4, (some FieldType.int))
abbrev mX7_flip : nk_MI := (yX7_flip, cX7_flip, 5, (some FieldType.int))
abbrev mX2_isKey : nk_MI := (yX2_isKey, cX2_isKey, 2, (some FieldType.boolean))
abbrev mX7_join : nk_MI := (yX7_join, cX7_join, 8, (some FieldType.int))
abbrev mX7_setAt : nk_MI := (yX7_setAt, cX7_setAt, 2, (some (FieldType.object "NextKeys$KeySet")))
abbrev mX2_becomeJoined : nk_MI := (yX2_becomeJoined, cX2_becomeJoined, 5, none)
abbrev mX2_joined : nk_MI := (yX2_joined, cX2_joined, 3, (some FieldType.int))
abbrev mX7_shift : nk_MI := (yX7_shift, cX7_shift, 4, (some FieldType.int))
abbrev mX2_moveBy : nk_MI := (yX2_moveBy, cX2_moveBy, 4, none)
abbrev mX2_cutOut : nk_MI := (yX2_cutOut, cX2_cutOut, 5, (some FieldType.int))
abbrev mX2_wordOf : nk_MI := (yX2_wordOf, cX2_wordOf, 2, (some FieldType.int))
abbrev mX7_gather : nk_MI := (yX7_gather, cX7_gather, 8, (some FieldType.int))
abbrev mX7_allKeys : nk_MI := (yX7_allKeys, cX7_allKeys, 5, (some FieldType.boolean))
abbrev mX7_contains : nk_MI := (yX7_contains, cX7_contains, 4, (some FieldType.int))
abbrev mX7_keys : nk_MI := (yX7_keys, cX7_keys, 3, (some FieldType.int))
abbrev mX7_end : nk_MI := (yX7_end, cX7_end, 4, (some FieldType.int))
abbrev mX2_least : nk_MI := (yX2_least, cX2_least, 1, (some FieldType.int))
abbrev mX2_from : nk_MI := (yX2_from, cX2_from, 4, (some FieldType.int))
abbrev mX3_leastOf : nk_MI := (yX3_leastOf, cX3_leastOf, 1, (some FieldType.int))
abbrev mJ6_numberOfTrailingZeros_0f7a4 : nk_MI := (yJ6_numberOfTrailingZeros_0f7a4, cJ6_numberOfTrailingZeros_0f7a4, 2, (some FieldType.int))
abbrev mX2_greatest : nk_MI := (yX2_greatest, cX2_greatest, 1, (some FieldType.int))
abbrev mX2_upTo : nk_MI := (yX2_upTo, cX2_upTo, 4, (some FieldType.int))
abbrev mX3_greatestOf : nk_MI := (yX3_greatestOf, cX3_greatestOf, 1, (some FieldType.int))
abbrev mJ6_numberOfLeadingZeros_0f7a4 : nk_MI := (yJ6_numberOfLeadingZeros_0f7a4, cJ6_numberOfLeadingZeros_0f7a4, 2, (some FieldType.int))
abbrev mX7_next : nk_MI := (yX7_next, cX7_next, 4, (some FieldType.int))
abbrev mX2_following : nk_MI := (yX2_following, cX2_following, 2, (some FieldType.int))
abbrev mX2_eitherOf : nk_MI := (yX2_eitherOf, cX2_eitherOf, 2, (some FieldType.int))
abbrev mX7_beside : nk_MI := (yX7_beside, cX7_beside, 5, (some FieldType.int))
abbrev mX7_steps : nk_MI := (yX7_steps, cX7_steps, 4, (some FieldType.int))
abbrev mX2_rootSteps : nk_MI := (yX2_rootSteps, cX2_rootSteps, 6, (some FieldType.int))
abbrev mX2_clusterAt : nk_MI := (yX2_clusterAt, cX2_clusterAt, 5, (some FieldType.int))
abbrev mX3_withoutLeast : nk_MI := (yX3_withoutLeast, cX3_withoutLeast, 1, (some FieldType.int))
abbrev mX3_clusterIn : nk_MI := (yX3_clusterIn, cX3_clusterIn, 4, (some FieldType.int))
abbrev mX3_stepsAbove : nk_MI := (yX3_stepsAbove, cX3_stepsAbove, 7, (some FieldType.int))
abbrev mX3_summaryIn : nk_MI := (yX3_summaryIn, cX3_summaryIn, 4, (some FieldType.int))
abbrev mX2_rootSummary : nk_MI := (yX2_rootSummary, cX2_rootSummary, 4, (some FieldType.int))
abbrev mX7_tree : nk_MI := (yX7_tree, cX7_tree, 4, (some FieldType.int))
abbrev mX2_rootNodes : nk_MI := (yX2_rootNodes, cX2_rootNodes, 4, (some FieldType.int))
abbrev mX3_nodesOf : nk_MI := (yX3_nodesOf, cX3_nodesOf, 5, (some FieldType.int))
abbrev mX2_rootDepth : nk_MI := (yX2_rootDepth, cX2_rootDepth, 4, (some FieldType.int))
abbrev mX3_depthOf : nk_MI := (yX3_depthOf, cX3_depthOf, 5, (some FieldType.int))
abbrev mX7_cluster : nk_MI := (yX7_cluster, cX7_cluster, 5, (some FieldType.int))
abbrev mX2_isHigh : nk_MI := (yX2_isHigh, cX2_isHigh, 2, (some FieldType.boolean))
abbrev mX3_about : nk_MI := (yX3_about, cX3_about, 3, (some FieldType.int))
abbrev mX7_summary : nk_MI := (yX7_summary, cX7_summary, 4, (some FieldType.int))
abbrev mX7_word : nk_MI := (yX7_word, cX7_word, 5, (some FieldType.int))
abbrev mX2_hasWord : nk_MI := (yX2_hasWord, cX2_hasWord, 3, (some FieldType.boolean))
abbrev mX2_wordAt : nk_MI := (yX2_wordAt, cX2_wordAt, 3, (some FieldType.int))
abbrev mX2_upperWord : nk_MI := (yX2_upperWord, cX2_upperWord, 3, (some FieldType.int))
abbrev mX7_bits : nk_MI := (yX7_bits, cX7_bits, 7, (some FieldType.int))
abbrev mX7_share : nk_MI := (yX7_share, cX7_share, 5, (some FieldType.int))
abbrev mX7_floatBits : nk_MI := (yX7_floatBits, cX7_floatBits, 11, (some FieldType.int))
abbrev mX2_total : nk_MI := (yX2_total, cX2_total, 3, (some FieldType.int))
abbrev mX7_rank : nk_MI := (yX7_rank, cX7_rank, 4, (some FieldType.int))
abbrev mX7_nth : nk_MI := (yX7_nth, cX7_nth, 4, (some FieldType.int))
abbrev mX2_keyAt : nk_MI := (yX2_keyAt, cX2_keyAt, 7, (some FieldType.int))
abbrev mX7_near : nk_MI := (yX7_near, cX7_near, 4, (some FieldType.int))
abbrev mX2_nearest : nk_MI := (yX2_nearest, cX2_nearest, 4, (some FieldType.int))
abbrev mX7_tell : nk_MI := (yX7_tell, cX7_tell, 9, (some FieldType.int))
abbrev mX7_chase : nk_MI := (yX7_chase, cX7_chase, 9, (some FieldType.int))
abbrev mX7_meet : nk_MI := (yX7_meet, cX7_meet, 2, (some FieldType.int))
abbrev mX5_commonFrom : nk_MI := (yX5_commonFrom, cX5_commonFrom, 5, (some FieldType.int))
abbrev mX7_cover : nk_MI := (yX7_cover, cX7_cover, 5, (some FieldType.int))
abbrev mX5_fewestOver : nk_MI := (yX5_fewestOver, cX5_fewestOver, 6, (some FieldType.int))
abbrev mX5_isCovered : nk_MI := (yX5_isCovered, cX5_isCovered, 7, (some FieldType.boolean))
abbrev mX7_gap : nk_MI := (yX7_gap, cX7_gap, 5, (some FieldType.int))
abbrev mX2_widestFrom : nk_MI := (yX2_widestFrom, cX2_widestFrom, 6, (some FieldType.int))
abbrev mX7_likely : nk_MI := (yX7_likely, cX7_likely, 13, (some FieldType.long))
abbrev mX7_sharedFactor : nk_MI := (yX7_sharedFactor, cX7_sharedFactor, 11, (some FieldType.long))
abbrev mJ9_max_f86c9 : nk_MI := (yJ9_max_f86c9, cJ9_max_f86c9, 4, (some FieldType.long))
abbrev mX7_drawn : nk_MI := (yX7_drawn, cX7_drawn, 5, (some FieldType.int))
abbrev mX5_twin : nk_MI := (yX5_twin, cX5_twin, 4, (some (FieldType.object "NextKeys$Shelf")))
abbrev mX5_draw : nk_MI := (yX5_draw, cX5_draw, 8, none)
abbrev mX5_sizeOfAll : nk_MI := (yX5_sizeOfAll, cX5_sizeOfAll, 3, (some FieldType.int))
abbrev mX5_nodesOfAll : nk_MI := (yX5_nodesOfAll, cX5_nodesOfAll, 3, (some FieldType.int))
abbrev mX7_image : nk_MI := (yX7_image, cX7_image, 2, (some FieldType.int))
abbrev mX7_restore : nk_MI := (yX7_restore, cX7_restore, 3, (some FieldType.int))
abbrev mX7_kind : nk_MI := (yX7_kind, cX7_kind, 3, (some FieldType.int))
abbrev mX7_as : nk_MI := (yX7_as, cX7_as, 4, (some FieldType.int))
abbrev mX7_isSuch : nk_MI := (yX7_isSuch, cX7_isSuch, 4, (some FieldType.boolean))
abbrev mX7_ask : nk_MI := (yX7_ask, cX7_ask, 4, (some FieldType.int))
abbrev mX1_answerAnew : nk_MI := (yX1_answerAnew, cX1_answerAnew, 3, (some FieldType.int))
abbrev mX1_answer : nk_MI := (yX1_answer, cX1_answer, 4, (some FieldType.int))
abbrev mX1_body : nk_MI := (yX1_body, cX1_body, 5, (some FieldType.int))
abbrev mX1_leave : nk_MI := (yX1_leave, cX1_leave, 2, none)
abbrev mX7_trace : nk_MI := (yX7_trace, cX7_trace, 2, (some FieldType.int))
abbrev mX1_leftAt : nk_MI := (yX1_leftAt, cX1_leftAt, 2, (some FieldType.int))
abbrev mX7_count : nk_MI := (yX7_count, cX7_count, 2, (some FieldType.int))
abbrev mX7_rowsThere : nk_MI := (yX7_rowsThere, cX7_rowsThere, 6, (some FieldType.int))
abbrev mX7_status : nk_MI := (yX7_status, cX7_status, 1, (some FieldType.int))
abbrev mX8_init : nk_MI := (yX8_init, cX8_init, 1, none)
abbrev mX8_row : nk_MI := (yX8_row, cX8_row, 5, (some FieldType.int))
abbrev mX8_isRow : nk_MI := (yX8_isRow, cX8_isRow, 1, (some FieldType.boolean))
abbrev mX8_in : nk_MI := (yX8_in, cX8_in, 6, (some FieldType.boolean))
abbrev mX8_find : nk_MI := (yX8_find, cX8_find, 2, (some FieldType.int))
abbrev mX8_well : nk_MI := (yX8_well, cX8_well, 2, (some FieldType.int))
abbrev mX8_set : nk_MI := (yX8_set, cX8_set, 4, (some FieldType.int))
abbrev mX8_narrow : nk_MI := (yX8_narrow, cX8_narrow, 2, (some FieldType.int))
abbrev mX8_copy : nk_MI := (yX8_copy, cX8_copy, 9, (some FieldType.int))
abbrev mX8_isSpan : nk_MI := (yX8_isSpan, cX8_isSpan, 4, (some FieldType.boolean))
abbrev mX8_drop : nk_MI := (yX8_drop, cX8_drop, 3, (some FieldType.int))
abbrev mX8_feed : nk_MI := (yX8_feed, cX8_feed, 2, (some FieldType.int))
abbrev mX8_shelf : nk_MI := (yX8_shelf, cX8_shelf, 2, (some FieldType.int))
abbrev mX8_reads : nk_MI := (yX8_reads, cX8_reads, 2, (some FieldType.boolean))
abbrev mX8_readsLaw : nk_MI := (yX8_readsLaw, cX8_readsLaw, 1, (some FieldType.boolean))
abbrev mX8_sign : nk_MI := (yX8_sign, cX8_sign, 2, (some FieldType.boolean))
abbrev mX8_isLetter : nk_MI := (yX8_isLetter, cX8_isLetter, 2, (some FieldType.boolean))
abbrev mX8_refuse : nk_MI := (yX8_refuse, cX8_refuse, 2, (some FieldType.boolean))
abbrev mX8_readsNumber : nk_MI := (yX8_readsNumber, cX8_readsNumber, 4, (some FieldType.boolean))
abbrev mX8_isFigure : nk_MI := (yX8_isFigure, cX8_isFigure, 2, (some FieldType.boolean))
abbrev mX8_kindOfLetter : nk_MI := (yX8_kindOfLetter, cX8_kindOfLetter, 1, (some FieldType.int))
abbrev mX8_readsSet : nk_MI := (yX8_readsSet, cX8_readsSet, 4, (some FieldType.boolean))
abbrev mX8_copyShelf : nk_MI := (yX8_copyShelf, cX8_copyShelf, 4, none)
abbrev mX8_fault : nk_MI := (yX8_fault, cX8_fault, 1, (some FieldType.int))
abbrev mX8_undo : nk_MI := (yX8_undo, cX8_undo, 1, (some FieldType.int))
abbrev mX8_add : nk_MI := (yX8_add, cX8_add, 3, (some FieldType.int))
abbrev mX8_turnOne : nk_MI := (yX8_turnOne, cX8_turnOne, 4, (some FieldType.int))
abbrev mX8_isSet : nk_MI := (yX8_isSet, cX8_isSet, 2, (some FieldType.boolean))
abbrev mX8_isKey : nk_MI := (yX8_isKey, cX8_isKey, 3, (some FieldType.boolean))
abbrev mX8_top : nk_MI := (yX8_top, cX8_top, 1, (some FieldType.int))
abbrev mX8_isShelf : nk_MI := (yX8_isShelf, cX8_isShelf, 1, (some FieldType.boolean))
abbrev mX8_hasKey : nk_MI := (yX8_hasKey, cX8_hasKey, 4, (some FieldType.boolean))
abbrev mX8_has : nk_MI := (yX8_has, cX8_has, 2, (some FieldType.boolean))
abbrev mX8_keepPast : nk_MI := (yX8_keepPast, cX8_keepPast, 2, none)
abbrev mX8_turnKey : nk_MI := (yX8_turnKey, cX8_turnKey, 4, none)
abbrev mX8_keysOf : nk_MI := (yX8_keysOf, cX8_keysOf, 5, (some FieldType.int))
abbrev mX8_ones : nk_MI := (yX8_ones, cX8_ones, 3, (some FieldType.int))
abbrev mX8_take : nk_MI := (yX8_take, cX8_take, 3, (some FieldType.int))
abbrev mX8_flip : nk_MI := (yX8_flip, cX8_flip, 5, (some FieldType.int))
abbrev mX8_join : nk_MI := (yX8_join, cX8_join, 8, (some FieldType.int))
abbrev mX8_shift : nk_MI := (yX8_shift, cX8_shift, 4, (some FieldType.int))
abbrev mX8_gather : nk_MI := (yX8_gather, cX8_gather, 6, (some FieldType.int))
abbrev mX8_contains : nk_MI := (yX8_contains, cX8_contains, 3, (some FieldType.int))
abbrev mX8_keys : nk_MI := (yX8_keys, cX8_keys, 2, (some FieldType.int))
abbrev mX8_end : nk_MI := (yX8_end, cX8_end, 3, (some FieldType.int))
abbrev mX8_leastOf : nk_MI := (yX8_leastOf, cX8_leastOf, 2, (some FieldType.int))
abbrev mX8_above : nk_MI := (yX8_above, cX8_above, 4, (some FieldType.int))
abbrev mX8_greatestOf : nk_MI := (yX8_greatestOf, cX8_greatestOf, 2, (some FieldType.int))
abbrev mX8_below : nk_MI := (yX8_below, cX8_below, 4, (some FieldType.int))
abbrev mX8_next : nk_MI := (yX8_next, cX8_next, 3, (some FieldType.int))
abbrev mX8_nextOf : nk_MI := (yX8_nextOf, cX8_nextOf, 5, (some FieldType.int))
abbrev mX8_beside : nk_MI := (yX8_beside, cX8_beside, 4, (some FieldType.int))
abbrev mX8_steps : nk_MI := (yX8_steps, cX8_steps, 6, (some FieldType.int))
abbrev mX8_lowBits : nk_MI := (yX8_lowBits, cX8_lowBits, 1, (some FieldType.int))
abbrev mX8_clusterOf : nk_MI := (yX8_clusterOf, cX8_clusterOf, 8, (some FieldType.int))
abbrev mX8_greatestBit : nk_MI := (yX8_greatestBit, cX8_greatestBit, 2, (some FieldType.int))
abbrev mX8_stepsIn : nk_MI := (yX8_stepsIn, cX8_stepsIn, 11, (some FieldType.int))
abbrev mX8_leastBit : nk_MI := (yX8_leastBit, cX8_leastBit, 2, (some FieldType.int))
abbrev mX8_rest : nk_MI := (yX8_rest, cX8_rest, 1, (some FieldType.int))
abbrev mX8_part : nk_MI := (yX8_part, cX8_part, 4, (some FieldType.int))
abbrev mX8_highs : nk_MI := (yX8_highs, cX8_highs, 5, (some FieldType.int))
abbrev mX8_summaryOf : nk_MI := (yX8_summaryOf, cX8_summaryOf, 4, (some FieldType.int))
abbrev mX8_highBits : nk_MI := (yX8_highBits, cX8_highBits, 1, (some FieldType.int))
abbrev mX8_tree : nk_MI := (yX8_tree, cX8_tree, 3, (some FieldType.int))
abbrev mX8_nodesIn : nk_MI := (yX8_nodesIn, cX8_nodesIn, 4, (some FieldType.int))
abbrev mX8_nodesOf : nk_MI := (yX8_nodesOf, cX8_nodesOf, 2, (some FieldType.int))
abbrev mX8_nodes1 : nk_MI := (yX8_nodes1, cX8_nodes1, 1, (some FieldType.int))
abbrev mX8_nodes2 : nk_MI := (yX8_nodes2, cX8_nodes2, 2, (some FieldType.int))
abbrev mX8_nodes3 : nk_MI := (yX8_nodes3, cX8_nodes3, 4, (some FieldType.int))
abbrev mX8_nodes4 : nk_MI := (yX8_nodes4, cX8_nodes4, 4, (some FieldType.int))
abbrev mX8_nodes5 : nk_MI := (yX8_nodes5, cX8_nodes5, 4, (some FieldType.int))
abbrev mX8_depthIn : nk_MI := (yX8_depthIn, cX8_depthIn, 4, (some FieldType.int))
abbrev mX8_deepOf : nk_MI := (yX8_deepOf, cX8_deepOf, 2, (some FieldType.int))
abbrev mX8_deep2 : nk_MI := (yX8_deep2, cX8_deep2, 1, (some FieldType.int))
abbrev mX8_deep3 : nk_MI := (yX8_deep3, cX8_deep3, 3, (some FieldType.int))
abbrev mX8_more : nk_MI := (yX8_more, cX8_more, 2, (some FieldType.int))
abbrev mX8_deep4 : nk_MI := (yX8_deep4, cX8_deep4, 4, (some FieldType.int))
abbrev mX8_deep5 : nk_MI := (yX8_deep5, cX8_deep5, 4, (some FieldType.int))
abbrev mX8_cluster : nk_MI := (yX8_cluster, cX8_cluster, 4, (some FieldType.int))
abbrev mX8_nodeTells : nk_MI := (yX8_nodeTells, cX8_nodeTells, 3, (some FieldType.int))
abbrev mX8_summary : nk_MI := (yX8_summary, cX8_summary, 3, (some FieldType.int))
abbrev mX8_word : nk_MI := (yX8_word, cX8_word, 4, (some FieldType.int))
abbrev mX8_isWord : nk_MI := (yX8_isWord, cX8_isWord, 4, (some FieldType.boolean))
abbrev mX8_wordMany : nk_MI := (yX8_wordMany, cX8_wordMany, 1, (some FieldType.int))
abbrev mX8_wordOf : nk_MI := (yX8_wordOf, cX8_wordOf, 6, (some FieldType.int))
abbrev mX8_bits : nk_MI := (yX8_bits, cX8_bits, 6, (some FieldType.int))
abbrev mX8_share : nk_MI := (yX8_share, cX8_share, 4, (some FieldType.int))
abbrev mX8_floatOf : nk_MI := (yX8_floatOf, cX8_floatOf, 12, (some FieldType.int))
abbrev mX8_sumOf : nk_MI := (yX8_sumOf, cX8_sumOf, 4, (some FieldType.int))
abbrev mX8_rank : nk_MI := (yX8_rank, cX8_rank, 5, (some FieldType.int))
abbrev mX8_nth : nk_MI := (yX8_nth, cX8_nth, 5, (some FieldType.int))
abbrev mX8_near : nk_MI := (yX8_near, cX8_near, 5, (some FieldType.int))
abbrev mX8_tell : nk_MI := (yX8_tell, cX8_tell, 7, (some FieldType.int))
abbrev mX8_chase : nk_MI := (yX8_chase, cX8_chase, 7, (some FieldType.int))
abbrev mX8_meet : nk_MI := (yX8_meet, cX8_meet, 5, (some FieldType.int))
abbrev mX8_cover : nk_MI := (yX8_cover, cX8_cover, 6, (some FieldType.int))
abbrev mX8_isCovered : nk_MI := (yX8_isCovered, cX8_isCovered, 7, (some FieldType.boolean))
abbrev mX8_gap : nk_MI := (yX8_gap, cX8_gap, 7, (some FieldType.int))
abbrev mX8_likely : nk_MI := (yX8_likely, cX8_likely, 17, (some FieldType.long))
abbrev mX8_drawn : nk_MI := (yX8_drawn, cX8_drawn, 7, (some FieldType.int))
abbrev mX8_allKeys : nk_MI := (yX8_allKeys, cX8_allKeys, 3, (some FieldType.int))
abbrev mX8_allNodes : nk_MI := (yX8_allNodes, cX8_allNodes, 3, (some FieldType.int))
abbrev mX8_image : nk_MI := (yX8_image, cX8_image, 2, (some FieldType.int))
abbrev mX8_restore : nk_MI := (yX8_restore, cX8_restore, 2, (some FieldType.int))
abbrev mX8_kind : nk_MI := (yX8_kind, cX8_kind, 2, (some FieldType.int))
abbrev mX8_as : nk_MI := (yX8_as, cX8_as, 3, (some FieldType.int))
abbrev mX8_isOf : nk_MI := (yX8_isOf, cX8_isOf, 4, (some FieldType.boolean))
abbrev mX8_ask : nk_MI := (yX8_ask, cX8_ask, 3, (some FieldType.int))
abbrev mX8_sizeOf : nk_MI := (yX8_sizeOf, cX8_sizeOf, 2, (some FieldType.int))
abbrev mX8_begin : nk_MI := (yX8_begin, cX8_begin, 2, none)
abbrev mX8_aboveSize : nk_MI := (yX8_aboveSize, cX8_aboveSize, 3, (some FieldType.int))
abbrev mX8_lentSize : nk_MI := (yX8_lentSize, cX8_lentSize, 2, (some FieldType.int))
abbrev mX8_aboveMark : nk_MI := (yX8_aboveMark, cX8_aboveMark, 2, (some FieldType.int))
abbrev mX8_plainMark : nk_MI := (yX8_plainMark, cX8_plainMark, 3, (some FieldType.int))
abbrev mX8_lentMark : nk_MI := (yX8_lentMark, cX8_lentMark, 2, (some FieldType.int))
abbrev mX8_belowSize : nk_MI := (yX8_belowSize, cX8_belowSize, 2, (some FieldType.int))
abbrev mX8_belowMark : nk_MI := (yX8_belowMark, cX8_belowMark, 3, (some FieldType.int))
abbrev mX8_trace : nk_MI := (yX8_trace, cX8_trace, 2, (some FieldType.int))
abbrev mX8_count : nk_MI := (yX8_count, cX8_count, 4, (some FieldType.int))
abbrev mX8_status : nk_MI := (yX8_status, cX8_status, 1, (some FieldType.int))
theorem lnX7_init : nk_ln mX7_init 0 := ⟨nk_in 67 (by decide +kernel) rfl, nk_in 83 (by decide +kernel) rfl, (by decide +kernel), by decide⟩
theorem lnX6_init : nk_ln mX6_init 0 := ⟨nk_in 68 (by decide +kernel) rfl, nk_in 93 (by decide +kernel) rfl, (by decide +kernel), by decide⟩
theorem lnX0_init : nk_ln mX0_init 0 := ⟨nk_in 69 (by decide +kernel) rfl, nk_in 127 (by decide +kernel) rfl, (by decide +kernel), by decide⟩
theorem lnX1_init : nk_ln mX1_init 0 := ⟨nk_in 70 (by decide +kernel) rfl, nk_in 151 (by decide +kernel) rfl, (by decide +kernel), by decide⟩
theorem lnX7_row : nk_ln mX7_row 3 := ⟨nk_in 67 (by decide +kernel) rfl, nk_in 188 (by decide +kernel) rfl, (by decide +kernel), by decide⟩
theorem lnX7_isRow : nk_ln mX7_isRow 1 := ⟨nk_in 67 (by decide +kernel) rfl, nk_in 191 (by decide +kernel) rfl, (by decide +kernel), by decide⟩
theorem lnX7_within : nk_ln mX7_within 3 := ⟨nk_in 67 (by decide +kernel) rfl, nk_in 194 (by decide +kernel) rfl, (by decide +kernel), by decide⟩
theorem lnX7_found : nk_ln mX7_found 1 := ⟨nk_in 67 (by decide +kernel) rfl, nk_in 199 (by decide +kernel) rfl, (by decide +kernel), by decide⟩
theorem lnX4_init : nk_ln mX4_init 2 := ⟨nk_in 72 (by decide +kernel) rfl, nk_in 204 (by decide +kernel) rfl, (by decide +kernel), by decide⟩
theorem lnX7_fine : nk_ln mX7_fine 1 := ⟨nk_in 67 (by decide +kernel) rfl, nk_in 218 (by decide +kernel) rfl, (by decide +kernel), by decide⟩
theorem lnX7_set : nk_ln mX7_set 3 := ⟨nk_in 67 (by decide +kernel) rfl, nk_in 222 (by decide +kernel) rfl, (by decide +kernel), by decide⟩
theorem lnX4_spans : nk_ln mX4_spans 2 := ⟨nk_in 72 (by decide +kernel) rfl, nk_in 226 (by decide +kernel) rfl, (by decide +kernel), by decide⟩
theorem lnX4_store : nk_ln mX4_store 2 := ⟨nk_in 72 (by decide +kernel) rfl, nk_in 230 (by decide +kernel) rfl, (by decide +kernel), by decide⟩
theorem lnX7_copy : nk_ln mX7_copy 5 := ⟨nk_in 67 (by decide +kernel) rfl, nk_in 234 (by decide +kernel) rfl, (by decide +kernel), by decide⟩
theorem lnX7_drop : nk_ln mX7_drop 1 := ⟨nk_in 67 (by decide +kernel) rfl, nk_in 241 (by decide +kernel) rfl, (by decide +kernel), by decide⟩
theorem lnX7_feed : nk_ln mX7_feed 1 := ⟨nk_in 67 (by decide +kernel) rfl, nk_in 245 (by decide +kernel) rfl, (by decide +kernel), by decide⟩
theorem lnX6_append : nk_ln mX6_append 1 := ⟨nk_in 68 (by decide +kernel) rfl, nk_in 250 (by decide +kernel) rfl, (by decide +kernel), by decide⟩
theorem lnX7_shelf : nk_ln mX7_shelf 0 := ⟨nk_in 67 (by decide +kernel) rfl, nk_in 254 (by decide +kernel) rfl, (by decide +kernel), by decide⟩
theorem lnX6_readShelf : nk_ln mX6_readShelf 0 := ⟨nk_in 68 (by decide +kernel) rfl, nk_in 258 (by decide +kernel) rfl, (by decide +kernel), by decide⟩
theorem lnX6_advance : nk_ln mX6_advance 0 := ⟨nk_in 68 (by decide +kernel) rfl, nk_in 262 (by decide +kernel) rfl, (by decide +kernel), by decide⟩
theorem lnX6_isFigure : nk_ln mX6_isFigure 1 := ⟨nk_in 68 (by decide +kernel) rfl, nk_in 265 (by decide +kernel) rfl, (by decide +kernel), by decide⟩
theorem lnX6_takeFigures : nk_ln mX6_takeFigures 0 := ⟨nk_in 68 (by decide +kernel) rfl, nk_in 269 (by decide +kernel) rfl, (by decide +kernel), by decide⟩
theorem lnX6_expect : nk_ln mX6_expect 1 := ⟨nk_in 68 (by decide +kernel) rfl, nk_in 274 (by decide +kernel) rfl, (by decide +kernel), by decide⟩
theorem lnX6_fail : nk_ln mX6_fail 1 := ⟨nk_in 68 (by decide +kernel) rfl, nk_in 278 (by decide +kernel) rfl, (by decide +kernel), by decide⟩
theorem lnX6_readNumber : nk_ln mX6_readNumber 2 := ⟨nk_in 68 (by decide +kernel) rfl, nk_in 282 (by decide +kernel) rfl, (by decide +kernel), by decide⟩
theorem lnX5_init : nk_ln mX5_init 1 := ⟨nk_in 74 (by decide +kernel) rfl, nk_in 287 (by decide +kernel) rfl, (by decide +kernel), by decide⟩
theorem lnX6_readSet : nk_ln mX6_readSet 1 := ⟨nk_in 68 (by decide +kernel) rfl, nk_in 308 (by decide +kernel) rfl, (by decide +kernel), by decide⟩
theorem lnX6_sortOf : nk_ln mX6_sortOf 1 := ⟨nk_in 68 (by decide +kernel) rfl, nk_in 311 (by decide +kernel) rfl, (by decide +kernel), by decide⟩
theorem lnX5_append : nk_ln mX5_append 1 := ⟨nk_in 74 (by decide +kernel) rfl, nk_in 315 (by decide +kernel) rfl, (by decide +kernel), by decide⟩
theorem lnX2_init : nk_ln mX2_init 3 := ⟨nk_in 75 (by decide +kernel) rfl, nk_in 319 (by decide +kernel) rfl, (by decide +kernel), by decide⟩
theorem lnX3_lowOf : nk_ln mX3_lowOf 1 := ⟨nk_in 76 (by decide +kernel) rfl, nk_in 323 (by decide +kernel) rfl, (by decide +kernel), by decide⟩
theorem lnX3_highOf : nk_ln mX3_highOf 1 := ⟨nk_in 76 (by decide +kernel) rfl, nk_in 326 (by decide +kernel) rfl, (by decide +kernel), by decide⟩
theorem lnX2_wordsFor : nk_ln mX2_wordsFor 1 := ⟨nk_in 75 (by decide +kernel) rfl, nk_in 329 (by decide +kernel) rfl, (by decide +kernel), by decide⟩
theorem lnJ9_min_7cf53 : nk_ln mJ9_min_7cf53 2 := ⟨nk_in 77 (by decide +kernel) rfl, nk_in 361 (by decide +kernel) rfl, (by decide +kernel), by decide⟩
theorem lnX2_put : nk_ln mX2_put 1 := ⟨nk_in 75 (by decide +kernel) rfl, nk_in 365 (by decide +kernel) rfl, (by decide +kernel), by decide⟩
theorem lnX0_forget : nk_ln mX0_forget 0 := ⟨nk_in 69 (by decide +kernel) rfl, nk_in 370 (by decide +kernel) rfl, (by decide +kernel), by decide⟩
theorem lnX7_fault : nk_ln mX7_fault 0 := ⟨nk_in 67 (by decide +kernel) rfl, nk_in 374 (by decide +kernel) rfl, (by decide +kernel), by decide⟩
theorem lnX7_undo : nk_ln mX7_undo 0 := ⟨nk_in 67 (by decide +kernel) rfl, nk_in 378 (by decide +kernel) rfl, (by decide +kernel), by decide⟩
theorem lnX0_takeBack : nk_ln mX0_takeBack 0 := ⟨nk_in 69 (by decide +kernel) rfl, nk_in 383 (by decide +kernel) rfl, (by decide +kernel), by decide⟩
theorem lnX2_become : nk_ln mX2_become 1 := ⟨nk_in 75 (by decide +kernel) rfl, nk_in 387 (by decide +kernel) rfl, (by decide +kernel), by decide⟩
theorem lnX7_add : nk_ln mX7_add 2 := ⟨nk_in 67 (by decide +kernel) rfl, nk_in 392 (by decide +kernel) rfl, (by decide +kernel), by decide⟩
theorem lnX7_setWith : nk_ln mX7_setWith 2 := ⟨nk_in 67 (by decide +kernel) rfl, nk_in 396 (by decide +kernel) rfl, (by decide +kernel), by decide⟩
theorem lnX5_isKey : nk_ln mX5_isKey 1 := ⟨nk_in 74 (by decide +kernel) rfl, nk_in 400 (by decide +kernel) rfl, (by decide +kernel), by decide⟩
theorem lnX5_numbered : nk_ln mX5_numbered 1 := ⟨nk_in 74 (by decide +kernel) rfl, nk_in 405 (by decide +kernel) rfl, (by decide +kernel), by decide⟩
theorem lnX2_holds : nk_ln mX2_holds 1 := ⟨nk_in 75 (by decide +kernel) rfl, nk_in 409 (by decide +kernel) rfl, (by decide +kernel), by decide⟩
theorem lnX7_turned : nk_ln mX7_turned 3 := ⟨nk_in 67 (by decide +kernel) rfl, nk_in 413 (by decide +kernel) rfl, (by decide +kernel), by decide⟩
theorem lnX0_keep : nk_ln mX0_keep 1 := ⟨nk_in 69 (by decide +kernel) rfl, nk_in 417 (by decide +kernel) rfl, (by decide +kernel), by decide⟩
theorem lnX2_turn : nk_ln mX2_turn 2 := ⟨nk_in 75 (by decide +kernel) rfl, nk_in 423 (by decide +kernel) rfl, (by decide +kernel), by decide⟩
theorem lnX2_spanIn : nk_ln mX2_spanIn 3 := ⟨nk_in 75 (by decide +kernel) rfl, nk_in 426 (by decide +kernel) rfl, (by decide +kernel), by decide⟩
theorem lnJ9_max_7cf53 : nk_ln mJ9_max_7cf53 2 := ⟨nk_in 77 (by decide +kernel) rfl, nk_in 429 (by decide +kernel) rfl, (by decide +kernel), by decide⟩
theorem lnX2_size : nk_ln mX2_size 0 := ⟨nk_in 75 (by decide +kernel) rfl, nk_in 434 (by decide +kernel) rfl, (by decide +kernel), by decide⟩
theorem lnX2_sizeWithin : nk_ln mX2_sizeWithin 2 := ⟨nk_in 75 (by decide +kernel) rfl, nk_in 438 (by decide +kernel) rfl, (by decide +kernel), by decide⟩
theorem lnJ6_bitCount_0f7a4 : nk_ln mJ6_bitCount_0f7a4 1 := ⟨nk_in 78 (by decide +kernel) rfl, nk_in 441 (by decide +kernel) rfl, (by decide +kernel), by decide⟩
theorem lnX7_take : nk_ln mX7_take 2 := ⟨nk_in 67 (by decide +kernel) rfl, nk_in 448 (by decide +kernel) rfl, (by decide +kernel), by decide⟩
theorem lnX7_flip : nk_ln mX7_flip 3 := ⟨nk_in 67 (by decide +kernel) rfl, nk_in 452 (by decide +kernel) rfl, (by decide +kernel), by decide⟩
theorem lnX2_isKey : nk_ln mX2_isKey 1 := ⟨nk_in 75 (by decide +kernel) rfl, nk_in 456 (by decide +kernel) rfl, (by decide +kernel), by decide⟩
theorem lnX7_join : nk_ln mX7_join 4 := ⟨nk_in 67 (by decide +kernel) rfl, nk_in 461 (by decide +kernel) rfl, (by decide +kernel), by decide⟩
theorem lnX7_setAt : nk_ln mX7_setAt 1 := ⟨nk_in 67 (by decide +kernel) rfl, nk_in 465 (by decide +kernel) rfl, (by decide +kernel), by decide⟩
theorem lnX2_becomeJoined : nk_ln mX2_becomeJoined 3 := ⟨nk_in 75 (by decide +kernel) rfl, nk_in 469 (by decide +kernel) rfl, (by decide +kernel), by decide⟩
theorem lnX2_joined : nk_ln mX2_joined 3 := ⟨nk_in 75 (by decide +kernel) rfl, nk_in 472 (by decide +kernel) rfl, (by decide +kernel), by decide⟩
theorem lnX7_shift : nk_ln mX7_shift 2 := ⟨nk_in 67 (by decide +kernel) rfl, nk_in 476 (by decide +kernel) rfl, (by decide +kernel), by decide⟩
theorem lnX2_moveBy : nk_ln mX2_moveBy 1 := ⟨nk_in 75 (by decide +kernel) rfl, nk_in 480 (by decide +kernel) rfl, (by decide +kernel), by decide⟩
theorem lnX2_cutOut : nk_ln mX2_cutOut 2 := ⟨nk_in 75 (by decide +kernel) rfl, nk_in 490 (by decide +kernel) rfl, (by decide +kernel), by decide⟩
theorem lnX2_wordOf : nk_ln mX2_wordOf 2 := ⟨nk_in 75 (by decide +kernel) rfl, nk_in 493 (by decide +kernel) rfl, (by decide +kernel), by decide⟩
theorem lnX7_gather : nk_ln mX7_gather 4 := ⟨nk_in 67 (by decide +kernel) rfl, nk_in 497 (by decide +kernel) rfl, (by decide +kernel), by decide⟩
theorem lnX7_allKeys : nk_ln mX7_allKeys 4 := ⟨nk_in 67 (by decide +kernel) rfl, nk_in 500 (by decide +kernel) rfl, (by decide +kernel), by decide⟩
theorem lnX7_contains : nk_ln mX7_contains 2 := ⟨nk_in 67 (by decide +kernel) rfl, nk_in 505 (by decide +kernel) rfl, (by decide +kernel), by decide⟩
theorem lnX7_keys : nk_ln mX7_keys 1 := ⟨nk_in 67 (by decide +kernel) rfl, nk_in 509 (by decide +kernel) rfl, (by decide +kernel), by decide⟩
theorem lnX7_end : nk_ln mX7_end 2 := ⟨nk_in 67 (by decide +kernel) rfl, nk_in 513 (by decide +kernel) rfl, (by decide +kernel), by decide⟩
theorem lnX2_least : nk_ln mX2_least 0 := ⟨nk_in 75 (by decide +kernel) rfl, nk_in 517 (by decide +kernel) rfl, (by decide +kernel), by decide⟩
theorem lnX2_from : nk_ln mX2_from 1 := ⟨nk_in 75 (by decide +kernel) rfl, nk_in 521 (by decide +kernel) rfl, (by decide +kernel), by decide⟩
theorem lnX3_leastOf : nk_ln mX3_leastOf 1 := ⟨nk_in 76 (by decide +kernel) rfl, nk_in 524 (by decide +kernel) rfl, (by decide +kernel), by decide⟩
theorem lnJ6_numberOfTrailingZeros_0f7a4 : nk_ln mJ6_numberOfTrailingZeros_0f7a4 1 := ⟨nk_in 78 (by decide +kernel) rfl, nk_in 528 (by decide +kernel) rfl, (by decide +kernel), by decide⟩
theorem lnX2_greatest : nk_ln mX2_greatest 0 := ⟨nk_in 75 (by decide +kernel) rfl, nk_in 534 (by decide +kernel) rfl, (by decide +kernel), by decide⟩
theorem lnX2_upTo : nk_ln mX2_upTo 1 := ⟨nk_in 75 (by decide +kernel) rfl, nk_in 538 (by decide +kernel) rfl, (by decide +kernel), by decide⟩
theorem lnX3_greatestOf : nk_ln mX3_greatestOf 1 := ⟨nk_in 76 (by decide +kernel) rfl, nk_in 541 (by decide +kernel) rfl, (by decide +kernel), by decide⟩
theorem lnJ6_numberOfLeadingZeros_0f7a4 : nk_ln mJ6_numberOfLeadingZeros_0f7a4 1 := ⟨nk_in 78 (by decide +kernel) rfl, nk_in 544 (by decide +kernel) rfl, (by decide +kernel), by decide⟩
theorem lnX7_next : nk_ln mX7_next 2 := ⟨nk_in 67 (by decide +kernel) rfl, nk_in 548 (by decide +kernel) rfl, (by decide +kernel), by decide⟩
theorem lnX2_following : nk_ln mX2_following 1 := ⟨nk_in 75 (by decide +kernel) rfl, nk_in 552 (by decide +kernel) rfl, (by decide +kernel), by decide⟩
theorem lnX2_eitherOf : nk_ln mX2_eitherOf 2 := ⟨nk_in 75 (by decide +kernel) rfl, nk_in 556 (by decide +kernel) rfl, (by decide +kernel), by decide⟩
theorem lnX7_beside : nk_ln mX7_beside 3 := ⟨nk_in 67 (by decide +kernel) rfl, nk_in 561 (by decide +kernel) rfl, (by decide +kernel), by decide⟩
theorem lnX7_steps : nk_ln mX7_steps 2 := ⟨nk_in 67 (by decide +kernel) rfl, nk_in 567 (by decide +kernel) rfl, (by decide +kernel), by decide⟩
theorem lnX2_rootSteps : nk_ln mX2_rootSteps 1 := ⟨nk_in 75 (by decide +kernel) rfl, nk_in 571 (by decide +kernel) rfl, (by decide +kernel), by decide⟩
theorem lnX2_clusterAt : nk_ln mX2_clusterAt 2 := ⟨nk_in 75 (by decide +kernel) rfl, nk_in 575 (by decide +kernel) rfl, (by decide +kernel), by decide⟩
theorem lnX3_withoutLeast : nk_ln mX3_withoutLeast 1 := ⟨nk_in 76 (by decide +kernel) rfl, nk_in 578 (by decide +kernel) rfl, (by decide +kernel), by decide⟩
theorem lnX3_clusterIn : nk_ln mX3_clusterIn 3 := ⟨nk_in 76 (by decide +kernel) rfl, nk_in 581 (by decide +kernel) rfl, (by decide +kernel), by decide⟩
theorem lnX3_stepsAbove : nk_ln mX3_stepsAbove 3 := ⟨nk_in 76 (by decide +kernel) rfl, nk_in 584 (by decide +kernel) rfl, (by decide +kernel), by decide⟩
theorem lnX3_summaryIn : nk_ln mX3_summaryIn 2 := ⟨nk_in 76 (by decide +kernel) rfl, nk_in 593 (by decide +kernel) rfl, (by decide +kernel), by decide⟩
theorem lnX2_rootSummary : nk_ln mX2_rootSummary 0 := ⟨nk_in 75 (by decide +kernel) rfl, nk_in 598 (by decide +kernel) rfl, (by decide +kernel), by decide⟩
theorem lnX7_tree : nk_ln mX7_tree 2 := ⟨nk_in 67 (by decide +kernel) rfl, nk_in 602 (by decide +kernel) rfl, (by decide +kernel), by decide⟩
theorem lnX2_rootNodes : nk_ln mX2_rootNodes 0 := ⟨nk_in 75 (by decide +kernel) rfl, nk_in 606 (by decide +kernel) rfl, (by decide +kernel), by decide⟩
theorem lnX3_nodesOf : nk_ln mX3_nodesOf 2 := ⟨nk_in 76 (by decide +kernel) rfl, nk_in 609 (by decide +kernel) rfl, (by decide +kernel), by decide⟩
theorem lnX2_rootDepth : nk_ln mX2_rootDepth 0 := ⟨nk_in 75 (by decide +kernel) rfl, nk_in 614 (by decide +kernel) rfl, (by decide +kernel), by decide⟩
theorem lnX3_depthOf : nk_ln mX3_depthOf 2 := ⟨nk_in 76 (by decide +kernel) rfl, nk_in 617 (by decide +kernel) rfl, (by decide +kernel), by decide⟩
theorem lnX7_cluster : nk_ln mX7_cluster 3 := ⟨nk_in 67 (by decide +kernel) rfl, nk_in 623 (by decide +kernel) rfl, (by decide +kernel), by decide⟩
theorem lnX2_isHigh : nk_ln mX2_isHigh 1 := ⟨nk_in 75 (by decide +kernel) rfl, nk_in 627 (by decide +kernel) rfl, (by decide +kernel), by decide⟩
theorem lnX3_about : nk_ln mX3_about 3 := ⟨nk_in 76 (by decide +kernel) rfl, nk_in 631 (by decide +kernel) rfl, (by decide +kernel), by decide⟩
theorem lnX7_summary : nk_ln mX7_summary 2 := ⟨nk_in 67 (by decide +kernel) rfl, nk_in 635 (by decide +kernel) rfl, (by decide +kernel), by decide⟩
theorem lnX7_word : nk_ln mX7_word 3 := ⟨nk_in 67 (by decide +kernel) rfl, nk_in 640 (by decide +kernel) rfl, (by decide +kernel), by decide⟩
theorem lnX2_hasWord : nk_ln mX2_hasWord 2 := ⟨nk_in 75 (by decide +kernel) rfl, nk_in 644 (by decide +kernel) rfl, (by decide +kernel), by decide⟩
theorem lnX2_wordAt : nk_ln mX2_wordAt 2 := ⟨nk_in 75 (by decide +kernel) rfl, nk_in 648 (by decide +kernel) rfl, (by decide +kernel), by decide⟩
theorem lnX2_upperWord : nk_ln mX2_upperWord 0 := ⟨nk_in 75 (by decide +kernel) rfl, nk_in 652 (by decide +kernel) rfl, (by decide +kernel), by decide⟩
theorem lnX7_bits : nk_ln mX7_bits 4 := ⟨nk_in 67 (by decide +kernel) rfl, nk_in 656 (by decide +kernel) rfl, (by decide +kernel), by decide⟩
theorem lnX7_share : nk_ln mX7_share 2 := ⟨nk_in 67 (by decide +kernel) rfl, nk_in 663 (by decide +kernel) rfl, (by decide +kernel), by decide⟩
theorem lnX7_floatBits : nk_ln mX7_floatBits 2 := ⟨nk_in 67 (by decide +kernel) rfl, nk_in 666 (by decide +kernel) rfl, (by decide +kernel), by decide⟩
theorem lnX2_total : nk_ln mX2_total 0 := ⟨nk_in 75 (by decide +kernel) rfl, nk_in 671 (by decide +kernel) rfl, (by decide +kernel), by decide⟩
theorem lnX7_rank : nk_ln mX7_rank 2 := ⟨nk_in 67 (by decide +kernel) rfl, nk_in 676 (by decide +kernel) rfl, (by decide +kernel), by decide⟩
theorem lnX7_nth : nk_ln mX7_nth 2 := ⟨nk_in 67 (by decide +kernel) rfl, nk_in 681 (by decide +kernel) rfl, (by decide +kernel), by decide⟩
theorem lnX2_keyAt : nk_ln mX2_keyAt 1 := ⟨nk_in 75 (by decide +kernel) rfl, nk_in 685 (by decide +kernel) rfl, (by decide +kernel), by decide⟩
theorem lnX7_near : nk_ln mX7_near 2 := ⟨nk_in 67 (by decide +kernel) rfl, nk_in 689 (by decide +kernel) rfl, (by decide +kernel), by decide⟩
theorem lnX2_nearest : nk_ln mX2_nearest 1 := ⟨nk_in 75 (by decide +kernel) rfl, nk_in 693 (by decide +kernel) rfl, (by decide +kernel), by decide⟩
theorem lnX7_tell : nk_ln mX7_tell 4 := ⟨nk_in 67 (by decide +kernel) rfl, nk_in 697 (by decide +kernel) rfl, (by decide +kernel), by decide⟩
theorem lnX7_chase : nk_ln mX7_chase 4 := ⟨nk_in 67 (by decide +kernel) rfl, nk_in 702 (by decide +kernel) rfl, (by decide +kernel), by decide⟩
theorem lnX7_meet : nk_ln mX7_meet 1 := ⟨nk_in 67 (by decide +kernel) rfl, nk_in 706 (by decide +kernel) rfl, (by decide +kernel), by decide⟩
theorem lnX5_commonFrom : nk_ln mX5_commonFrom 1 := ⟨nk_in 74 (by decide +kernel) rfl, nk_in 710 (by decide +kernel) rfl, (by decide +kernel), by decide⟩
theorem lnX7_cover : nk_ln mX7_cover 3 := ⟨nk_in 67 (by decide +kernel) rfl, nk_in 718 (by decide +kernel) rfl, (by decide +kernel), by decide⟩
theorem lnX5_fewestOver : nk_ln mX5_fewestOver 2 := ⟨nk_in 74 (by decide +kernel) rfl, nk_in 722 (by decide +kernel) rfl, (by decide +kernel), by decide⟩
theorem lnX5_isCovered : nk_ln mX5_isCovered 3 := ⟨nk_in 74 (by decide +kernel) rfl, nk_in 727 (by decide +kernel) rfl, (by decide +kernel), by decide⟩
theorem lnX7_gap : nk_ln mX7_gap 2 := ⟨nk_in 67 (by decide +kernel) rfl, nk_in 731 (by decide +kernel) rfl, (by decide +kernel), by decide⟩
theorem lnX2_widestFrom : nk_ln mX2_widestFrom 0 := ⟨nk_in 75 (by decide +kernel) rfl, nk_in 735 (by decide +kernel) rfl, (by decide +kernel), by decide⟩
theorem lnX7_likely : nk_ln mX7_likely 5 := ⟨nk_in 67 (by decide +kernel) rfl, nk_in 739 (by decide +kernel) rfl, (by decide +kernel), by decide⟩
theorem lnX7_sharedFactor : nk_ln mX7_sharedFactor 2 := ⟨nk_in 67 (by decide +kernel) rfl, nk_in 745 (by decide +kernel) rfl, (by decide +kernel), by decide⟩
theorem lnJ9_max_f86c9 : nk_ln mJ9_max_f86c9 2 := ⟨nk_in 77 (by decide +kernel) rfl, nk_in 748 (by decide +kernel) rfl, (by decide +kernel), by decide⟩
theorem lnX7_drawn : nk_ln mX7_drawn 3 := ⟨nk_in 67 (by decide +kernel) rfl, nk_in 752 (by decide +kernel) rfl, (by decide +kernel), by decide⟩
theorem lnX5_twin : nk_ln mX5_twin 0 := ⟨nk_in 74 (by decide +kernel) rfl, nk_in 757 (by decide +kernel) rfl, (by decide +kernel), by decide⟩
theorem lnX5_draw : nk_ln mX5_draw 2 := ⟨nk_in 74 (by decide +kernel) rfl, nk_in 765 (by decide +kernel) rfl, (by decide +kernel), by decide⟩
theorem lnX5_sizeOfAll : nk_ln mX5_sizeOfAll 0 := ⟨nk_in 74 (by decide +kernel) rfl, nk_in 773 (by decide +kernel) rfl, (by decide +kernel), by decide⟩
theorem lnX5_nodesOfAll : nk_ln mX5_nodesOfAll 0 := ⟨nk_in 74 (by decide +kernel) rfl, nk_in 778 (by decide +kernel) rfl, (by decide +kernel), by decide⟩
theorem lnX7_image : nk_ln mX7_image 1 := ⟨nk_in 67 (by decide +kernel) rfl, nk_in 783 (by decide +kernel) rfl, (by decide +kernel), by decide⟩
theorem lnX7_restore : nk_ln mX7_restore 1 := ⟨nk_in 67 (by decide +kernel) rfl, nk_in 787 (by decide +kernel) rfl, (by decide +kernel), by decide⟩
theorem lnX7_kind : nk_ln mX7_kind 1 := ⟨nk_in 67 (by decide +kernel) rfl, nk_in 791 (by decide +kernel) rfl, (by decide +kernel), by decide⟩
theorem lnX7_as : nk_ln mX7_as 2 := ⟨nk_in 67 (by decide +kernel) rfl, nk_in 795 (by decide +kernel) rfl, (by decide +kernel), by decide⟩
theorem lnX7_isSuch : nk_ln mX7_isSuch 2 := ⟨nk_in 67 (by decide +kernel) rfl, nk_in 798 (by decide +kernel) rfl, (by decide +kernel), by decide⟩
theorem lnX7_ask : nk_ln mX7_ask 2 := ⟨nk_in 67 (by decide +kernel) rfl, nk_in 804 (by decide +kernel) rfl, (by decide +kernel), by decide⟩
theorem lnX1_answerAnew : nk_ln mX1_answerAnew 2 := ⟨nk_in 70 (by decide +kernel) rfl, nk_in 808 (by decide +kernel) rfl, (by decide +kernel), by decide⟩
theorem lnX1_answer : nk_ln mX1_answer 3 := ⟨nk_in 70 (by decide +kernel) rfl, nk_in 812 (by decide +kernel) rfl, (by decide +kernel), by decide⟩
theorem lnX1_body : nk_ln mX1_body 3 := ⟨nk_in 70 (by decide +kernel) rfl, nk_in 821 (by decide +kernel) rfl, (by decide +kernel), by decide⟩
theorem lnX1_leave : nk_ln mX1_leave 1 := ⟨nk_in 70 (by decide +kernel) rfl, nk_in 825 (by decide +kernel) rfl, (by decide +kernel), by decide⟩
theorem lnX7_trace : nk_ln mX7_trace 1 := ⟨nk_in 67 (by decide +kernel) rfl, nk_in 832 (by decide +kernel) rfl, (by decide +kernel), by decide⟩
theorem lnX1_leftAt : nk_ln mX1_leftAt 1 := ⟨nk_in 70 (by decide +kernel) rfl, nk_in 836 (by decide +kernel) rfl, (by decide +kernel), by decide⟩
theorem lnX7_count : nk_ln mX7_count 1 := ⟨nk_in 67 (by decide +kernel) rfl, nk_in 841 (by decide +kernel) rfl, (by decide +kernel), by decide⟩
theorem lnX7_rowsThere : nk_ln mX7_rowsThere 0 := ⟨nk_in 67 (by decide +kernel) rfl, nk_in 845 (by decide +kernel) rfl, (by decide +kernel), by decide⟩
theorem lnX7_status : nk_ln mX7_status 0 := ⟨nk_in 67 (by decide +kernel) rfl, nk_in 849 (by decide +kernel) rfl, (by decide +kernel), by decide⟩
theorem lnX8_init : nk_ln mX8_init 0 := ⟨nk_in 71 (by decide +kernel) rfl, nk_in 854 (by decide +kernel) rfl, (by decide +kernel), by decide⟩
theorem lnX8_row : nk_ln mX8_row 3 := ⟨nk_in 71 (by decide +kernel) rfl, nk_in 906 (by decide +kernel) rfl, (by decide +kernel), by decide⟩
theorem lnX8_isRow : nk_ln mX8_isRow 1 := ⟨nk_in 71 (by decide +kernel) rfl, nk_in 909 (by decide +kernel) rfl, (by decide +kernel), by decide⟩
theorem lnX8_in : nk_ln mX8_in 3 := ⟨nk_in 71 (by decide +kernel) rfl, nk_in 913 (by decide +kernel) rfl, (by decide +kernel), by decide⟩
theorem lnX8_find : nk_ln mX8_find 1 := ⟨nk_in 71 (by decide +kernel) rfl, nk_in 919 (by decide +kernel) rfl, (by decide +kernel), by decide⟩
theorem lnX8_well : nk_ln mX8_well 1 := ⟨nk_in 71 (by decide +kernel) rfl, nk_in 924 (by decide +kernel) rfl, (by decide +kernel), by decide⟩
theorem lnX8_set : nk_ln mX8_set 3 := ⟨nk_in 71 (by decide +kernel) rfl, nk_in 928 (by decide +kernel) rfl, (by decide +kernel), by decide⟩
theorem lnX8_narrow : nk_ln mX8_narrow 2 := ⟨nk_in 71 (by decide +kernel) rfl, nk_in 931 (by decide +kernel) rfl, (by decide +kernel), by decide⟩
theorem lnX8_copy : nk_ln mX8_copy 5 := ⟨nk_in 71 (by decide +kernel) rfl, nk_in 935 (by decide +kernel) rfl, (by decide +kernel), by decide⟩
theorem lnX8_isSpan : nk_ln mX8_isSpan 3 := ⟨nk_in 71 (by decide +kernel) rfl, nk_in 939 (by decide +kernel) rfl, (by decide +kernel), by decide⟩
theorem lnX8_drop : nk_ln mX8_drop 1 := ⟨nk_in 71 (by decide +kernel) rfl, nk_in 943 (by decide +kernel) rfl, (by decide +kernel), by decide⟩
theorem lnX8_feed : nk_ln mX8_feed 1 := ⟨nk_in 71 (by decide +kernel) rfl, nk_in 947 (by decide +kernel) rfl, (by decide +kernel), by decide⟩
theorem lnX8_shelf : nk_ln mX8_shelf 0 := ⟨nk_in 71 (by decide +kernel) rfl, nk_in 953 (by decide +kernel) rfl, (by decide +kernel), by decide⟩
theorem lnX8_reads : nk_ln mX8_reads 0 := ⟨nk_in 71 (by decide +kernel) rfl, nk_in 957 (by decide +kernel) rfl, (by decide +kernel), by decide⟩
theorem lnX8_readsLaw : nk_ln mX8_readsLaw 0 := ⟨nk_in 71 (by decide +kernel) rfl, nk_in 961 (by decide +kernel) rfl, (by decide +kernel), by decide⟩
theorem lnX8_sign : nk_ln mX8_sign 1 := ⟨nk_in 71 (by decide +kernel) rfl, nk_in 965 (by decide +kernel) rfl, (by decide +kernel), by decide⟩
theorem lnX8_isLetter : nk_ln mX8_isLetter 1 := ⟨nk_in 71 (by decide +kernel) rfl, nk_in 969 (by decide +kernel) rfl, (by decide +kernel), by decide⟩
theorem lnX8_refuse : nk_ln mX8_refuse 1 := ⟨nk_in 71 (by decide +kernel) rfl, nk_in 973 (by decide +kernel) rfl, (by decide +kernel), by decide⟩
theorem lnX8_readsNumber : nk_ln mX8_readsNumber 2 := ⟨nk_in 71 (by decide +kernel) rfl, nk_in 977 (by decide +kernel) rfl, (by decide +kernel), by decide⟩
theorem lnX8_isFigure : nk_ln mX8_isFigure 1 := ⟨nk_in 71 (by decide +kernel) rfl, nk_in 981 (by decide +kernel) rfl, (by decide +kernel), by decide⟩
theorem lnX8_kindOfLetter : nk_ln mX8_kindOfLetter 1 := ⟨nk_in 71 (by decide +kernel) rfl, nk_in 986 (by decide +kernel) rfl, (by decide +kernel), by decide⟩
theorem lnX8_readsSet : nk_ln mX8_readsSet 0 := ⟨nk_in 71 (by decide +kernel) rfl, nk_in 990 (by decide +kernel) rfl, (by decide +kernel), by decide⟩
theorem lnX8_copyShelf : nk_ln mX8_copyShelf 2 := ⟨nk_in 71 (by decide +kernel) rfl, nk_in 995 (by decide +kernel) rfl, (by decide +kernel), by decide⟩
theorem lnX8_fault : nk_ln mX8_fault 0 := ⟨nk_in 71 (by decide +kernel) rfl, nk_in 999 (by decide +kernel) rfl, (by decide +kernel), by decide⟩
theorem lnX8_undo : nk_ln mX8_undo 0 := ⟨nk_in 71 (by decide +kernel) rfl, nk_in 1003 (by decide +kernel) rfl, (by decide +kernel), by decide⟩
theorem lnX8_add : nk_ln mX8_add 2 := ⟨nk_in 71 (by decide +kernel) rfl, nk_in 1008 (by decide +kernel) rfl, (by decide +kernel), by decide⟩
theorem lnX8_turnOne : nk_ln mX8_turnOne 3 := ⟨nk_in 71 (by decide +kernel) rfl, nk_in 1012 (by decide +kernel) rfl, (by decide +kernel), by decide⟩
theorem lnX8_isSet : nk_ln mX8_isSet 1 := ⟨nk_in 71 (by decide +kernel) rfl, nk_in 1016 (by decide +kernel) rfl, (by decide +kernel), by decide⟩
theorem lnX8_isKey : nk_ln mX8_isKey 1 := ⟨nk_in 71 (by decide +kernel) rfl, nk_in 1020 (by decide +kernel) rfl, (by decide +kernel), by decide⟩
theorem lnX8_top : nk_ln mX8_top 0 := ⟨nk_in 71 (by decide +kernel) rfl, nk_in 1024 (by decide +kernel) rfl, (by decide +kernel), by decide⟩
theorem lnX8_isShelf : nk_ln mX8_isShelf 0 := ⟨nk_in 71 (by decide +kernel) rfl, nk_in 1028 (by decide +kernel) rfl, (by decide +kernel), by decide⟩
theorem lnX8_hasKey : nk_ln mX8_hasKey 3 := ⟨nk_in 71 (by decide +kernel) rfl, nk_in 1032 (by decide +kernel) rfl, (by decide +kernel), by decide⟩
theorem lnX8_has : nk_ln mX8_has 2 := ⟨nk_in 71 (by decide +kernel) rfl, nk_in 1035 (by decide +kernel) rfl, (by decide +kernel), by decide⟩
theorem lnX8_keepPast : nk_ln mX8_keepPast 0 := ⟨nk_in 71 (by decide +kernel) rfl, nk_in 1039 (by decide +kernel) rfl, (by decide +kernel), by decide⟩
theorem lnX8_turnKey : nk_ln mX8_turnKey 3 := ⟨nk_in 71 (by decide +kernel) rfl, nk_in 1043 (by decide +kernel) rfl, (by decide +kernel), by decide⟩
theorem lnX8_keysOf : nk_ln mX8_keysOf 2 := ⟨nk_in 71 (by decide +kernel) rfl, nk_in 1047 (by decide +kernel) rfl, (by decide +kernel), by decide⟩
theorem lnX8_ones : nk_ln mX8_ones 1 := ⟨nk_in 71 (by decide +kernel) rfl, nk_in 1050 (by decide +kernel) rfl, (by decide +kernel), by decide⟩
theorem lnX8_take : nk_ln mX8_take 2 := ⟨nk_in 71 (by decide +kernel) rfl, nk_in 1054 (by decide +kernel) rfl, (by decide +kernel), by decide⟩
theorem lnX8_flip : nk_ln mX8_flip 3 := ⟨nk_in 71 (by decide +kernel) rfl, nk_in 1058 (by decide +kernel) rfl, (by decide +kernel), by decide⟩
theorem lnX8_join : nk_ln mX8_join 4 := ⟨nk_in 71 (by decide +kernel) rfl, nk_in 1062 (by decide +kernel) rfl, (by decide +kernel), by decide⟩
theorem lnX8_shift : nk_ln mX8_shift 2 := ⟨nk_in 71 (by decide +kernel) rfl, nk_in 1067 (by decide +kernel) rfl, (by decide +kernel), by decide⟩
theorem lnX8_gather : nk_ln mX8_gather 4 := ⟨nk_in 71 (by decide +kernel) rfl, nk_in 1073 (by decide +kernel) rfl, (by decide +kernel), by decide⟩
theorem lnX8_contains : nk_ln mX8_contains 2 := ⟨nk_in 71 (by decide +kernel) rfl, nk_in 1078 (by decide +kernel) rfl, (by decide +kernel), by decide⟩
theorem lnX8_keys : nk_ln mX8_keys 1 := ⟨nk_in 71 (by decide +kernel) rfl, nk_in 1082 (by decide +kernel) rfl, (by decide +kernel), by decide⟩
theorem lnX8_end : nk_ln mX8_end 2 := ⟨nk_in 71 (by decide +kernel) rfl, nk_in 1086 (by decide +kernel) rfl, (by decide +kernel), by decide⟩
theorem lnX8_leastOf : nk_ln mX8_leastOf 1 := ⟨nk_in 71 (by decide +kernel) rfl, nk_in 1090 (by decide +kernel) rfl, (by decide +kernel), by decide⟩
theorem lnX8_above : nk_ln mX8_above 2 := ⟨nk_in 71 (by decide +kernel) rfl, nk_in 1094 (by decide +kernel) rfl, (by decide +kernel), by decide⟩
theorem lnX8_greatestOf : nk_ln mX8_greatestOf 1 := ⟨nk_in 71 (by decide +kernel) rfl, nk_in 1099 (by decide +kernel) rfl, (by decide +kernel), by decide⟩
theorem lnX8_below : nk_ln mX8_below 2 := ⟨nk_in 71 (by decide +kernel) rfl, nk_in 1103 (by decide +kernel) rfl, (by decide +kernel), by decide⟩
theorem lnX8_next : nk_ln mX8_next 2 := ⟨nk_in 71 (by decide +kernel) rfl, nk_in 1107 (by decide +kernel) rfl, (by decide +kernel), by decide⟩
theorem lnX8_nextOf : nk_ln mX8_nextOf 2 := ⟨nk_in 71 (by decide +kernel) rfl, nk_in 1111 (by decide +kernel) rfl, (by decide +kernel), by decide⟩
theorem lnX8_beside : nk_ln mX8_beside 3 := ⟨nk_in 71 (by decide +kernel) rfl, nk_in 1115 (by decide +kernel) rfl, (by decide +kernel), by decide⟩
theorem lnX8_steps : nk_ln mX8_steps 2 := ⟨nk_in 71 (by decide +kernel) rfl, nk_in 1119 (by decide +kernel) rfl, (by decide +kernel), by decide⟩
theorem lnX8_lowBits : nk_ln mX8_lowBits 0 := ⟨nk_in 71 (by decide +kernel) rfl, nk_in 1123 (by decide +kernel) rfl, (by decide +kernel), by decide⟩
theorem lnX8_clusterOf : nk_ln mX8_clusterOf 2 := ⟨nk_in 71 (by decide +kernel) rfl, nk_in 1127 (by decide +kernel) rfl, (by decide +kernel), by decide⟩
theorem lnX8_greatestBit : nk_ln mX8_greatestBit 1 := ⟨nk_in 71 (by decide +kernel) rfl, nk_in 1130 (by decide +kernel) rfl, (by decide +kernel), by decide⟩
theorem lnX8_stepsIn : nk_ln mX8_stepsIn 3 := ⟨nk_in 71 (by decide +kernel) rfl, nk_in 1133 (by decide +kernel) rfl, (by decide +kernel), by decide⟩
theorem lnX8_leastBit : nk_ln mX8_leastBit 1 := ⟨nk_in 71 (by decide +kernel) rfl, nk_in 1136 (by decide +kernel) rfl, (by decide +kernel), by decide⟩
theorem lnX8_rest : nk_ln mX8_rest 1 := ⟨nk_in 71 (by decide +kernel) rfl, nk_in 1139 (by decide +kernel) rfl, (by decide +kernel), by decide⟩
theorem lnX8_part : nk_ln mX8_part 3 := ⟨nk_in 71 (by decide +kernel) rfl, nk_in 1142 (by decide +kernel) rfl, (by decide +kernel), by decide⟩
theorem lnX8_highs : nk_ln mX8_highs 3 := ⟨nk_in 71 (by decide +kernel) rfl, nk_in 1145 (by decide +kernel) rfl, (by decide +kernel), by decide⟩
theorem lnX8_summaryOf : nk_ln mX8_summaryOf 1 := ⟨nk_in 71 (by decide +kernel) rfl, nk_in 1149 (by decide +kernel) rfl, (by decide +kernel), by decide⟩
theorem lnX8_highBits : nk_ln mX8_highBits 0 := ⟨nk_in 71 (by decide +kernel) rfl, nk_in 1153 (by decide +kernel) rfl, (by decide +kernel), by decide⟩
theorem lnX8_tree : nk_ln mX8_tree 2 := ⟨nk_in 71 (by decide +kernel) rfl, nk_in 1157 (by decide +kernel) rfl, (by decide +kernel), by decide⟩
theorem lnX8_nodesIn : nk_ln mX8_nodesIn 1 := ⟨nk_in 71 (by decide +kernel) rfl, nk_in 1161 (by decide +kernel) rfl, (by decide +kernel), by decide⟩
theorem lnX8_nodesOf : nk_ln mX8_nodesOf 2 := ⟨nk_in 71 (by decide +kernel) rfl, nk_in 1164 (by decide +kernel) rfl, (by decide +kernel), by decide⟩
theorem lnX8_nodes1 : nk_ln mX8_nodes1 1 := ⟨nk_in 71 (by decide +kernel) rfl, nk_in 1167 (by decide +kernel) rfl, (by decide +kernel), by decide⟩
theorem lnX8_nodes2 : nk_ln mX8_nodes2 1 := ⟨nk_in 71 (by decide +kernel) rfl, nk_in 1170 (by decide +kernel) rfl, (by decide +kernel), by decide⟩
theorem lnX8_nodes3 : nk_ln mX8_nodes3 1 := ⟨nk_in 71 (by decide +kernel) rfl, nk_in 1173 (by decide +kernel) rfl, (by decide +kernel), by decide⟩
theorem lnX8_nodes4 : nk_ln mX8_nodes4 1 := ⟨nk_in 71 (by decide +kernel) rfl, nk_in 1176 (by decide +kernel) rfl, (by decide +kernel), by decide⟩
theorem lnX8_nodes5 : nk_ln mX8_nodes5 1 := ⟨nk_in 71 (by decide +kernel) rfl, nk_in 1179 (by decide +kernel) rfl, (by decide +kernel), by decide⟩
theorem lnX8_depthIn : nk_ln mX8_depthIn 1 := ⟨nk_in 71 (by decide +kernel) rfl, nk_in 1183 (by decide +kernel) rfl, (by decide +kernel), by decide⟩
theorem lnX8_deepOf : nk_ln mX8_deepOf 2 := ⟨nk_in 71 (by decide +kernel) rfl, nk_in 1186 (by decide +kernel) rfl, (by decide +kernel), by decide⟩
theorem lnX8_deep2 : nk_ln mX8_deep2 1 := ⟨nk_in 71 (by decide +kernel) rfl, nk_in 1189 (by decide +kernel) rfl, (by decide +kernel), by decide⟩
theorem lnX8_deep3 : nk_ln mX8_deep3 1 := ⟨nk_in 71 (by decide +kernel) rfl, nk_in 1192 (by decide +kernel) rfl, (by decide +kernel), by decide⟩
theorem lnX8_more : nk_ln mX8_more 2 := ⟨nk_in 71 (by decide +kernel) rfl, nk_in 1195 (by decide +kernel) rfl, (by decide +kernel), by decide⟩
theorem lnX8_deep4 : nk_ln mX8_deep4 1 := ⟨nk_in 71 (by decide +kernel) rfl, nk_in 1198 (by decide +kernel) rfl, (by decide +kernel), by decide⟩
theorem lnX8_deep5 : nk_ln mX8_deep5 1 := ⟨nk_in 71 (by decide +kernel) rfl, nk_in 1201 (by decide +kernel) rfl, (by decide +kernel), by decide⟩
theorem lnX8_cluster : nk_ln mX8_cluster 3 := ⟨nk_in 71 (by decide +kernel) rfl, nk_in 1205 (by decide +kernel) rfl, (by decide +kernel), by decide⟩
theorem lnX8_nodeTells : nk_ln mX8_nodeTells 3 := ⟨nk_in 71 (by decide +kernel) rfl, nk_in 1208 (by decide +kernel) rfl, (by decide +kernel), by decide⟩
theorem lnX8_summary : nk_ln mX8_summary 2 := ⟨nk_in 71 (by decide +kernel) rfl, nk_in 1212 (by decide +kernel) rfl, (by decide +kernel), by decide⟩
theorem lnX8_word : nk_ln mX8_word 3 := ⟨nk_in 71 (by decide +kernel) rfl, nk_in 1216 (by decide +kernel) rfl, (by decide +kernel), by decide⟩
theorem lnX8_isWord : nk_ln mX8_isWord 3 := ⟨nk_in 71 (by decide +kernel) rfl, nk_in 1220 (by decide +kernel) rfl, (by decide +kernel), by decide⟩
theorem lnX8_wordMany : nk_ln mX8_wordMany 0 := ⟨nk_in 71 (by decide +kernel) rfl, nk_in 1224 (by decide +kernel) rfl, (by decide +kernel), by decide⟩
theorem lnX8_wordOf : nk_ln mX8_wordOf 3 := ⟨nk_in 71 (by decide +kernel) rfl, nk_in 1228 (by decide +kernel) rfl, (by decide +kernel), by decide⟩
theorem lnX8_bits : nk_ln mX8_bits 4 := ⟨nk_in 71 (by decide +kernel) rfl, nk_in 1232 (by decide +kernel) rfl, (by decide +kernel), by decide⟩
theorem lnX8_share : nk_ln mX8_share 2 := ⟨nk_in 71 (by decide +kernel) rfl, nk_in 1236 (by decide +kernel) rfl, (by decide +kernel), by decide⟩
theorem lnX8_floatOf : nk_ln mX8_floatOf 2 := ⟨nk_in 71 (by decide +kernel) rfl, nk_in 1239 (by decide +kernel) rfl, (by decide +kernel), by decide⟩
theorem lnX8_sumOf : nk_ln mX8_sumOf 1 := ⟨nk_in 71 (by decide +kernel) rfl, nk_in 1245 (by decide +kernel) rfl, (by decide +kernel), by decide⟩
theorem lnX8_rank : nk_ln mX8_rank 2 := ⟨nk_in 71 (by decide +kernel) rfl, nk_in 1249 (by decide +kernel) rfl, (by decide +kernel), by decide⟩
theorem lnX8_nth : nk_ln mX8_nth 2 := ⟨nk_in 71 (by decide +kernel) rfl, nk_in 1253 (by decide +kernel) rfl, (by decide +kernel), by decide⟩
theorem lnX8_near : nk_ln mX8_near 2 := ⟨nk_in 71 (by decide +kernel) rfl, nk_in 1257 (by decide +kernel) rfl, (by decide +kernel), by decide⟩
theorem lnX8_tell : nk_ln mX8_tell 4 := ⟨nk_in 71 (by decide +kernel) rfl, nk_in 1261 (by decide +kernel) rfl, (by decide +kernel), by decide⟩
theorem lnX8_chase : nk_ln mX8_chase 4 := ⟨nk_in 71 (by decide +kernel) rfl, nk_in 1265 (by decide +kernel) rfl, (by decide +kernel), by decide⟩
theorem lnX8_meet : nk_ln mX8_meet 1 := ⟨nk_in 71 (by decide +kernel) rfl, nk_in 1270 (by decide +kernel) rfl, (by decide +kernel), by decide⟩
theorem lnX8_cover : nk_ln mX8_cover 3 := ⟨nk_in 71 (by decide +kernel) rfl, nk_in 1274 (by decide +kernel) rfl, (by decide +kernel), by decide⟩
theorem lnX8_isCovered : nk_ln mX8_isCovered 3 := ⟨nk_in 71 (by decide +kernel) rfl, nk_in 1278 (by decide +kernel) rfl, (by decide +kernel), by decide⟩
theorem lnX8_gap : nk_ln mX8_gap 2 := ⟨nk_in 71 (by decide +kernel) rfl, nk_in 1282 (by decide +kernel) rfl, (by decide +kernel), by decide⟩
theorem lnX8_likely : nk_ln mX8_likely 5 := ⟨nk_in 71 (by decide +kernel) rfl, nk_in 1286 (by decide +kernel) rfl, (by decide +kernel), by decide⟩
theorem lnX8_drawn : nk_ln mX8_drawn 3 := ⟨nk_in 71 (by decide +kernel) rfl, nk_in 1293 (by decide +kernel) rfl, (by decide +kernel), by decide⟩
theorem lnX8_allKeys : nk_ln mX8_allKeys 0 := ⟨nk_in 71 (by decide +kernel) rfl, nk_in 1302 (by decide +kernel) rfl, (by decide +kernel), by decide⟩
theorem lnX8_allNodes : nk_ln mX8_allNodes 0 := ⟨nk_in 71 (by decide +kernel) rfl, nk_in 1306 (by decide +kernel) rfl, (by decide +kernel), by decide⟩
theorem lnX8_image : nk_ln mX8_image 1 := ⟨nk_in 71 (by decide +kernel) rfl, nk_in 1310 (by decide +kernel) rfl, (by decide +kernel), by decide⟩
theorem lnX8_restore : nk_ln mX8_restore 1 := ⟨nk_in 71 (by decide +kernel) rfl, nk_in 1314 (by decide +kernel) rfl, (by decide +kernel), by decide⟩
theorem lnX8_kind : nk_ln mX8_kind 1 := ⟨nk_in 71 (by decide +kernel) rfl, nk_in 1318 (by decide +kernel) rfl, (by decide +kernel), by decide⟩
theorem lnX8_as : nk_ln mX8_as 2 := ⟨nk_in 71 (by decide +kernel) rfl, nk_in 1322 (by decide +kernel) rfl, (by decide +kernel), by decide⟩
theorem lnX8_isOf : nk_ln mX8_isOf 2 := ⟨nk_in 71 (by decide +kernel) rfl, nk_in 1327 (by decide +kernel) rfl, (by decide +kernel), by decide⟩
theorem lnX8_ask : nk_ln mX8_ask 2 := ⟨nk_in 71 (by decide +kernel) rfl, nk_in 1331 (by decide +kernel) rfl, (by decide +kernel), by decide⟩
theorem lnX8_sizeOf : nk_ln mX8_sizeOf 1 := ⟨nk_in 71 (by decide +kernel) rfl, nk_in 1335 (by decide +kernel) rfl, (by decide +kernel), by decide⟩
theorem lnX8_begin : nk_ln mX8_begin 1 := ⟨nk_in 71 (by decide +kernel) rfl, nk_in 1339 (by decide +kernel) rfl, (by decide +kernel), by decide⟩
theorem lnX8_aboveSize : nk_ln mX8_aboveSize 1 := ⟨nk_in 71 (by decide +kernel) rfl, nk_in 1343 (by decide +kernel) rfl, (by decide +kernel), by decide⟩
theorem lnX8_lentSize : nk_ln mX8_lentSize 1 := ⟨nk_in 71 (by decide +kernel) rfl, nk_in 1347 (by decide +kernel) rfl, (by decide +kernel), by decide⟩
theorem lnX8_aboveMark : nk_ln mX8_aboveMark 1 := ⟨nk_in 71 (by decide +kernel) rfl, nk_in 1351 (by decide +kernel) rfl, (by decide +kernel), by decide⟩
theorem lnX8_plainMark : nk_ln mX8_plainMark 1 := ⟨nk_in 71 (by decide +kernel) rfl, nk_in 1355 (by decide +kernel) rfl, (by decide +kernel), by decide⟩
theorem lnX8_lentMark : nk_ln mX8_lentMark 1 := ⟨nk_in 71 (by decide +kernel) rfl, nk_in 1359 (by decide +kernel) rfl, (by decide +kernel), by decide⟩
theorem lnX8_belowSize : nk_ln mX8_belowSize 1 := ⟨nk_in 71 (by decide +kernel) rfl, nk_in 1363 (by decide +kernel) rfl, (by decide +kernel), by decide⟩
theorem lnX8_belowMark : nk_ln mX8_belowMark 1 := ⟨nk_in 71 (by decide +kernel) rfl, nk_in 1367 (by decide +kernel) rfl, (by decide +kernel), by decide⟩
theorem lnX8_trace : nk_ln mX8_trace 1 := ⟨nk_in 71 (by decide +kernel) rfl, nk_in 1371 (by decide +kernel) rfl, (by decide +kernel), by decide⟩
theorem lnX8_count : nk_ln mX8_count 1 := ⟨nk_in 71 (by decide +kernel) rfl, nk_in 1375 (by decide +kernel) rfl, (by decide +kernel), by decide⟩
theorem lnX8_status : nk_ln mX8_status 0 := ⟨nk_in 71 (by decide +kernel) rfl, nk_in 1379 (by decide +kernel) rfl, (by decide +kernel), by decide⟩
theorem cL_7 : Cond.classLink RL 7 RX7 ∈ nk_tw := nk_in 79 (by decide +kernel) rfl
theorem nL_7 : nk_nw RL 7 6 8 [.null, .null, .null, .null, .null, .null, .int 0, .int 0] := ⟨RX7, TX7, tyX7, rfl, ftX7, tyX7_ok, cL_7, nk_in 80 (by decide +kernel) rfl, nk_in 67 (by decide +kernel) rfl, (by decide +kernel)⟩
theorem kL_9 : nk_lI RL 9 mX7_init 0 := ⟨lnX7_init, nk_in 81 (by decide +kernel) rfl, nk_in 82 (by decide +kernel) rfl, rfl, rfl⟩
theorem kX7_1 : Cond.methodLink RX7 1 objectInit ∈ nk_tw := nk_in 84 (by decide +kernel) rfl
theorem cX7_9 : Cond.classLink RX7 9 RX4 ∈ nk_tw := nk_in 87 (by decide +kernel) rfl
theorem nX7_9 : nk_nw RX7 9 3 2 [.int 0, .null] := ⟨RX4, TX4, tyX4, rfl, ftX4, tyX4_ok, cX7_9, nk_in 201 (by decide +kernel) rfl, nk_in 72 (by decide +kernel) rfl, (by decide +kernel)⟩
theorem cX7_15 : Cond.classLink RX7 15 RX6 ∈ nk_tw := nk_in 89 (by decide +kernel) rfl
theorem nX7_15 : nk_nw RX7 15 5 7 [.null, .int 0, .int 0, .int 0, .int 0, .int 0, .int 0] := ⟨RX6, TX6, tyX6, rfl, ftX6, tyX6_ok, cX7_15, nk_in 90 (by decide +kernel) rfl, nk_in 68 (by decide +kernel) rfl, (by decide +kernel)⟩
theorem kX7_17 : nk_lIN RX7 17 mX6_init 0 := ⟨lnX6_init, (by decide +kernel), nk_in 92 (by decide +kernel) rfl, rfl, rfl⟩
theorem kX6_3 : Cond.methodLink RX6 3 objectInit ∈ nk_tw := nk_in 94 (by decide +kernel) rfl
theorem wX6_9 : Cond.fieldLink RX6 9 (TX6 0).1 (TX6 0).2.1 (TX6 0).2.2.1 ∈ nk_tw := nk_in 95 (by decide +kernel) rfl
theorem fX6_9 : nk_fl RX6 9 5 0 := ⟨RX6, TX6, 7, rfl, ftX6, by decide, wX6_9⟩
theorem pX6_9 : nk_fp RX6 9 5 0 (.array .int) true := ⟨RX6, TX6, 7, tyX6, rfl, ftX6, tyX6_ok, nmX6, by decide, wX6_9, rfl, (by decide +kernel), rfl⟩
theorem wX6_15 : Cond.fieldLink RX6 15 (TX6 1).1 (TX6 1).2.1 (TX6 1).2.2.1 ∈ nk_tw := nk_in 96 (by decide +kernel) rfl
theorem fX6_15 : nk_fl RX6 15 5 1 := ⟨RX6, TX6, 7, rfl, ftX6, by decide, wX6_15⟩
theorem pX6_15 : nk_fp RX6 15 5 1 .int false := ⟨RX6, TX6, 7, tyX6, rfl, ftX6, tyX6_ok, nmX6, by decide, wX6_15, rfl, (by decide +kernel), rfl⟩
theorem wX7_93 : Cond.fieldLink RX7 93 (TX6 1).1 (TX6 1).2.1 (TX6 1).2.2.1 ∈ nk_tw := nk_in 97 (by decide +kernel) rfl
theorem fX7_93 : nk_fl RX7 93 5 1 := ⟨RX6, TX6, 7, rfl, ftX6, by decide, wX7_93⟩
theorem pX7_93 : nk_fp RX7 93 5 1 .int false := ⟨RX6, TX6, 7, tyX6, rfl, ftX6, tyX6_ok, nmX6, by decide, wX7_93, rfl, (by decide +kernel), rfl⟩
theorem wX6_19 : Cond.fieldLink RX6 19 (TX6 2).1 (TX6 2).2.1 (TX6 2).2.2.1 ∈ nk_tw := nk_in 98 (by decide +kernel) rfl
theorem fX6_19 : nk_fl RX6 19 5 2 := ⟨RX6, TX6, 7, rfl, ftX6, by decide, wX6_19⟩
theorem pX6_19 : nk_fp RX6 19 5 2 .int false := ⟨RX6, TX6, 7, tyX6, rfl, ftX6, tyX6_ok, nmX6, by decide, wX6_19, rfl, (by decide +kernel), rfl⟩
theorem wX7_108 : Cond.fieldLink RX7 108 (TX6 2).1 (TX6 2).2.1 (TX6 2).2.2.1 ∈ nk_tw := nk_in 99 (by decide +kernel) rfl
theorem fX7_108 : nk_fl RX7 108 5 2 := ⟨RX6, TX6, 7, rfl, ftX6, by decide, wX7_108⟩
theorem pX7_108 : nk_fp RX7 108 5 2 .int false := ⟨RX6, TX6, 7, tyX6, rfl, ftX6, tyX6_ok, nmX6, by decide, wX7_108, rfl, (by decide +kernel), rfl⟩
theorem wX6_22 : Cond.fieldLink RX6 22 (TX6 3).1 (TX6 3).2.1 (TX6 3).2.2.1 ∈ nk_tw := nk_in 100 (by decide +kernel) rfl
theorem fX6_22 : nk_fl RX6 22 5 3 := ⟨RX6, TX6, 7, rfl, ftX6, by decide, wX6_22⟩
theorem pX6_22 : nk_fp RX6 22 5 3 .int false := ⟨RX6, TX6, 7, tyX6, rfl, ftX6, tyX6_ok, nmX6, by decide, wX6_22, rfl, (by decide +kernel), rfl⟩
theorem wX6_25 : Cond.fieldLink RX6 25 (TX6 4).1 (TX6 4).2.1 (TX6 4).2.2.1 ∈ nk_tw := nk_in 101 (by decide +kernel) rfl
theorem fX6_25 : nk_fl RX6 25 5 4 := ⟨RX6, TX6, 7, rfl, ftX6, by decide, wX6_25⟩
theorem pX6_25 : nk_fp RX6 25 5 4 .int false := ⟨RX6, TX6, 7, tyX6, rfl, ftX6, tyX6_ok, nmX6, by decide, wX6_25, rfl, (by decide +kernel), rfl⟩
theorem wX6_28 : Cond.fieldLink RX6 28 (TX6 5).1 (TX6 5).2.1 (TX6 5).2.2.1 ∈ nk_tw := nk_in 102 (by decide +kernel) rfl
theorem fX6_28 : nk_fl RX6 28 5 5 := ⟨RX6, TX6, 7, rfl, ftX6, by decide, wX6_28⟩
theorem pX6_28 : nk_fp RX6 28 5 5 .int false := ⟨RX6, TX6, 7, tyX6, rfl, ftX6, tyX6_ok, nmX6, by decide, wX6_28, rfl, (by decide +kernel), rfl⟩
theorem wX6_31 : Cond.fieldLink RX6 31 (TX6 6).1 (TX6 6).2.1 (TX6 6).2.2.1 ∈ nk_tw := nk_in 103 (by decide +kernel) rfl
theorem fX6_31 : nk_fl RX6 31 5 6 := ⟨RX6, TX6, 7, rfl, ftX6, by decide, wX6_31⟩
theorem pX6_31 : nk_fp RX6 31 5 6 .int false := ⟨RX6, TX6, 7, tyX6, rfl, ftX6, tyX6_ok, nmX6, by decide, wX6_31, rfl, (by decide +kernel), rfl⟩
theorem wX7_104 : Cond.fieldLink RX7 104 (TX6 6).1 (TX6 6).2.1 (TX6 6).2.2.1 ∈ nk_tw := nk_in 104 (by decide +kernel) rfl
theorem fX7_104 : nk_fl RX7 104 5 6 := ⟨RX6, TX6, 7, rfl, ftX6, by decide, wX7_104⟩
theorem pX7_104 : nk_fp RX7 104 5 6 .int false := ⟨RX6, TX6, 7, tyX6, rfl, ftX6, tyX6_ok, nmX6, by decide, wX7_104, rfl, (by decide +kernel), rfl⟩
theorem cX7_22 : Cond.classLink RX7 22 RX5 ∈ nk_tw := nk_in 121 (by decide +kernel) rfl
theorem nX7_22 : nk_nw RX7 22 4 4 [.int 0, .int 0, .null, .int 0] := ⟨RX5, TX5, tyX5, rfl, ftX5, tyX5_ok, cX7_22, nk_in 284 (by decide +kernel) rfl, nk_in 74 (by decide +kernel) rfl, (by decide +kernel)⟩
theorem cX7_28 : Cond.classLink RX7 28 RX0 ∈ nk_tw := nk_in 123 (by decide +kernel) rfl
theorem nX7_28 : nk_nw RX7 28 0 4 [.null, .null, .int 0, .int 0] := ⟨RX0, TX0, tyX0, rfl, ftX0, tyX0_ok, cX7_28, nk_in 124 (by decide +kernel) rfl, nk_in 69 (by decide +kernel) rfl, (by decide +kernel)⟩
theorem kX7_30 : nk_lIN RX7 30 mX0_init 0 := ⟨lnX0_init, (by decide +kernel), nk_in 126 (by decide +kernel) rfl, rfl, rfl⟩
theorem kX0_3 : Cond.methodLink RX0 3 objectInit ∈ nk_tw := nk_in 128 (by decide +kernel) rfl
theorem cX0_9 : Cond.classLink RX0 9 RX2 ∈ nk_tw := nk_in 129 (by decide +kernel) rfl
theorem nX0_9 : nk_nw RX0 9 2 6 [.int 0, .int 0, .int 0, .int 0, .int 0, .null] := ⟨RX2, TX2, tyX2, rfl, ftX2, tyX2_ok, cX0_9, nk_in 316 (by decide +kernel) rfl, nk_in 75 (by decide +kernel) rfl, (by decide +kernel)⟩
theorem cX0_17 : Cond.classLink RX0 17 "[[I" ∈ nk_tw := nk_in 131 (by decide +kernel) rfl
theorem wX0_11 : Cond.fieldLink RX0 11 (TX0 0).1 (TX0 0).2.1 (TX0 0).2.2.1 ∈ nk_tw := nk_in 133 (by decide +kernel) rfl
theorem fX0_11 : nk_fl RX0 11 0 0 := ⟨RX0, TX0, 4, rfl, ftX0, by decide, wX0_11⟩
theorem pX0_11 : nk_fp RX0 11 0 0 (.array (.object "NextKeys$KeySet")) true := ⟨RX0, TX0, 4, tyX0, rfl, ftX0, tyX0_ok, nmX0, by decide, wX0_11, rfl, (by decide +kernel), rfl⟩
theorem wX0_19 : Cond.fieldLink RX0 19 (TX0 1).1 (TX0 1).2.1 (TX0 1).2.2.1 ∈ nk_tw := nk_in 134 (by decide +kernel) rfl
theorem fX0_19 : nk_fl RX0 19 0 1 := ⟨RX0, TX0, 4, rfl, ftX0, by decide, wX0_19⟩
theorem pX0_19 : nk_fp RX0 19 0 1 (.array (.array .int)) true := ⟨RX0, TX0, 4, tyX0, rfl, ftX0, tyX0_ok, nmX0, by decide, wX0_19, rfl, (by decide +kernel), rfl⟩
theorem wX0_22 : Cond.fieldLink RX0 22 (TX0 2).1 (TX0 2).2.1 (TX0 2).2.2.1 ∈ nk_tw := nk_in 135 (by decide +kernel) rfl
theorem fX0_22 : nk_fl RX0 22 0 2 := ⟨RX0, TX0, 4, rfl, ftX0, by decide, wX0_22⟩
theorem pX0_22 : nk_fp RX0 22 0 2 .int false := ⟨RX0, TX0, 4, tyX0, rfl, ftX0, tyX0_ok, nmX0, by decide, wX0_22, rfl, (by decide +kernel), rfl⟩
theorem wX0_26 : Cond.fieldLink RX0 26 (TX0 3).1 (TX0 3).2.1 (TX0 3).2.2.1 ∈ nk_tw := nk_in 136 (by decide +kernel) rfl
theorem fX0_26 : nk_fl RX0 26 0 3 := ⟨RX0, TX0, 4, rfl, ftX0, by decide, wX0_26⟩
theorem pX0_26 : nk_fp RX0 26 0 3 .int false := ⟨RX0, TX0, 4, tyX0, rfl, ftX0, tyX0_ok, nmX0, by decide, wX0_26, rfl, (by decide +kernel), rfl⟩
theorem wX7_117 : Cond.fieldLink RX7 117 (TX0 3).1 (TX0 3).2.1 (TX0 3).2.2.1 ∈ nk_tw := nk_in 137 (by decide +kernel) rfl
theorem fX7_117 : nk_fl RX7 117 0 3 := ⟨RX0, TX0, 4, rfl, ftX0, by decide, wX7_117⟩
theorem pX7_117 : nk_fp RX7 117 0 3 .int false := ⟨RX0, TX0, 4, tyX0, rfl, ftX0, tyX0_ok, nmX0, by decide, wX7_117, rfl, (by decide +kernel), rfl⟩
theorem cX7_35 : Cond.classLink RX7 35 RX1 ∈ nk_tw := nk_in 147 (by decide +kernel) rfl
theorem nX7_35 : nk_nw RX7 35 1 2 [.null, .int 0] := ⟨RX1, TX1, tyX1, rfl, ftX1, tyX1_ok, cX7_35, nk_in 148 (by decide +kernel) rfl, nk_in 70 (by decide +kernel) rfl, (by decide +kernel)⟩
theorem kX7_37 : nk_lIN RX7 37 mX1_init 0 := ⟨lnX1_init, (by decide +kernel), nk_in 150 (by decide +kernel) rfl, rfl, rfl⟩
theorem kX1_3 : Cond.methodLink RX1 3 objectInit ∈ nk_tw := nk_in 152 (by decide +kernel) rfl
theorem wX1_9 : Cond.fieldLink RX1 9 (TX1 0).1 (TX1 0).2.1 (TX1 0).2.2.1 ∈ nk_tw := nk_in 153 (by decide +kernel) rfl
theorem fX1_9 : nk_fl RX1 9 1 0 := ⟨RX1, TX1, 2, rfl, ftX1, by decide, wX1_9⟩
theorem pX1_9 : nk_fp RX1 9 1 0 (.array .int) true := ⟨RX1, TX1, 2, tyX1, rfl, ftX1, tyX1_ok, nmX1, by decide, wX1_9, rfl, (by decide +kernel), rfl⟩
theorem wX1_15 : Cond.fieldLink RX1 15 (TX1 1).1 (TX1 1).2.1 (TX1 1).2.2.1 ∈ nk_tw := nk_in 154 (by decide +kernel) rfl
theorem fX1_15 : nk_fl RX1 15 1 1 := ⟨RX1, TX1, 2, rfl, ftX1, by decide, wX1_15⟩
theorem pX1_15 : nk_fp RX1 15 1 1 .int false := ⟨RX1, TX1, 2, tyX1, rfl, ftX1, tyX1_ok, nmX1, by decide, wX1_15, rfl, (by decide +kernel), rfl⟩
theorem wX7_11 : Cond.fieldLink RX7 11 (TX7 0).1 (TX7 0).2.1 (TX7 0).2.2.1 ∈ nk_tw := nk_in 160 (by decide +kernel) rfl
theorem fX7_11 : nk_fl RX7 11 6 0 := ⟨RX7, TX7, 8, rfl, ftX7, by decide, wX7_11⟩
theorem pX7_11 : nk_fp RX7 11 6 0 (.array (.object "NextKeys$Row")) true := ⟨RX7, TX7, 8, tyX7, rfl, ftX7, tyX7_ok, nmX7, by decide, wX7_11, rfl, (by decide +kernel), rfl⟩
theorem wX7_18 : Cond.fieldLink RX7 18 (TX7 1).1 (TX7 1).2.1 (TX7 1).2.2.1 ∈ nk_tw := nk_in 161 (by decide +kernel) rfl
theorem fX7_18 : nk_fl RX7 18 6 1 := ⟨RX7, TX7, 8, rfl, ftX7, by decide, wX7_18⟩
theorem pX7_18 : nk_fp RX7 18 6 1 (.object "NextKeys$Tape") true := ⟨RX7, TX7, 8, tyX7, rfl, ftX7, tyX7_ok, nmX7, by decide, wX7_18, rfl, (by decide +kernel), rfl⟩
theorem wX7_24 : Cond.fieldLink RX7 24 (TX7 2).1 (TX7 2).2.1 (TX7 2).2.2.1 ∈ nk_tw := nk_in 162 (by decide +kernel) rfl
theorem fX7_24 : nk_fl RX7 24 6 2 := ⟨RX7, TX7, 8, rfl, ftX7, by decide, wX7_24⟩
theorem pX7_24 : nk_fp RX7 24 6 2 (.array (.object "NextKeys$Shelf")) true := ⟨RX7, TX7, 8, tyX7, rfl, ftX7, tyX7_ok, nmX7, by decide, wX7_24, rfl, (by decide +kernel), rfl⟩
theorem wX7_31 : Cond.fieldLink RX7 31 (TX7 3).1 (TX7 3).2.1 (TX7 3).2.2.1 ∈ nk_tw := nk_in 163 (by decide +kernel) rfl
theorem fX7_31 : nk_fl RX7 31 6 3 := ⟨RX7, TX7, 8, rfl, ftX7, by decide, wX7_31⟩
theorem pX7_31 : nk_fp RX7 31 6 3 (.object "NextKeys$Acts") true := ⟨RX7, TX7, 8, tyX7, rfl, ftX7, tyX7_ok, nmX7, by decide, wX7_31, rfl, (by decide +kernel), rfl⟩
theorem wX7_38 : Cond.fieldLink RX7 38 (TX7 4).1 (TX7 4).2.1 (TX7 4).2.2.1 ∈ nk_tw := nk_in 164 (by decide +kernel) rfl
theorem fX7_38 : nk_fl RX7 38 6 4 := ⟨RX7, TX7, 8, rfl, ftX7, by decide, wX7_38⟩
theorem pX7_38 : nk_fp RX7 38 6 4 (.object "NextKeys$Asks") true := ⟨RX7, TX7, 8, tyX7, rfl, ftX7, tyX7_ok, nmX7, by decide, wX7_38, rfl, (by decide +kernel), rfl⟩
theorem wX7_42 : Cond.fieldLink RX7 42 (TX7 5).1 (TX7 5).2.1 (TX7 5).2.2.1 ∈ nk_tw := nk_in 165 (by decide +kernel) rfl
theorem fX7_42 : nk_fl RX7 42 6 5 := ⟨RX7, TX7, 8, rfl, ftX7, by decide, wX7_42⟩
theorem pX7_42 : nk_fp RX7 42 6 5 (.object "NextKeys$Shelf") false := ⟨RX7, TX7, 8, tyX7, rfl, ftX7, tyX7_ok, nmX7, by decide, wX7_42, rfl, (by decide +kernel), rfl⟩
theorem wX7_46 : Cond.fieldLink RX7 46 (TX7 6).1 (TX7 6).2.1 (TX7 6).2.2.1 ∈ nk_tw := nk_in 166 (by decide +kernel) rfl
theorem fX7_46 : nk_fl RX7 46 6 6 := ⟨RX7, TX7, 8, rfl, ftX7, by decide, wX7_46⟩
theorem pX7_46 : nk_fp RX7 46 6 6 .int false := ⟨RX7, TX7, 8, tyX7, rfl, ftX7, tyX7_ok, nmX7, by decide, wX7_46, rfl, (by decide +kernel), rfl⟩
theorem wX7_50 : Cond.fieldLink RX7 50 (TX7 7).1 (TX7 7).2.1 (TX7 7).2.2.1 ∈ nk_tw := nk_in 167 (by decide +kernel) rfl
theorem fX7_50 : nk_fl RX7 50 6 7 := ⟨RX7, TX7, 8, rfl, ftX7, by decide, wX7_50⟩
theorem pX7_50 : nk_fp RX7 50 6 7 .int false := ⟨RX7, TX7, 8, tyX7, rfl, ftX7, tyX7_ok, nmX7, by decide, wX7_50, rfl, (by decide +kernel), rfl⟩
theorem kL_13 : nk_lV RL 13 6 mX7_row 3 := ⟨lnX7_row, nk_in 185 (by decide +kernel) rfl, nk_in 186 (by decide +kernel) rfl, nk_in 187 (by decide +kernel) rfl, _, rfl, rfl⟩
theorem kX7_53 : nk_lS RX7 53 mX7_isRow 1 := ⟨lnX7_isRow, nk_in 189 (by decide +kernel) rfl, nk_in 190 (by decide +kernel) rfl⟩
theorem kX7_57 : nk_lS RX7 57 mX7_within 3 := ⟨lnX7_within, nk_in 192 (by decide +kernel) rfl, nk_in 193 (by decide +kernel) rfl⟩
theorem qX7_61 : Cond.constant RX7 61 (-1000001) ∈ nk_tw := nk_in 195 (by decide +kernel) rfl
theorem kX7_62 : nk_lV RX7 62 6 mX7_found 1 := ⟨lnX7_found, nk_in 196 (by decide +kernel) rfl, nk_in 198 (by decide +kernel) rfl, nk_in 0 (by decide +kernel) rfl, _, rfl, rfl⟩
theorem qX7_300 : Cond.constant RX7 300 (-1000010) ∈ nk_tw := nk_in 200 (by decide +kernel) rfl
theorem kX7_66 : nk_lI RX7 66 mX4_init 2 := ⟨lnX4_init, nk_in 202 (by decide +kernel) rfl, nk_in 203 (by decide +kernel) rfl, rfl, rfl⟩
theorem kX4_1 : Cond.methodLink RX4 1 objectInit ∈ nk_tw := nk_in 205 (by decide +kernel) rfl
theorem wX4_7 : Cond.fieldLink RX4 7 (TX4 0).1 (TX4 0).2.1 (TX4 0).2.2.1 ∈ nk_tw := nk_in 206 (by decide +kernel) rfl
theorem fX4_7 : nk_fl RX4 7 3 0 := ⟨RX4, TX4, 2, rfl, ftX4, by decide, wX4_7⟩
theorem pX4_7 : nk_fp RX4 7 3 0 .int true := ⟨RX4, TX4, 2, tyX4, rfl, ftX4, tyX4_ok, nmX4, by decide, wX4_7, rfl, (by decide +kernel), rfl⟩
theorem wX7_80 : Cond.fieldLink RX7 80 (TX4 0).1 (TX4 0).2.1 (TX4 0).2.2.1 ∈ nk_tw := nk_in 207 (by decide +kernel) rfl
theorem fX7_80 : nk_fl RX7 80 3 0 := ⟨RX4, TX4, 2, rfl, ftX4, by decide, wX7_80⟩
theorem pX7_80 : nk_fp RX7 80 3 0 .int true := ⟨RX4, TX4, 2, tyX4, rfl, ftX4, tyX4_ok, nmX4, by decide, wX7_80, rfl, (by decide +kernel), rfl⟩
theorem wX4_13 : Cond.fieldLink RX4 13 (TX4 1).1 (TX4 1).2.1 (TX4 1).2.2.1 ∈ nk_tw := nk_in 208 (by decide +kernel) rfl
theorem fX4_13 : nk_fl RX4 13 3 1 := ⟨RX4, TX4, 2, rfl, ftX4, by decide, wX4_13⟩
theorem pX4_13 : nk_fp RX4 13 3 1 (.array .int) true := ⟨RX4, TX4, 2, tyX4, rfl, ftX4, tyX4_ok, nmX4, by decide, wX4_13, rfl, (by decide +kernel), rfl⟩
theorem wX7_83 : Cond.fieldLink RX7 83 (TX4 1).1 (TX4 1).2.1 (TX4 1).2.2.1 ∈ nk_tw := nk_in 209 (by decide +kernel) rfl
theorem fX7_83 : nk_fl RX7 83 3 1 := ⟨RX4, TX4, 2, rfl, ftX4, by decide, wX7_83⟩
theorem pX7_83 : nk_fp RX7 83 3 1 (.array .int) true := ⟨RX4, TX4, 2, tyX4, rfl, ftX4, tyX4_ok, nmX4, by decide, wX7_83, rfl, (by decide +kernel), rfl⟩
theorem kX7_69 : nk_lV RX7 69 6 mX7_fine 1 := ⟨lnX7_fine, nk_in 215 (by decide +kernel) rfl, nk_in 217 (by decide +kernel) rfl, nk_in 1 (by decide +kernel) rfl, _, rfl, rfl⟩
theorem kL_18 : nk_lV RL 18 6 mX7_set 3 := ⟨lnX7_set, nk_in 219 (by decide +kernel) rfl, nk_in 220 (by decide +kernel) rfl, nk_in 221 (by decide +kernel) rfl, _, rfl, rfl⟩
theorem kX7_72 : nk_lV RX7 72 3 mX4_spans 2 := ⟨lnX4_spans, nk_in 223 (by decide +kernel) rfl, nk_in 224 (by decide +kernel) rfl, nk_in 225 (by decide +kernel) rfl, _, rfl, rfl⟩
theorem kX7_76 : nk_lV RX7 76 3 mX4_store 2 := ⟨lnX4_store, nk_in 227 (by decide +kernel) rfl, nk_in 228 (by decide +kernel) rfl, nk_in 229 (by decide +kernel) rfl, _, rfl, rfl⟩
theorem kL_22 : nk_lV RL 22 6 mX7_copy 5 := ⟨lnX7_copy, nk_in 231 (by decide +kernel) rfl, nk_in 232 (by decide +kernel) rfl, nk_in 233 (by decide +kernel) rfl, _, rfl, rfl⟩
theorem kX7_87 : Cond.methodLink RX7 87 arraycopyName ∈ nk_tw := nk_in 235 (by decide +kernel) rfl
theorem kL_27 : nk_lV RL 27 6 mX7_drop 1 := ⟨lnX7_drop, nk_in 238 (by decide +kernel) rfl, nk_in 239 (by decide +kernel) rfl, nk_in 240 (by decide +kernel) rfl, _, rfl, rfl⟩
theorem kL_32 : nk_lV RL 32 6 mX7_feed 1 := ⟨lnX7_feed, nk_in 242 (by decide +kernel) rfl, nk_in 243 (by decide +kernel) rfl, nk_in 244 (by decide +kernel) rfl, _, rfl, rfl⟩
theorem qX7_96 : Cond.constant RX7 96 (-1000003) ∈ nk_tw := nk_in 246 (by decide +kernel) rfl
theorem kX7_97 : nk_lV RX7 97 5 mX6_append 1 := ⟨lnX6_append, nk_in 247 (by decide +kernel) rfl, nk_in 248 (by decide +kernel) rfl, nk_in 249 (by decide +kernel) rfl, _, rfl, rfl⟩
theorem kL_36 : nk_lV RL 36 6 mX7_shelf 0 := ⟨lnX7_shelf, nk_in 251 (by decide +kernel) rfl, nk_in 252 (by decide +kernel) rfl, nk_in 253 (by decide +kernel) rfl, _, rfl, rfl⟩
theorem kX7_100 : nk_lV RX7 100 5 mX6_readShelf 0 := ⟨lnX6_readShelf, nk_in 255 (by decide +kernel) rfl, nk_in 256 (by decide +kernel) rfl, nk_in 257 (by decide +kernel) rfl, _, rfl, rfl⟩
theorem kX6_34 : nk_lV RX6 34 5 mX6_advance 0 := ⟨lnX6_advance, nk_in 259 (by decide +kernel) rfl, nk_in 261 (by decide +kernel) rfl, nk_in 2 (by decide +kernel) rfl, _, rfl, rfl⟩
theorem kX6_81 : nk_lS RX6 81 mX6_isFigure 1 := ⟨lnX6_isFigure, nk_in 263 (by decide +kernel) rfl, nk_in 264 (by decide +kernel) rfl⟩
theorem kX6_85 : nk_lV RX6 85 5 mX6_takeFigures 0 := ⟨lnX6_takeFigures, nk_in 266 (by decide +kernel) rfl, nk_in 268 (by decide +kernel) rfl, nk_in 3 (by decide +kernel) rfl, _, rfl, rfl⟩
theorem kX6_77 : nk_lSN RX6 77 mX7_within 3 := ⟨lnX7_within, (by decide +kernel), nk_in 193 (by decide +kernel) rfl⟩
theorem kX6_37 : nk_lV RX6 37 5 mX6_expect 1 := ⟨lnX6_expect, nk_in 271 (by decide +kernel) rfl, nk_in 273 (by decide +kernel) rfl, nk_in 4 (by decide +kernel) rfl, _, rfl, rfl⟩
theorem kX6_57 : nk_lV RX6 57 5 mX6_fail 1 := ⟨lnX6_fail, nk_in 275 (by decide +kernel) rfl, nk_in 277 (by decide +kernel) rfl, nk_in 5 (by decide +kernel) rfl, _, rfl, rfl⟩
theorem kX6_41 : nk_lV RX6 41 5 mX6_readNumber 2 := ⟨lnX6_readNumber, nk_in 279 (by decide +kernel) rfl, nk_in 281 (by decide +kernel) rfl, nk_in 6 (by decide +kernel) rfl, _, rfl, rfl⟩
theorem cX6_45 : Cond.classLink RX6 45 RX5 ∈ nk_tw := nk_in 283 (by decide +kernel) rfl
theorem nX6_45 : nk_nw RX6 45 4 4 [.int 0, .int 0, .null, .int 0] := ⟨RX5, TX5, tyX5, rfl, ftX5, tyX5_ok, cX6_45, nk_in 284 (by decide +kernel) rfl, nk_in 74 (by decide +kernel) rfl, (by decide +kernel)⟩
theorem kX6_47 : nk_lI RX6 47 mX5_init 1 := ⟨lnX5_init, nk_in 285 (by decide +kernel) rfl, nk_in 286 (by decide +kernel) rfl, rfl, rfl⟩
theorem kX5_3 : Cond.methodLink RX5 3 objectInit ∈ nk_tw := nk_in 288 (by decide +kernel) rfl
theorem cX5_9 : Cond.classLink RX5 9 RX2 ∈ nk_tw := nk_in 289 (by decide +kernel) rfl
theorem nX5_9 : nk_nw RX5 9 2 6 [.int 0, .int 0, .int 0, .int 0, .int 0, .null] := ⟨RX2, TX2, tyX2, rfl, ftX2, tyX2_ok, cX5_9, nk_in 316 (by decide +kernel) rfl, nk_in 75 (by decide +kernel) rfl, (by decide +kernel)⟩
theorem wX5_21 : Cond.fieldLink RX5 21 (TX5 0).1 (TX5 0).2.1 (TX5 0).2.2.1 ∈ nk_tw := nk_in 290 (by decide +kernel) rfl
theorem fX5_21 : nk_fl RX5 21 4 0 := ⟨RX5, TX5, 4, rfl, ftX5, by decide, wX5_21⟩
theorem pX5_21 : nk_fp RX5 21 4 0 .int true := ⟨RX5, TX5, 4, tyX5, rfl, ftX5, tyX5_ok, nmX5, by decide, wX5_21, rfl, (by decide +kernel), rfl⟩
theorem wX7_297 : Cond.fieldLink RX7 297 (TX5 0).1 (TX5 0).2.1 (TX5 0).2.2.1 ∈ nk_tw := nk_in 291 (by decide +kernel) rfl
theorem fX7_297 : nk_fl RX7 297 4 0 := ⟨RX5, TX5, 4, rfl, ftX5, by decide, wX7_297⟩
theorem pX7_297 : nk_fp RX7 297 4 0 .int true := ⟨RX5, TX5, 4, tyX5, rfl, ftX5, tyX5_ok, nmX5, by decide, wX7_297, rfl, (by decide +kernel), rfl⟩
theorem wX5_24 : Cond.fieldLink RX5 24 (TX5 1).1 (TX5 1).2.1 (TX5 1).2.2.1 ∈ nk_tw := nk_in 292 (by decide +kernel) rfl
theorem fX5_24 : nk_fl RX5 24 4 1 := ⟨RX5, TX5, 4, rfl, ftX5, by decide, wX5_24⟩
theorem pX5_24 : nk_fp RX5 24 4 1 .int true := ⟨RX5, TX5, 4, tyX5, rfl, ftX5, tyX5_ok, nmX5, by decide, wX5_24, rfl, (by decide +kernel), rfl⟩
theorem wX5_11 : Cond.fieldLink RX5 11 (TX5 2).1 (TX5 2).2.1 (TX5 2).2.2.1 ∈ nk_tw := nk_in 293 (by decide +kernel) rfl
theorem fX5_11 : nk_fl RX5 11 4 2 := ⟨RX5, TX5, 4, rfl, ftX5, by decide, wX5_11⟩
theorem pX5_11 : nk_fp RX5 11 4 2 (.array (.object "NextKeys$KeySet")) true := ⟨RX5, TX5, 4, tyX5, rfl, ftX5, tyX5_ok, nmX5, by decide, wX5_11, rfl, (by decide +kernel), rfl⟩
theorem wX5_17 : Cond.fieldLink RX5 17 (TX5 3).1 (TX5 3).2.1 (TX5 3).2.2.1 ∈ nk_tw := nk_in 294 (by decide +kernel) rfl
theorem fX5_17 : nk_fl RX5 17 4 3 := ⟨RX5, TX5, 4, rfl, ftX5, by decide, wX5_17⟩
theorem pX5_17 : nk_fp RX5 17 4 3 .int false := ⟨RX5, TX5, 4, tyX5, rfl, ftX5, tyX5_ok, nmX5, by decide, wX5_17, rfl, (by decide +kernel), rfl⟩
theorem wX7_114 : Cond.fieldLink RX7 114 (TX5 3).1 (TX5 3).2.1 (TX5 3).2.2.1 ∈ nk_tw := nk_in 295 (by decide +kernel) rfl
theorem fX7_114 : nk_fl RX7 114 4 3 := ⟨RX5, TX5, 4, rfl, ftX5, by decide, wX7_114⟩
theorem pX7_114 : nk_fp RX7 114 4 3 .int false := ⟨RX5, TX5, 4, tyX5, rfl, ftX5, tyX5_ok, nmX5, by decide, wX7_114, rfl, (by decide +kernel), rfl⟩
theorem kX6_49 : nk_lV RX6 49 5 mX6_readSet 1 := ⟨lnX6_readSet, nk_in 305 (by decide +kernel) rfl, nk_in 307 (by decide +kernel) rfl, nk_in 7 (by decide +kernel) rfl, _, rfl, rfl⟩
theorem kX6_53 : nk_lS RX6 53 mX6_sortOf 1 := ⟨lnX6_sortOf, nk_in 309 (by decide +kernel) rfl, nk_in 310 (by decide +kernel) rfl⟩
theorem kX6_60 : nk_lV RX6 60 4 mX5_append 1 := ⟨lnX5_append, nk_in 312 (by decide +kernel) rfl, nk_in 313 (by decide +kernel) rfl, nk_in 314 (by decide +kernel) rfl, _, rfl, rfl⟩
theorem kX5_27 : nk_lI RX5 27 mX2_init 3 := ⟨lnX2_init, nk_in 317 (by decide +kernel) rfl, nk_in 318 (by decide +kernel) rfl, rfl, rfl⟩
theorem kX2_3 : Cond.methodLink RX2 3 objectInit ∈ nk_tw := nk_in 320 (by decide +kernel) rfl
theorem kX2_21 : nk_lS RX2 21 mX3_lowOf 1 := ⟨lnX3_lowOf, nk_in 321 (by decide +kernel) rfl, nk_in 322 (by decide +kernel) rfl⟩
theorem kX2_30 : nk_lS RX2 30 mX3_highOf 1 := ⟨lnX3_highOf, nk_in 324 (by decide +kernel) rfl, nk_in 325 (by decide +kernel) rfl⟩
theorem kX2_36 : nk_lS RX2 36 mX2_wordsFor 1 := ⟨lnX2_wordsFor, nk_in 327 (by decide +kernel) rfl, nk_in 328 (by decide +kernel) rfl⟩
theorem wX2_9 : Cond.fieldLink RX2 9 (TX2 0).1 (TX2 0).2.1 (TX2 0).2.2.1 ∈ nk_tw := nk_in 330 (by decide +kernel) rfl
theorem fX2_9 : nk_fl RX2 9 2 0 := ⟨RX2, TX2, 6, rfl, ftX2, by decide, wX2_9⟩
theorem pX2_9 : nk_fp RX2 9 2 0 .int true := ⟨RX2, TX2, 6, tyX2, rfl, ftX2, tyX2_ok, nmX2, by decide, wX2_9, rfl, (by decide +kernel), rfl⟩
theorem wX1_50 : Cond.fieldLink RX1 50 (TX2 0).1 (TX2 0).2.1 (TX2 0).2.2.1 ∈ nk_tw := nk_in 331 (by decide +kernel) rfl
theorem fX1_50 : nk_fl RX1 50 2 0 := ⟨RX2, TX2, 6, rfl, ftX2, by decide, wX1_50⟩
theorem pX1_50 : nk_fp RX1 50 2 0 .int true := ⟨RX2, TX2, 6, tyX2, rfl, ftX2, tyX2_ok, nmX2, by decide, wX1_50, rfl, (by decide +kernel), rfl⟩
theorem wX2_15 : Cond.fieldLink RX2 15 (TX2 1).1 (TX2 1).2.1 (TX2 1).2.2.1 ∈ nk_tw := nk_in 332 (by decide +kernel) rfl
theorem fX2_15 : nk_fl RX2 15 2 1 := ⟨RX2, TX2, 6, rfl, ftX2, by decide, wX2_15⟩
theorem pX2_15 : nk_fp RX2 15 2 1 .int true := ⟨RX2, TX2, 6, tyX2, rfl, ftX2, tyX2_ok, nmX2, by decide, wX2_15, rfl, (by decide +kernel), rfl⟩
theorem wX1_28 : Cond.fieldLink RX1 28 (TX2 1).1 (TX2 1).2.1 (TX2 1).2.2.1 ∈ nk_tw := nk_in 333 (by decide +kernel) rfl
theorem fX1_28 : nk_fl RX1 28 2 1 := ⟨RX2, TX2, 6, rfl, ftX2, by decide, wX1_28⟩
theorem pX1_28 : nk_fp RX1 28 2 1 .int true := ⟨RX2, TX2, 6, tyX2, rfl, ftX2, tyX2_ok, nmX2, by decide, wX1_28, rfl, (by decide +kernel), rfl⟩
theorem wX5_37 : Cond.fieldLink RX5 37 (TX2 1).1 (TX2 1).2.1 (TX2 1).2.2.1 ∈ nk_tw := nk_in 334 (by decide +kernel) rfl
theorem fX5_37 : nk_fl RX5 37 2 1 := ⟨RX2, TX2, 6, rfl, ftX2, by decide, wX5_37⟩
theorem pX5_37 : nk_fp RX5 37 2 1 .int true := ⟨RX2, TX2, 6, tyX2, rfl, ftX2, tyX2_ok, nmX2, by decide, wX5_37, rfl, (by decide +kernel), rfl⟩
theorem wX7_281 : Cond.fieldLink RX7 281 (TX2 1).1 (TX2 1).2.1 (TX2 1).2.2.1 ∈ nk_tw := nk_in 335 (by decide +kernel) rfl
theorem fX7_281 : nk_fl RX7 281 2 1 := ⟨RX2, TX2, 6, rfl, ftX2, by decide, wX7_281⟩
theorem pX7_281 : nk_fp RX7 281 2 1 .int true := ⟨RX2, TX2, 6, tyX2, rfl, ftX2, tyX2_ok, nmX2, by decide, wX7_281, rfl, (by decide +kernel), rfl⟩
theorem wX2_18 : Cond.fieldLink RX2 18 (TX2 2).1 (TX2 2).2.1 (TX2 2).2.2.1 ∈ nk_tw := nk_in 336 (by decide +kernel) rfl
theorem fX2_18 : nk_fl RX2 18 2 2 := ⟨RX2, TX2, 6, rfl, ftX2, by decide, wX2_18⟩
theorem pX2_18 : nk_fp RX2 18 2 2 .int true := ⟨RX2, TX2, 6, tyX2, rfl, ftX2, tyX2_ok, nmX2, by decide, wX2_18, rfl, (by decide +kernel), rfl⟩
theorem wX6_64 : Cond.fieldLink RX6 64 (TX2 2).1 (TX2 2).2.1 (TX2 2).2.2.1 ∈ nk_tw := nk_in 337 (by decide +kernel) rfl
theorem fX6_64 : nk_fl RX6 64 2 2 := ⟨RX2, TX2, 6, rfl, ftX2, by decide, wX6_64⟩
theorem pX6_64 : nk_fp RX6 64 2 2 .int true := ⟨RX2, TX2, 6, tyX2, rfl, ftX2, tyX2_ok, nmX2, by decide, wX6_64, rfl, (by decide +kernel), rfl⟩
theorem wX7_229 : Cond.fieldLink RX7 229 (TX2 2).1 (TX2 2).2.1 (TX2 2).2.2.1 ∈ nk_tw := nk_in 338 (by decide +kernel) rfl
theorem fX7_229 : nk_fl RX7 229 2 2 := ⟨RX2, TX2, 6, rfl, ftX2, by decide, wX7_229⟩
theorem pX7_229 : nk_fp RX7 229 2 2 .int true := ⟨RX2, TX2, 6, tyX2, rfl, ftX2, tyX2_ok, nmX2, by decide, wX7_229, rfl, (by decide +kernel), rfl⟩
theorem wX2_27 : Cond.fieldLink RX2 27 (TX2 3).1 (TX2 3).2.1 (TX2 3).2.2.1 ∈ nk_tw := nk_in 339 (by decide +kernel) rfl
theorem fX2_27 : nk_fl RX2 27 2 3 := ⟨RX2, TX2, 6, rfl, ftX2, by decide, wX2_27⟩
theorem pX2_27 : nk_fp RX2 27 2 3 .int true := ⟨RX2, TX2, 6, tyX2, rfl, ftX2, tyX2_ok, nmX2, by decide, wX2_27, rfl, (by decide +kernel), rfl⟩
theorem wX7_197 : Cond.fieldLink RX7 197 (TX2 3).1 (TX2 3).2.1 (TX2 3).2.2.1 ∈ nk_tw := nk_in 340 (by decide +kernel) rfl
theorem fX7_197 : nk_fl RX7 197 2 3 := ⟨RX2, TX2, 6, rfl, ftX2, by decide, wX7_197⟩
theorem pX7_197 : nk_fp RX7 197 2 3 .int true := ⟨RX2, TX2, 6, tyX2, rfl, ftX2, tyX2_ok, nmX2, by decide, wX7_197, rfl, (by decide +kernel), rfl⟩
theorem wX2_33 : Cond.fieldLink RX2 33 (TX2 4).1 (TX2 4).2.1 (TX2 4).2.2.1 ∈ nk_tw := nk_in 341 (by decide +kernel) rfl
theorem fX2_33 : nk_fl RX2 33 2 4 := ⟨RX2, TX2, 6, rfl, ftX2, by decide, wX2_33⟩
theorem pX2_33 : nk_fp RX2 33 2 4 .int true := ⟨RX2, TX2, 6, tyX2, rfl, ftX2, tyX2_ok, nmX2, by decide, wX2_33, rfl, (by decide +kernel), rfl⟩
theorem wX7_209 : Cond.fieldLink RX7 209 (TX2 4).1 (TX2 4).2.1 (TX2 4).2.2.1 ∈ nk_tw := nk_in 342 (by decide +kernel) rfl
theorem fX7_209 : nk_fl RX7 209 2 4 := ⟨RX2, TX2, 6, rfl, ftX2, by decide, wX7_209⟩
theorem pX7_209 : nk_fp RX7 209 2 4 .int true := ⟨RX2, TX2, 6, tyX2, rfl, ftX2, tyX2_ok, nmX2, by decide, wX7_209, rfl, (by decide +kernel), rfl⟩
theorem wX2_39 : Cond.fieldLink RX2 39 (TX2 5).1 (TX2 5).2.1 (TX2 5).2.2.1 ∈ nk_tw := nk_in 343 (by decide +kernel) rfl
theorem fX2_39 : nk_fl RX2 39 2 5 := ⟨RX2, TX2, 6, rfl, ftX2, by decide, wX2_39⟩
theorem pX2_39 : nk_fp RX2 39 2 5 (.array .int) true := ⟨RX2, TX2, 6, tyX2, rfl, ftX2, tyX2_ok, nmX2, by decide, wX2_39, rfl, (by decide +kernel), rfl⟩
theorem wX0_29 : Cond.fieldLink RX0 29 (TX2 5).1 (TX2 5).2.1 (TX2 5).2.2.1 ∈ nk_tw := nk_in 344 (by decide +kernel) rfl
theorem fX0_29 : nk_fl RX0 29 2 5 := ⟨RX2, TX2, 6, rfl, ftX2, by decide, wX0_29⟩
theorem pX0_29 : nk_fp RX0 29 2 5 (.array .int) true := ⟨RX2, TX2, 6, tyX2, rfl, ftX2, tyX2_ok, nmX2, by decide, wX0_29, rfl, (by decide +kernel), rfl⟩
theorem wX5_44 : Cond.fieldLink RX5 44 (TX2 5).1 (TX2 5).2.1 (TX2 5).2.2.1 ∈ nk_tw := nk_in 345 (by decide +kernel) rfl
theorem fX5_44 : nk_fl RX5 44 2 5 := ⟨RX2, TX2, 6, rfl, ftX2, by decide, wX5_44⟩
theorem pX5_44 : nk_fp RX5 44 2 5 (.array .int) true := ⟨RX2, TX2, 6, tyX2, rfl, ftX2, tyX2_ok, nmX2, by decide, wX5_44, rfl, (by decide +kernel), rfl⟩
theorem kX6_69 : nk_lS RX6 69 mJ9_min_7cf53 2 := ⟨lnJ9_min_7cf53, nk_in 359 (by decide +kernel) rfl, nk_in 360 (by decide +kernel) rfl⟩
theorem kX6_74 : nk_lV RX6 74 2 mX2_put 1 := ⟨lnX2_put, nk_in 362 (by decide +kernel) rfl, nk_in 363 (by decide +kernel) rfl, nk_in 364 (by decide +kernel) rfl, _, rfl, rfl⟩
theorem qX7_107 : Cond.constant RX7 107 (-1000100) ∈ nk_tw := nk_in 366 (by decide +kernel) rfl
theorem kX7_111 : nk_lV RX7 111 0 mX0_forget 0 := ⟨lnX0_forget, nk_in 367 (by decide +kernel) rfl, nk_in 368 (by decide +kernel) rfl, nk_in 369 (by decide +kernel) rfl, _, rfl, rfl⟩
theorem kL_41 : nk_lV RL 41 6 mX7_fault 0 := ⟨lnX7_fault, nk_in 371 (by decide +kernel) rfl, nk_in 372 (by decide +kernel) rfl, nk_in 373 (by decide +kernel) rfl, _, rfl, rfl⟩
theorem kL_45 : nk_lV RL 45 6 mX7_undo 0 := ⟨lnX7_undo, nk_in 375 (by decide +kernel) rfl, nk_in 376 (by decide +kernel) rfl, nk_in 377 (by decide +kernel) rfl, _, rfl, rfl⟩
theorem qX7_120 : Cond.constant RX7 120 (-1000002) ∈ nk_tw := nk_in 379 (by decide +kernel) rfl
theorem kX7_121 : nk_lV RX7 121 0 mX0_takeBack 0 := ⟨lnX0_takeBack, nk_in 380 (by decide +kernel) rfl, nk_in 381 (by decide +kernel) rfl, nk_in 382 (by decide +kernel) rfl, _, rfl, rfl⟩
theorem kX0_45 : nk_lV RX0 45 2 mX2_become 1 := ⟨lnX2_become, nk_in 384 (by decide +kernel) rfl, nk_in 385 (by decide +kernel) rfl, nk_in 386 (by decide +kernel) rfl, _, rfl, rfl⟩
theorem kX2_60 : Cond.methodLink RX2 60 arraycopyName ∈ nk_tw := nk_in 388 (by decide +kernel) rfl
theorem kL_49 : nk_lV RL 49 6 mX7_add 2 := ⟨lnX7_add, nk_in 389 (by decide +kernel) rfl, nk_in 390 (by decide +kernel) rfl, nk_in 391 (by decide +kernel) rfl, _, rfl, rfl⟩
theorem kX7_124 : nk_lV RX7 124 6 mX7_setWith 2 := ⟨lnX7_setWith, nk_in 393 (by decide +kernel) rfl, nk_in 395 (by decide +kernel) rfl, nk_in 8 (by decide +kernel) rfl, _, rfl, rfl⟩
theorem kX7_248 : nk_lV RX7 248 4 mX5_isKey 1 := ⟨lnX5_isKey, nk_in 397 (by decide +kernel) rfl, nk_in 398 (by decide +kernel) rfl, nk_in 399 (by decide +kernel) rfl, _, rfl, rfl⟩
theorem kX5_30 : nk_lSN RX5 30 mX7_within 3 := ⟨lnX7_within, (by decide +kernel), nk_in 193 (by decide +kernel) rfl⟩
theorem kX7_301 : nk_lV RX7 301 4 mX5_numbered 1 := ⟨lnX5_numbered, nk_in 402 (by decide +kernel) rfl, nk_in 403 (by decide +kernel) rfl, nk_in 404 (by decide +kernel) rfl, _, rfl, rfl⟩
theorem kX7_128 : nk_lV RX7 128 2 mX2_holds 1 := ⟨lnX2_holds, nk_in 406 (by decide +kernel) rfl, nk_in 407 (by decide +kernel) rfl, nk_in 408 (by decide +kernel) rfl, _, rfl, rfl⟩
theorem kX7_133 : nk_lV RX7 133 6 mX7_turned 3 := ⟨lnX7_turned, nk_in 410 (by decide +kernel) rfl, nk_in 412 (by decide +kernel) rfl, nk_in 9 (by decide +kernel) rfl, _, rfl, rfl⟩
theorem kX7_144 : nk_lV RX7 144 0 mX0_keep 1 := ⟨lnX0_keep, nk_in 414 (by decide +kernel) rfl, nk_in 415 (by decide +kernel) rfl, nk_in 416 (by decide +kernel) rfl, _, rfl, rfl⟩
theorem kX0_33 : Cond.methodLink RX0 33 arraycopyName ∈ nk_tw := nk_in 418 (by decide +kernel) rfl
theorem kX0_39 : nk_lS RX0 39 mJ9_min_7cf53 2 := ⟨lnJ9_min_7cf53, nk_in 419 (by decide +kernel) rfl, nk_in 360 (by decide +kernel) rfl⟩
theorem kX7_304 : nk_lV RX7 304 2 mX2_turn 2 := ⟨lnX2_turn, nk_in 420 (by decide +kernel) rfl, nk_in 421 (by decide +kernel) rfl, nk_in 422 (by decide +kernel) rfl, _, rfl, rfl⟩
theorem kX2_56 : nk_lS RX2 56 mX2_spanIn 3 := ⟨lnX2_spanIn, nk_in 424 (by decide +kernel) rfl, nk_in 425 (by decide +kernel) rfl⟩
theorem kX2_43 : nk_lS RX2 43 mJ9_max_7cf53 2 := ⟨lnJ9_max_7cf53, nk_in 427 (by decide +kernel) rfl, nk_in 428 (by decide +kernel) rfl⟩
theorem kX2_49 : nk_lS RX2 49 mJ9_min_7cf53 2 := ⟨lnJ9_min_7cf53, nk_in 430 (by decide +kernel) rfl, nk_in 360 (by decide +kernel) rfl⟩
theorem kX7_152 : nk_lV RX7 152 2 mX2_size 0 := ⟨lnX2_size, nk_in 431 (by decide +kernel) rfl, nk_in 432 (by decide +kernel) rfl, nk_in 433 (by decide +kernel) rfl, _, rfl, rfl⟩
theorem kX2_81 : nk_lV RX2 81 2 mX2_sizeWithin 2 := ⟨lnX2_sizeWithin, nk_in 435 (by decide +kernel) rfl, nk_in 436 (by decide +kernel) rfl, nk_in 437 (by decide +kernel) rfl, _, rfl, rfl⟩
theorem kX2_84 : nk_lS RX2 84 mJ6_bitCount_0f7a4 1 := ⟨lnJ6_bitCount_0f7a4, nk_in 439 (by decide +kernel) rfl, nk_in 440 (by decide +kernel) rfl⟩
theorem qJ6_265 : Cond.constant RJ6 265 (1431655765) ∈ nk_tw := nk_in 442 (by decide +kernel) rfl
theorem qJ6_266 : Cond.constant RJ6 266 (858993459) ∈ nk_tw := nk_in 443 (by decide +kernel) rfl
theorem qJ6_267 : Cond.constant RJ6 267 (252645135) ∈ nk_tw := nk_in 444 (by decide +kernel) rfl
theorem kL_54 : nk_lV RL 54 6 mX7_take 2 := ⟨lnX7_take, nk_in 445 (by decide +kernel) rfl, nk_in 446 (by decide +kernel) rfl, nk_in 447 (by decide +kernel) rfl, _, rfl, rfl⟩
theorem kL_58 : nk_lV RL 58 6 mX7_flip 3 := ⟨lnX7_flip, nk_in 449 (by decide +kernel) rfl, nk_in 450 (by decide +kernel) rfl, nk_in 451 (by decide +kernel) rfl, _, rfl, rfl⟩
theorem kX7_137 : nk_lV RX7 137 2 mX2_isKey 1 := ⟨lnX2_isKey, nk_in 453 (by decide +kernel) rfl, nk_in 454 (by decide +kernel) rfl, nk_in 455 (by decide +kernel) rfl, _, rfl, rfl⟩
theorem kX2_52 : nk_lSN RX2 52 mX7_within 3 := ⟨lnX7_within, (by decide +kernel), nk_in 193 (by decide +kernel) rfl⟩
theorem kL_62 : nk_lV RL 62 6 mX7_join 4 := ⟨lnX7_join, nk_in 458 (by decide +kernel) rfl, nk_in 459 (by decide +kernel) rfl, nk_in 460 (by decide +kernel) rfl, _, rfl, rfl⟩
theorem kX7_140 : nk_lV RX7 140 6 mX7_setAt 1 := ⟨lnX7_setAt, nk_in 462 (by decide +kernel) rfl, nk_in 464 (by decide +kernel) rfl, nk_in 10 (by decide +kernel) rfl, _, rfl, rfl⟩
theorem kX7_148 : nk_lV RX7 148 2 mX2_becomeJoined 3 := ⟨lnX2_becomeJoined, nk_in 466 (by decide +kernel) rfl, nk_in 467 (by decide +kernel) rfl, nk_in 468 (by decide +kernel) rfl, _, rfl, rfl⟩
theorem kX2_66 : nk_lS RX2 66 mX2_joined 3 := ⟨lnX2_joined, nk_in 470 (by decide +kernel) rfl, nk_in 471 (by decide +kernel) rfl⟩
theorem kL_67 : nk_lV RL 67 6 mX7_shift 2 := ⟨lnX7_shift, nk_in 473 (by decide +kernel) rfl, nk_in 474 (by decide +kernel) rfl, nk_in 475 (by decide +kernel) rfl, _, rfl, rfl⟩
theorem kX7_156 : nk_lV RX7 156 2 mX2_moveBy 1 := ⟨lnX2_moveBy, nk_in 477 (by decide +kernel) rfl, nk_in 478 (by decide +kernel) rfl, nk_in 479 (by decide +kernel) rfl, _, rfl, rfl⟩
theorem kX2_69 : Cond.methodLink RX2 69 ⟨"[I", "clone", "()Ljava/lang/Object;"⟩ ∈ nk_tw := nk_in 481 (by decide +kernel) rfl
theorem cX2_70 : Cond.classLink RX2 70 "[I" ∈ nk_tw := nk_in 487 (by decide +kernel) rfl
theorem kX2_74 : nk_lS RX2 74 mX2_cutOut 2 := ⟨lnX2_cutOut, nk_in 488 (by decide +kernel) rfl, nk_in 489 (by decide +kernel) rfl⟩
theorem kX2_78 : nk_lS RX2 78 mX2_wordOf 2 := ⟨lnX2_wordOf, nk_in 491 (by decide +kernel) rfl, nk_in 492 (by decide +kernel) rfl⟩
theorem kL_71 : nk_lV RL 71 6 mX7_gather 4 := ⟨lnX7_gather, nk_in 494 (by decide +kernel) rfl, nk_in 495 (by decide +kernel) rfl, nk_in 496 (by decide +kernel) rfl, _, rfl, rfl⟩
theorem kX7_160 : nk_lS RX7 160 mX7_allKeys 4 := ⟨lnX7_allKeys, nk_in 498 (by decide +kernel) rfl, nk_in 499 (by decide +kernel) rfl⟩
theorem kX7_164 : nk_lV RX7 164 2 mX2_put 1 := ⟨lnX2_put, nk_in 501 (by decide +kernel) rfl, nk_in 363 (by decide +kernel) rfl, nk_in 364 (by decide +kernel) rfl, _, rfl, rfl⟩
theorem kL_75 : nk_lV RL 75 6 mX7_contains 2 := ⟨lnX7_contains, nk_in 502 (by decide +kernel) rfl, nk_in 503 (by decide +kernel) rfl, nk_in 504 (by decide +kernel) rfl, _, rfl, rfl⟩
theorem kL_79 : nk_lV RL 79 6 mX7_keys 1 := ⟨lnX7_keys, nk_in 506 (by decide +kernel) rfl, nk_in 507 (by decide +kernel) rfl, nk_in 508 (by decide +kernel) rfl, _, rfl, rfl⟩
theorem kL_83 : nk_lV RL 83 6 mX7_end 2 := ⟨lnX7_end, nk_in 510 (by decide +kernel) rfl, nk_in 511 (by decide +kernel) rfl, nk_in 512 (by decide +kernel) rfl, _, rfl, rfl⟩
theorem kX7_167 : nk_lV RX7 167 2 mX2_least 0 := ⟨lnX2_least, nk_in 514 (by decide +kernel) rfl, nk_in 515 (by decide +kernel) rfl, nk_in 516 (by decide +kernel) rfl, _, rfl, rfl⟩
theorem kX2_100 : nk_lV RX2 100 2 mX2_from 1 := ⟨lnX2_from, nk_in 518 (by decide +kernel) rfl, nk_in 519 (by decide +kernel) rfl, nk_in 520 (by decide +kernel) rfl, _, rfl, rfl⟩
theorem kX2_93 : nk_lS RX2 93 mX3_leastOf 1 := ⟨lnX3_leastOf, nk_in 522 (by decide +kernel) rfl, nk_in 523 (by decide +kernel) rfl⟩
theorem qX3_9 : Cond.constant RX3 9 (-1000000) ∈ nk_tw := nk_in 525 (by decide +kernel) rfl
theorem kX3_10 : nk_lS RX3 10 mJ6_numberOfTrailingZeros_0f7a4 1 := ⟨lnJ6_numberOfTrailingZeros_0f7a4, nk_in 526 (by decide +kernel) rfl, nk_in 527 (by decide +kernel) rfl⟩
theorem qJ6_264 : Cond.constant RJ6 264 (65536) ∈ nk_tw := nk_in 529 (by decide +kernel) rfl
theorem qX2_96 : Cond.constant RX2 96 (-1000000) ∈ nk_tw := nk_in 530 (by decide +kernel) rfl
theorem kX7_170 : nk_lV RX7 170 2 mX2_greatest 0 := ⟨lnX2_greatest, nk_in 531 (by decide +kernel) rfl, nk_in 532 (by decide +kernel) rfl, nk_in 533 (by decide +kernel) rfl, _, rfl, rfl⟩
theorem kX2_103 : nk_lV RX2 103 2 mX2_upTo 1 := ⟨lnX2_upTo, nk_in 535 (by decide +kernel) rfl, nk_in 536 (by decide +kernel) rfl, nk_in 537 (by decide +kernel) rfl, _, rfl, rfl⟩
theorem kX2_97 : nk_lS RX2 97 mX3_greatestOf 1 := ⟨lnX3_greatestOf, nk_in 539 (by decide +kernel) rfl, nk_in 540 (by decide +kernel) rfl⟩
theorem kX3_16 : nk_lS RX3 16 mJ6_numberOfLeadingZeros_0f7a4 1 := ⟨lnJ6_numberOfLeadingZeros_0f7a4, nk_in 542 (by decide +kernel) rfl, nk_in 543 (by decide +kernel) rfl⟩
theorem kL_87 : nk_lV RL 87 6 mX7_next 2 := ⟨lnX7_next, nk_in 545 (by decide +kernel) rfl, nk_in 546 (by decide +kernel) rfl, nk_in 547 (by decide +kernel) rfl, _, rfl, rfl⟩
theorem kX7_173 : nk_lV RX7 173 2 mX2_following 1 := ⟨lnX2_following, nk_in 549 (by decide +kernel) rfl, nk_in 550 (by decide +kernel) rfl, nk_in 551 (by decide +kernel) rfl, _, rfl, rfl⟩
theorem kX2_106 : nk_lV RX2 106 2 mX2_least 0 := ⟨lnX2_least, nk_in 553 (by decide +kernel) rfl, nk_in 515 (by decide +kernel) rfl, nk_in 516 (by decide +kernel) rfl, _, rfl, rfl⟩
theorem kX2_110 : nk_lS RX2 110 mX2_eitherOf 2 := ⟨lnX2_eitherOf, nk_in 554 (by decide +kernel) rfl, nk_in 555 (by decide +kernel) rfl⟩
theorem kX2_113 : nk_lV RX2 113 2 mX2_greatest 0 := ⟨lnX2_greatest, nk_in 557 (by decide +kernel) rfl, nk_in 532 (by decide +kernel) rfl, nk_in 533 (by decide +kernel) rfl, _, rfl, rfl⟩
theorem kL_91 : nk_lV RL 91 6 mX7_beside 3 := ⟨lnX7_beside, nk_in 558 (by decide +kernel) rfl, nk_in 559 (by decide +kernel) rfl, nk_in 560 (by decide +kernel) rfl, _, rfl, rfl⟩
theorem kX7_176 : nk_lV RX7 176 2 mX2_from 1 := ⟨lnX2_from, nk_in 562 (by decide +kernel) rfl, nk_in 519 (by decide +kernel) rfl, nk_in 520 (by decide +kernel) rfl, _, rfl, rfl⟩
theorem kX7_179 : nk_lV RX7 179 2 mX2_upTo 1 := ⟨lnX2_upTo, nk_in 563 (by decide +kernel) rfl, nk_in 536 (by decide +kernel) rfl, nk_in 537 (by decide +kernel) rfl, _, rfl, rfl⟩
theorem kL_95 : nk_lV RL 95 6 mX7_steps 2 := ⟨lnX7_steps, nk_in 564 (by decide +kernel) rfl, nk_in 565 (by decide +kernel) rfl, nk_in 566 (by decide +kernel) rfl, _, rfl, rfl⟩
theorem kX7_182 : nk_lV RX7 182 2 mX2_rootSteps 1 := ⟨lnX2_rootSteps, nk_in 568 (by decide +kernel) rfl, nk_in 569 (by decide +kernel) rfl, nk_in 570 (by decide +kernel) rfl, _, rfl, rfl⟩
theorem kX2_125 : nk_lV RX2 125 2 mX2_clusterAt 2 := ⟨lnX2_clusterAt, nk_in 572 (by decide +kernel) rfl, nk_in 573 (by decide +kernel) rfl, nk_in 574 (by decide +kernel) rfl, _, rfl, rfl⟩
theorem kX2_116 : nk_lS RX2 116 mX3_withoutLeast 1 := ⟨lnX3_withoutLeast, nk_in 576 (by decide +kernel) rfl, nk_in 577 (by decide +kernel) rfl⟩
theorem kX2_122 : nk_lS RX2 122 mX3_clusterIn 3 := ⟨lnX3_clusterIn, nk_in 579 (by decide +kernel) rfl, nk_in 580 (by decide +kernel) rfl⟩
theorem kX2_137 : nk_lSN RX2 137 mX3_stepsAbove 3 := ⟨lnX3_stepsAbove, (by decide +kernel), nk_in 583 (by decide +kernel) rfl⟩
theorem kX3_35 : nk_lS RX3 35 mX3_leastOf 1 := ⟨lnX3_leastOf, nk_in 585 (by decide +kernel) rfl, nk_in 523 (by decide +kernel) rfl⟩
theorem kX3_41 : nk_lS RX3 41 mX3_withoutLeast 1 := ⟨lnX3_withoutLeast, nk_in 586 (by decide +kernel) rfl, nk_in 577 (by decide +kernel) rfl⟩
theorem kX3_24 : nk_lS RX3 24 mX3_lowOf 1 := ⟨lnX3_lowOf, nk_in 587 (by decide +kernel) rfl, nk_in 322 (by decide +kernel) rfl⟩
theorem kX3_27 : nk_lS RX3 27 mX3_clusterIn 3 := ⟨lnX3_clusterIn, nk_in 588 (by decide +kernel) rfl, nk_in 580 (by decide +kernel) rfl⟩
theorem kX3_38 : nk_lS RX3 38 mX3_greatestOf 1 := ⟨lnX3_greatestOf, nk_in 589 (by decide +kernel) rfl, nk_in 540 (by decide +kernel) rfl⟩
theorem kX3_55 : nk_lS RX3 55 mX3_stepsAbove 3 := ⟨lnX3_stepsAbove, nk_in 590 (by decide +kernel) rfl, nk_in 583 (by decide +kernel) rfl⟩
theorem kX3_44 : nk_lS RX3 44 mX3_summaryIn 2 := ⟨lnX3_summaryIn, nk_in 591 (by decide +kernel) rfl, nk_in 592 (by decide +kernel) rfl⟩
theorem kX3_19 : nk_lS RX3 19 mX3_highOf 1 := ⟨lnX3_highOf, nk_in 594 (by decide +kernel) rfl, nk_in 325 (by decide +kernel) rfl⟩
theorem kX2_128 : nk_lV RX2 128 2 mX2_rootSummary 0 := ⟨lnX2_rootSummary, nk_in 595 (by decide +kernel) rfl, nk_in 596 (by decide +kernel) rfl, nk_in 597 (by decide +kernel) rfl, _, rfl, rfl⟩
theorem kL_99 : nk_lV RL 99 6 mX7_tree 2 := ⟨lnX7_tree, nk_in 599 (by decide +kernel) rfl, nk_in 600 (by decide +kernel) rfl, nk_in 601 (by decide +kernel) rfl, _, rfl, rfl⟩
theorem kX7_185 : nk_lV RX7 185 2 mX2_rootNodes 0 := ⟨lnX2_rootNodes, nk_in 603 (by decide +kernel) rfl, nk_in 604 (by decide +kernel) rfl, nk_in 605 (by decide +kernel) rfl, _, rfl, rfl⟩
theorem kX2_131 : nk_lSN RX2 131 mX3_nodesOf 2 := ⟨lnX3_nodesOf, (by decide +kernel), nk_in 608 (by decide +kernel) rfl⟩
theorem kX3_31 : nk_lS RX3 31 mX3_nodesOf 2 := ⟨lnX3_nodesOf, nk_in 610 (by decide +kernel) rfl, nk_in 608 (by decide +kernel) rfl⟩
theorem kX7_188 : nk_lV RX7 188 2 mX2_rootDepth 0 := ⟨lnX2_rootDepth, nk_in 611 (by decide +kernel) rfl, nk_in 612 (by decide +kernel) rfl, nk_in 613 (by decide +kernel) rfl, _, rfl, rfl⟩
theorem kX2_134 : nk_lSN RX2 134 mX3_depthOf 2 := ⟨lnX3_depthOf, (by decide +kernel), nk_in 616 (by decide +kernel) rfl⟩
theorem kX3_47 : nk_lS RX3 47 mX3_depthOf 2 := ⟨lnX3_depthOf, nk_in 618 (by decide +kernel) rfl, nk_in 616 (by decide +kernel) rfl⟩
theorem kX3_50 : nk_lS RX3 50 mJ9_max_7cf53 2 := ⟨lnJ9_max_7cf53, nk_in 619 (by decide +kernel) rfl, nk_in 428 (by decide +kernel) rfl⟩
theorem kL_103 : nk_lV RL 103 6 mX7_cluster 3 := ⟨lnX7_cluster, nk_in 620 (by decide +kernel) rfl, nk_in 621 (by decide +kernel) rfl, nk_in 622 (by decide +kernel) rfl, _, rfl, rfl⟩
theorem kX7_191 : nk_lV RX7 191 2 mX2_isHigh 1 := ⟨lnX2_isHigh, nk_in 624 (by decide +kernel) rfl, nk_in 625 (by decide +kernel) rfl, nk_in 626 (by decide +kernel) rfl, _, rfl, rfl⟩
theorem kX7_194 : nk_lV RX7 194 2 mX2_clusterAt 2 := ⟨lnX2_clusterAt, nk_in 628 (by decide +kernel) rfl, nk_in 573 (by decide +kernel) rfl, nk_in 574 (by decide +kernel) rfl, _, rfl, rfl⟩
theorem kX7_200 : nk_lS RX7 200 mX3_about 3 := ⟨lnX3_about, nk_in 629 (by decide +kernel) rfl, nk_in 630 (by decide +kernel) rfl⟩
theorem kL_107 : nk_lV RL 107 6 mX7_summary 2 := ⟨lnX7_summary, nk_in 632 (by decide +kernel) rfl, nk_in 633 (by decide +kernel) rfl, nk_in 634 (by decide +kernel) rfl, _, rfl, rfl⟩
theorem kX7_206 : nk_lV RX7 206 2 mX2_rootSummary 0 := ⟨lnX2_rootSummary, nk_in 636 (by decide +kernel) rfl, nk_in 596 (by decide +kernel) rfl, nk_in 597 (by decide +kernel) rfl, _, rfl, rfl⟩
theorem kL_111 : nk_lV RL 111 6 mX7_word 3 := ⟨lnX7_word, nk_in 637 (by decide +kernel) rfl, nk_in 638 (by decide +kernel) rfl, nk_in 639 (by decide +kernel) rfl, _, rfl, rfl⟩
theorem kX7_212 : nk_lV RX7 212 2 mX2_hasWord 2 := ⟨lnX2_hasWord, nk_in 641 (by decide +kernel) rfl, nk_in 642 (by decide +kernel) rfl, nk_in 643 (by decide +kernel) rfl, _, rfl, rfl⟩
theorem kX7_215 : nk_lV RX7 215 2 mX2_wordAt 2 := ⟨lnX2_wordAt, nk_in 645 (by decide +kernel) rfl, nk_in 646 (by decide +kernel) rfl, nk_in 647 (by decide +kernel) rfl, _, rfl, rfl⟩
theorem kX2_119 : nk_lV RX2 119 2 mX2_upperWord 0 := ⟨lnX2_upperWord, nk_in 649 (by decide +kernel) rfl, nk_in 651 (by decide +kernel) rfl, nk_in 11 (by decide +kernel) rfl, _, rfl, rfl⟩
theorem kL_115 : nk_lV RL 115 6 mX7_bits 4 := ⟨lnX7_bits, nk_in 653 (by decide +kernel) rfl, nk_in 654 (by decide +kernel) rfl, nk_in 655 (by decide +kernel) rfl, _, rfl, rfl⟩
theorem kX7_218 : nk_lS RX7 218 mJ6_bitCount_0f7a4 1 := ⟨lnJ6_bitCount_0f7a4, nk_in 657 (by decide +kernel) rfl, nk_in 440 (by decide +kernel) rfl⟩
theorem kX7_223 : nk_lS RX7 223 mX3_greatestOf 1 := ⟨lnX3_greatestOf, nk_in 658 (by decide +kernel) rfl, nk_in 540 (by decide +kernel) rfl⟩
theorem kX7_226 : nk_lS RX7 226 mX3_leastOf 1 := ⟨lnX3_leastOf, nk_in 659 (by decide +kernel) rfl, nk_in 523 (by decide +kernel) rfl⟩
theorem kL_119 : nk_lV RL 119 6 mX7_share 2 := ⟨lnX7_share, nk_in 660 (by decide +kernel) rfl, nk_in 661 (by decide +kernel) rfl, nk_in 662 (by decide +kernel) rfl, _, rfl, rfl⟩
theorem kX7_232 : nk_lS RX7 232 mX7_floatBits 2 := ⟨lnX7_floatBits, nk_in 664 (by decide +kernel) rfl, nk_in 665 (by decide +kernel) rfl⟩
theorem qX7_315 : Cond.constantLong RX7 315 (2) ∈ nk_tw := nk_in 667 (by decide +kernel) rfl
theorem kX7_235 : nk_lV RX7 235 2 mX2_total 0 := ⟨lnX2_total, nk_in 668 (by decide +kernel) rfl, nk_in 669 (by decide +kernel) rfl, nk_in 670 (by decide +kernel) rfl, _, rfl, rfl⟩
theorem kX2_89 : nk_lV RX2 89 2 mX2_holds 1 := ⟨lnX2_holds, nk_in 672 (by decide +kernel) rfl, nk_in 407 (by decide +kernel) rfl, nk_in 408 (by decide +kernel) rfl, _, rfl, rfl⟩
theorem kL_123 : nk_lV RL 123 6 mX7_rank 2 := ⟨lnX7_rank, nk_in 673 (by decide +kernel) rfl, nk_in 674 (by decide +kernel) rfl, nk_in 675 (by decide +kernel) rfl, _, rfl, rfl⟩
theorem kX7_238 : nk_lV RX7 238 2 mX2_sizeWithin 2 := ⟨lnX2_sizeWithin, nk_in 677 (by decide +kernel) rfl, nk_in 436 (by decide +kernel) rfl, nk_in 437 (by decide +kernel) rfl, _, rfl, rfl⟩
theorem kL_127 : nk_lV RL 127 6 mX7_nth 2 := ⟨lnX7_nth, nk_in 678 (by decide +kernel) rfl, nk_in 679 (by decide +kernel) rfl, nk_in 680 (by decide +kernel) rfl, _, rfl, rfl⟩
theorem kX7_241 : nk_lV RX7 241 2 mX2_keyAt 1 := ⟨lnX2_keyAt, nk_in 682 (by decide +kernel) rfl, nk_in 683 (by decide +kernel) rfl, nk_in 684 (by decide +kernel) rfl, _, rfl, rfl⟩
theorem kL_131 : nk_lV RL 131 6 mX7_near 2 := ⟨lnX7_near, nk_in 686 (by decide +kernel) rfl, nk_in 687 (by decide +kernel) rfl, nk_in 688 (by decide +kernel) rfl, _, rfl, rfl⟩
theorem kX7_244 : nk_lV RX7 244 2 mX2_nearest 1 := ⟨lnX2_nearest, nk_in 690 (by decide +kernel) rfl, nk_in 691 (by decide +kernel) rfl, nk_in 692 (by decide +kernel) rfl, _, rfl, rfl⟩
theorem kL_135 : nk_lV RL 135 6 mX7_tell 4 := ⟨lnX7_tell, nk_in 694 (by decide +kernel) rfl, nk_in 695 (by decide +kernel) rfl, nk_in 696 (by decide +kernel) rfl, _, rfl, rfl⟩
theorem qX7_247 : Cond.constant RX7 247 (-1000000) ∈ nk_tw := nk_in 698 (by decide +kernel) rfl
theorem kL_139 : nk_lV RL 139 6 mX7_chase 4 := ⟨lnX7_chase, nk_in 699 (by decide +kernel) rfl, nk_in 700 (by decide +kernel) rfl, nk_in 701 (by decide +kernel) rfl, _, rfl, rfl⟩
theorem kL_143 : nk_lV RL 143 6 mX7_meet 1 := ⟨lnX7_meet, nk_in 703 (by decide +kernel) rfl, nk_in 704 (by decide +kernel) rfl, nk_in 705 (by decide +kernel) rfl, _, rfl, rfl⟩
theorem kX7_249 : nk_lV RX7 249 4 mX5_commonFrom 1 := ⟨lnX5_commonFrom, nk_in 707 (by decide +kernel) rfl, nk_in 708 (by decide +kernel) rfl, nk_in 709 (by decide +kernel) rfl, _, rfl, rfl⟩
theorem kX5_59 : nk_lS RX5 59 mX2_wordsFor 1 := ⟨lnX2_wordsFor, nk_in 711 (by decide +kernel) rfl, nk_in 328 (by decide +kernel) rfl⟩
theorem kX5_63 : nk_lS RX5 63 mX2_spanIn 3 := ⟨lnX2_spanIn, nk_in 712 (by decide +kernel) rfl, nk_in 425 (by decide +kernel) rfl⟩
theorem kX5_67 : nk_lS RX5 67 mX3_leastOf 1 := ⟨lnX3_leastOf, nk_in 713 (by decide +kernel) rfl, nk_in 523 (by decide +kernel) rfl⟩
theorem qX5_72 : Cond.constant RX5 72 (-1000000) ∈ nk_tw := nk_in 714 (by decide +kernel) rfl
theorem kL_147 : nk_lV RL 147 6 mX7_cover 3 := ⟨lnX7_cover, nk_in 715 (by decide +kernel) rfl, nk_in 716 (by decide +kernel) rfl, nk_in 717 (by decide +kernel) rfl, _, rfl, rfl⟩
theorem kX7_252 : nk_lV RX7 252 4 mX5_fewestOver 2 := ⟨lnX5_fewestOver, nk_in 719 (by decide +kernel) rfl, nk_in 720 (by decide +kernel) rfl, nk_in 721 (by decide +kernel) rfl, _, rfl, rfl⟩
theorem kX5_73 : nk_lS RX5 73 mJ6_bitCount_0f7a4 1 := ⟨lnJ6_bitCount_0f7a4, nk_in 723 (by decide +kernel) rfl, nk_in 440 (by decide +kernel) rfl⟩
theorem kX5_78 : nk_lV RX5 78 4 mX5_isCovered 3 := ⟨lnX5_isCovered, nk_in 724 (by decide +kernel) rfl, nk_in 726 (by decide +kernel) rfl, nk_in 12 (by decide +kernel) rfl, _, rfl, rfl⟩
theorem kL_151 : nk_lV RL 151 6 mX7_gap 2 := ⟨lnX7_gap, nk_in 728 (by decide +kernel) rfl, nk_in 729 (by decide +kernel) rfl, nk_in 730 (by decide +kernel) rfl, _, rfl, rfl⟩
theorem kX7_255 : nk_lV RX7 255 2 mX2_widestFrom 0 := ⟨lnX2_widestFrom, nk_in 732 (by decide +kernel) rfl, nk_in 733 (by decide +kernel) rfl, nk_in 734 (by decide +kernel) rfl, _, rfl, rfl⟩
theorem kL_155 : nk_lV RL 155 6 mX7_likely 5 := ⟨lnX7_likely, nk_in 736 (by decide +kernel) rfl, nk_in 737 (by decide +kernel) rfl, nk_in 738 (by decide +kernel) rfl, _, rfl, rfl⟩
theorem qX7_258 : Cond.constantLong RX7 258 (-1000001) ∈ nk_tw := nk_in 740 (by decide +kernel) rfl
theorem qX7_260 : Cond.constantLong RX7 260 (-1000002) ∈ nk_tw := nk_in 741 (by decide +kernel) rfl
theorem qX7_262 : Cond.constantLong RX7 262 (10) ∈ nk_tw := nk_in 742 (by decide +kernel) rfl
theorem kX7_264 : nk_lS RX7 264 mX7_sharedFactor 2 := ⟨lnX7_sharedFactor, nk_in 743 (by decide +kernel) rfl, nk_in 744 (by decide +kernel) rfl⟩
theorem kX7_310 : nk_lS RX7 310 mJ9_max_f86c9 2 := ⟨lnJ9_max_f86c9, nk_in 746 (by decide +kernel) rfl, nk_in 747 (by decide +kernel) rfl⟩
theorem kL_160 : nk_lV RL 160 6 mX7_drawn 3 := ⟨lnX7_drawn, nk_in 749 (by decide +kernel) rfl, nk_in 750 (by decide +kernel) rfl, nk_in 751 (by decide +kernel) rfl, _, rfl, rfl⟩
theorem qX7_268 : Cond.constant RX7 268 (999999) ∈ nk_tw := nk_in 753 (by decide +kernel) rfl
theorem kX7_269 : nk_lV RX7 269 4 mX5_twin 0 := ⟨lnX5_twin, nk_in 754 (by decide +kernel) rfl, nk_in 755 (by decide +kernel) rfl, nk_in 756 (by decide +kernel) rfl, _, rfl, rfl⟩
theorem cX5_12 : Cond.classLink RX5 12 RX5 ∈ nk_tw := nk_in 758 (by decide +kernel) rfl
theorem nX5_12 : nk_nw RX5 12 4 4 [.int 0, .int 0, .null, .int 0] := ⟨RX5, TX5, tyX5, rfl, ftX5, tyX5_ok, cX5_12, nk_in 284 (by decide +kernel) rfl, nk_in 74 (by decide +kernel) rfl, (by decide +kernel)⟩
theorem kX5_34 : nk_lI RX5 34 mX5_init 1 := ⟨lnX5_init, nk_in 759 (by decide +kernel) rfl, nk_in 286 (by decide +kernel) rfl, rfl, rfl⟩
theorem kX5_40 : nk_lV RX5 40 4 mX5_append 1 := ⟨lnX5_append, nk_in 760 (by decide +kernel) rfl, nk_in 313 (by decide +kernel) rfl, nk_in 314 (by decide +kernel) rfl, _, rfl, rfl⟩
theorem kX5_48 : nk_lV RX5 48 2 mX2_become 1 := ⟨lnX2_become, nk_in 761 (by decide +kernel) rfl, nk_in 385 (by decide +kernel) rfl, nk_in 386 (by decide +kernel) rfl, _, rfl, rfl⟩
theorem kX7_272 : nk_lV RX7 272 4 mX5_draw 2 := ⟨lnX5_draw, nk_in 762 (by decide +kernel) rfl, nk_in 763 (by decide +kernel) rfl, nk_in 764 (by decide +kernel) rfl, _, rfl, rfl⟩
theorem qX5_81 : Cond.constantLong RX5 81 (16807) ∈ nk_tw := nk_in 766 (by decide +kernel) rfl
theorem qX5_83 : Cond.constantLong RX5 83 (2147483647) ∈ nk_tw := nk_in 767 (by decide +kernel) rfl
theorem qX5_85 : Cond.constantLong RX5 85 (8) ∈ nk_tw := nk_in 768 (by decide +kernel) rfl
theorem kX5_87 : nk_lV RX5 87 2 mX2_turn 2 := ⟨lnX2_turn, nk_in 769 (by decide +kernel) rfl, nk_in 421 (by decide +kernel) rfl, nk_in 422 (by decide +kernel) rfl, _, rfl, rfl⟩
theorem kX7_275 : nk_lV RX7 275 4 mX5_sizeOfAll 0 := ⟨lnX5_sizeOfAll, nk_in 770 (by decide +kernel) rfl, nk_in 771 (by decide +kernel) rfl, nk_in 772 (by decide +kernel) rfl, _, rfl, rfl⟩
theorem kX5_52 : nk_lV RX5 52 2 mX2_size 0 := ⟨lnX2_size, nk_in 774 (by decide +kernel) rfl, nk_in 432 (by decide +kernel) rfl, nk_in 433 (by decide +kernel) rfl, _, rfl, rfl⟩
theorem kX7_278 : nk_lV RX7 278 4 mX5_nodesOfAll 0 := ⟨lnX5_nodesOfAll, nk_in 775 (by decide +kernel) rfl, nk_in 776 (by decide +kernel) rfl, nk_in 777 (by decide +kernel) rfl, _, rfl, rfl⟩
theorem kX5_56 : nk_lV RX5 56 2 mX2_rootNodes 0 := ⟨lnX2_rootNodes, nk_in 779 (by decide +kernel) rfl, nk_in 604 (by decide +kernel) rfl, nk_in 605 (by decide +kernel) rfl, _, rfl, rfl⟩
theorem kL_164 : nk_lV RL 164 6 mX7_image 1 := ⟨lnX7_image, nk_in 780 (by decide +kernel) rfl, nk_in 781 (by decide +kernel) rfl, nk_in 782 (by decide +kernel) rfl, _, rfl, rfl⟩
theorem kL_168 : nk_lV RL 168 6 mX7_restore 1 := ⟨lnX7_restore, nk_in 784 (by decide +kernel) rfl, nk_in 785 (by decide +kernel) rfl, nk_in 786 (by decide +kernel) rfl, _, rfl, rfl⟩
theorem kL_172 : nk_lV RL 172 6 mX7_kind 1 := ⟨lnX7_kind, nk_in 788 (by decide +kernel) rfl, nk_in 789 (by decide +kernel) rfl, nk_in 790 (by decide +kernel) rfl, _, rfl, rfl⟩
theorem kL_176 : nk_lV RL 176 6 mX7_as 2 := ⟨lnX7_as, nk_in 792 (by decide +kernel) rfl, nk_in 793 (by decide +kernel) rfl, nk_in 794 (by decide +kernel) rfl, _, rfl, rfl⟩
theorem kX7_284 : nk_lS RX7 284 mX7_isSuch 2 := ⟨lnX7_isSuch, nk_in 796 (by decide +kernel) rfl, nk_in 797 (by decide +kernel) rfl⟩
theorem zX7_307 : Cond.fieldLink RX7 307 RX7 "PARENT" "[I" ∈ nk_tw := nk_in 799 (by decide +kernel) rfl
theorem kL_180 : nk_lV RL 180 6 mX7_ask 2 := ⟨lnX7_ask, nk_in 801 (by decide +kernel) rfl, nk_in 802 (by decide +kernel) rfl, nk_in 803 (by decide +kernel) rfl, _, rfl, rfl⟩
theorem kX7_287 : nk_lV RX7 287 1 mX1_answerAnew 2 := ⟨lnX1_answerAnew, nk_in 805 (by decide +kernel) rfl, nk_in 806 (by decide +kernel) rfl, nk_in 807 (by decide +kernel) rfl, _, rfl, rfl⟩
theorem kX1_19 : nk_lV RX1 19 1 mX1_answer 3 := ⟨lnX1_answer, nk_in 809 (by decide +kernel) rfl, nk_in 811 (by decide +kernel) rfl, nk_in 13 (by decide +kernel) rfl, _, rfl, rfl⟩
theorem kX1_23 : nk_lSN RX1 23 mX7_within 3 := ⟨lnX7_within, (by decide +kernel), nk_in 193 (by decide +kernel) rfl⟩
theorem zX1_33 : Cond.fieldLink RX1 33 RX1 "SIZE_BODY" "[I" ∈ nk_tw := nk_in 814 (by decide +kernel) rfl
theorem zX1_36 : Cond.fieldLink RX1 36 RX1 "MARK_BODY" "[I" ∈ nk_tw := nk_in 816 (by decide +kernel) rfl
theorem kX1_39 : nk_lV RX1 39 1 mX1_body 3 := ⟨lnX1_body, nk_in 818 (by decide +kernel) rfl, nk_in 820 (by decide +kernel) rfl, nk_in 14 (by decide +kernel) rfl, _, rfl, rfl⟩
theorem kX1_42 : nk_lV RX1 42 1 mX1_leave 1 := ⟨lnX1_leave, nk_in 822 (by decide +kernel) rfl, nk_in 824 (by decide +kernel) rfl, nk_in 15 (by decide +kernel) rfl, _, rfl, rfl⟩
theorem kX1_46 : nk_lV RX1 46 2 mX2_size 0 := ⟨lnX2_size, nk_in 826 (by decide +kernel) rfl, nk_in 432 (by decide +kernel) rfl, nk_in 433 (by decide +kernel) rfl, _, rfl, rfl⟩
theorem kX1_53 : nk_lV RX1 53 2 mX2_least 0 := ⟨lnX2_least, nk_in 827 (by decide +kernel) rfl, nk_in 515 (by decide +kernel) rfl, nk_in 516 (by decide +kernel) rfl, _, rfl, rfl⟩
theorem kX1_56 : nk_lS RX1 56 mJ9_max_7cf53 2 := ⟨lnJ9_max_7cf53, nk_in 828 (by decide +kernel) rfl, nk_in 428 (by decide +kernel) rfl⟩
theorem kL_184 : nk_lV RL 184 6 mX7_trace 1 := ⟨lnX7_trace, nk_in 829 (by decide +kernel) rfl, nk_in 830 (by decide +kernel) rfl, nk_in 831 (by decide +kernel) rfl, _, rfl, rfl⟩
theorem kX7_291 : nk_lV RX7 291 1 mX1_leftAt 1 := ⟨lnX1_leftAt, nk_in 833 (by decide +kernel) rfl, nk_in 834 (by decide +kernel) rfl, nk_in 835 (by decide +kernel) rfl, _, rfl, rfl⟩
theorem qX1_27 : Cond.constant RX1 27 (-1000000) ∈ nk_tw := nk_in 837 (by decide +kernel) rfl
theorem kL_188 : nk_lV RL 188 6 mX7_count 1 := ⟨lnX7_count, nk_in 838 (by decide +kernel) rfl, nk_in 839 (by decide +kernel) rfl, nk_in 840 (by decide +kernel) rfl, _, rfl, rfl⟩
theorem kX7_294 : nk_lV RX7 294 6 mX7_rowsThere 0 := ⟨lnX7_rowsThere, nk_in 842 (by decide +kernel) rfl, nk_in 844 (by decide +kernel) rfl, nk_in 16 (by decide +kernel) rfl, _, rfl, rfl⟩
theorem kL_192 : nk_lV RL 192 6 mX7_status 0 := ⟨lnX7_status, nk_in 846 (by decide +kernel) rfl, nk_in 847 (by decide +kernel) rfl, nk_in 848 (by decide +kernel) rfl, _, rfl, rfl⟩
theorem cL_10 : Cond.classLink RL 10 RX8 ∈ nk_tw := nk_in 850 (by decide +kernel) rfl
theorem nL_10 : nk_nw RL 10 7 15 [.null, .int 0, .null, .null, .null, .null, .null, .int 0, .int 0, .int 0, .null, .int 0, .int 0, .int 0, .int 0] := ⟨RX8, TX8, tyX8, rfl, ftX8, tyX8_ok, cL_10, nk_in 851 (by decide +kernel) rfl, nk_in 71 (by decide +kernel) rfl, (by decide +kernel)⟩
theorem kL_12 : nk_lI RL 12 mX8_init 0 := ⟨lnX8_init, nk_in 852 (by decide +kernel) rfl, nk_in 853 (by decide +kernel) rfl, rfl, rfl⟩
theorem kX8_1 : Cond.methodLink RX8 1 objectInit ∈ nk_tw := nk_in 855 (by decide +kernel) rfl
theorem wX8_7 : Cond.fieldLink RX8 7 (TX8 0).1 (TX8 0).2.1 (TX8 0).2.2.1 ∈ nk_tw := nk_in 856 (by decide +kernel) rfl
theorem fX8_7 : nk_fl RX8 7 7 0 := ⟨RX8, TX8, 15, rfl, ftX8, by decide, wX8_7⟩
theorem pX8_7 : nk_fp RX8 7 7 0 (.array .int) true := ⟨RX8, TX8, 15, tyX8, rfl, ftX8, tyX8_ok, nmX8, by decide, wX8_7, rfl, (by decide +kernel), rfl⟩
theorem wX8_121 : Cond.fieldLink RX8 121 (TX8 1).1 (TX8 1).2.1 (TX8 1).2.2.1 ∈ nk_tw := nk_in 857 (by decide +kernel) rfl
theorem fX8_121 : nk_fl RX8 121 7 1 := ⟨RX8, TX8, 15, rfl, ftX8, by decide, wX8_121⟩
theorem pX8_121 : nk_fp RX8 121 7 1 .int false := ⟨RX8, TX8, 15, tyX8, rfl, ftX8, tyX8_ok, nmX8, by decide, wX8_121, rfl, (by decide +kernel), rfl⟩
theorem wX8_13 : Cond.fieldLink RX8 13 (TX8 2).1 (TX8 2).2.1 (TX8 2).2.2.1 ∈ nk_tw := nk_in 858 (by decide +kernel) rfl
theorem fX8_13 : nk_fl RX8 13 7 2 := ⟨RX8, TX8, 15, rfl, ftX8, by decide, wX8_13⟩
theorem pX8_13 : nk_fp RX8 13 7 2 (.array .boolean) true := ⟨RX8, TX8, 15, tyX8, rfl, ftX8, tyX8_ok, nmX8, by decide, wX8_13, rfl, (by decide +kernel), rfl⟩
theorem wX8_17 : Cond.fieldLink RX8 17 (TX8 3).1 (TX8 3).2.1 (TX8 3).2.2.1 ∈ nk_tw := nk_in 859 (by decide +kernel) rfl
theorem fX8_17 : nk_fl RX8 17 7 3 := ⟨RX8, TX8, 15, rfl, ftX8, by decide, wX8_17⟩
theorem pX8_17 : nk_fp RX8 17 7 3 (.array .int) true := ⟨RX8, TX8, 15, tyX8, rfl, ftX8, tyX8_ok, nmX8, by decide, wX8_17, rfl, (by decide +kernel), rfl⟩
theorem wX8_20 : Cond.fieldLink RX8 20 (TX8 4).1 (TX8 4).2.1 (TX8 4).2.2.1 ∈ nk_tw := nk_in 860 (by decide +kernel) rfl
theorem fX8_20 : nk_fl RX8 20 7 4 := ⟨RX8, TX8, 15, rfl, ftX8, by decide, wX8_20⟩
theorem pX8_20 : nk_fp RX8 20 7 4 (.array .int) true := ⟨RX8, TX8, 15, tyX8, rfl, ftX8, tyX8_ok, nmX8, by decide, wX8_20, rfl, (by decide +kernel), rfl⟩
theorem wX8_23 : Cond.fieldLink RX8 23 (TX8 5).1 (TX8 5).2.1 (TX8 5).2.2.1 ∈ nk_tw := nk_in 861 (by decide +kernel) rfl
theorem fX8_23 : nk_fl RX8 23 7 5 := ⟨RX8, TX8, 15, rfl, ftX8, by decide, wX8_23⟩
theorem pX8_23 : nk_fp RX8 23 7 5 (.array .int) true := ⟨RX8, TX8, 15, tyX8, rfl, ftX8, tyX8_ok, nmX8, by decide, wX8_23, rfl, (by decide +kernel), rfl⟩
theorem wX8_26 : Cond.fieldLink RX8 26 (TX8 6).1 (TX8 6).2.1 (TX8 6).2.2.1 ∈ nk_tw := nk_in 862 (by decide +kernel) rfl
theorem fX8_26 : nk_fl RX8 26 7 6 := ⟨RX8, TX8, 15, rfl, ftX8, by decide, wX8_26⟩
theorem pX8_26 : nk_fp RX8 26 7 6 (.array .int) true := ⟨RX8, TX8, 15, tyX8, rfl, ftX8, tyX8_ok, nmX8, by decide, wX8_26, rfl, (by decide +kernel), rfl⟩
theorem wX8_67 : Cond.fieldLink RX8 67 (TX8 7).1 (TX8 7).2.1 (TX8 7).2.2.1 ∈ nk_tw := nk_in 863 (by decide +kernel) rfl
theorem fX8_67 : nk_fl RX8 67 7 7 := ⟨RX8, TX8, 15, rfl, ftX8, by decide, wX8_67⟩
theorem pX8_67 : nk_fp RX8 67 7 7 .int false := ⟨RX8, TX8, 15, tyX8, rfl, ftX8, tyX8_ok, nmX8, by decide, wX8_67, rfl, (by decide +kernel), rfl⟩
theorem wX8_113 : Cond.fieldLink RX8 113 (TX8 8).1 (TX8 8).2.1 (TX8 8).2.2.1 ∈ nk_tw := nk_in 864 (by decide +kernel) rfl
theorem fX8_113 : nk_fl RX8 113 7 8 := ⟨RX8, TX8, 15, rfl, ftX8, by decide, wX8_113⟩
theorem pX8_113 : nk_fp RX8 113 7 8 .int false := ⟨RX8, TX8, 15, tyX8, rfl, ftX8, tyX8_ok, nmX8, by decide, wX8_113, rfl, (by decide +kernel), rfl⟩
theorem wX8_32 : Cond.fieldLink RX8 32 (TX8 9).1 (TX8 9).2.1 (TX8 9).2.2.1 ∈ nk_tw := nk_in 865 (by decide +kernel) rfl
theorem fX8_32 : nk_fl RX8 32 7 9 := ⟨RX8, TX8, 15, rfl, ftX8, by decide, wX8_32⟩
theorem pX8_32 : nk_fp RX8 32 7 9 .int false := ⟨RX8, TX8, 15, tyX8, rfl, ftX8, tyX8_ok, nmX8, by decide, wX8_32, rfl, (by decide +kernel), rfl⟩
theorem wX8_29 : Cond.fieldLink RX8 29 (TX8 10).1 (TX8 10).2.1 (TX8 10).2.2.1 ∈ nk_tw := nk_in 866 (by decide +kernel) rfl
theorem fX8_29 : nk_fl RX8 29 7 10 := ⟨RX8, TX8, 15, rfl, ftX8, by decide, wX8_29⟩
theorem pX8_29 : nk_fp RX8 29 7 10 (.array .int) true := ⟨RX8, TX8, 15, tyX8, rfl, ftX8, tyX8_ok, nmX8, by decide, wX8_29, rfl, (by decide +kernel), rfl⟩
theorem wX8_313 : Cond.fieldLink RX8 313 (TX8 11).1 (TX8 11).2.1 (TX8 11).2.2.1 ∈ nk_tw := nk_in 867 (by decide +kernel) rfl
theorem fX8_313 : nk_fl RX8 313 7 11 := ⟨RX8, TX8, 15, rfl, ftX8, by decide, wX8_313⟩
theorem pX8_313 : nk_fp RX8 313 7 11 .int false := ⟨RX8, TX8, 15, tyX8, rfl, ftX8, tyX8_ok, nmX8, by decide, wX8_313, rfl, (by decide +kernel), rfl⟩
theorem wX8_71 : Cond.fieldLink RX8 71 (TX8 12).1 (TX8 12).2.1 (TX8 12).2.2.1 ∈ nk_tw := nk_in 868 (by decide +kernel) rfl
theorem fX8_71 : nk_fl RX8 71 7 12 := ⟨RX8, TX8, 15, rfl, ftX8, by decide, wX8_71⟩
theorem pX8_71 : nk_fp RX8 71 7 12 .int false := ⟨RX8, TX8, 15, tyX8, rfl, ftX8, tyX8_ok, nmX8, by decide, wX8_71, rfl, (by decide +kernel), rfl⟩
theorem wX8_78 : Cond.fieldLink RX8 78 (TX8 13).1 (TX8 13).2.1 (TX8 13).2.2.1 ∈ nk_tw := nk_in 869 (by decide +kernel) rfl
theorem fX8_78 : nk_fl RX8 78 7 13 := ⟨RX8, TX8, 15, rfl, ftX8, by decide, wX8_78⟩
theorem pX8_78 : nk_fp RX8 78 7 13 .int false := ⟨RX8, TX8, 15, tyX8, rfl, ftX8, tyX8_ok, nmX8, by decide, wX8_78, rfl, (by decide +kernel), rfl⟩
theorem wX8_90 : Cond.fieldLink RX8 90 (TX8 14).1 (TX8 14).2.1 (TX8 14).2.2.1 ∈ nk_tw := nk_in 870 (by decide +kernel) rfl
theorem fX8_90 : nk_fl RX8 90 7 14 := ⟨RX8, TX8, 15, rfl, ftX8, by decide, wX8_90⟩
theorem pX8_90 : nk_fp RX8 90 7 14 .int false := ⟨RX8, TX8, 15, tyX8, rfl, ftX8, tyX8_ok, nmX8, by decide, wX8_90, rfl, (by decide +kernel), rfl⟩
theorem kL_17 : nk_lV RL 17 7 mX8_row 3 := ⟨lnX8_row, nk_in 903 (by decide +kernel) rfl, nk_in 904 (by decide +kernel) rfl, nk_in 905 (by decide +kernel) rfl, _, rfl, rfl⟩
theorem kX8_43 : nk_lS RX8 43 mX8_isRow 1 := ⟨lnX8_isRow, nk_in 907 (by decide +kernel) rfl, nk_in 908 (by decide +kernel) rfl⟩
theorem qX8_37 : Cond.constantLong RX8 37 (7) ∈ nk_tw := nk_in 910 (by decide +kernel) rfl
theorem kX8_39 : nk_lS RX8 39 mX8_in 3 := ⟨lnX8_in, nk_in 911 (by decide +kernel) rfl, nk_in 912 (by decide +kernel) rfl⟩
theorem qX8_47 : Cond.constantLong RX8 47 (2) ∈ nk_tw := nk_in 914 (by decide +kernel) rfl
theorem qX8_49 : Cond.constant RX8 49 (-1000001) ∈ nk_tw := nk_in 915 (by decide +kernel) rfl
theorem kX8_50 : nk_lV RX8 50 7 mX8_find 1 := ⟨lnX8_find, nk_in 916 (by decide +kernel) rfl, nk_in 918 (by decide +kernel) rfl, nk_in 17 (by decide +kernel) rfl, _, rfl, rfl⟩
theorem qX8_36 : Cond.constant RX8 36 (-1000010) ∈ nk_tw := nk_in 920 (by decide +kernel) rfl
theorem kX8_54 : nk_lV RX8 54 7 mX8_well 1 := ⟨lnX8_well, nk_in 921 (by decide +kernel) rfl, nk_in 923 (by decide +kernel) rfl, nk_in 18 (by decide +kernel) rfl, _, rfl, rfl⟩
theorem kL_21 : nk_lV RL 21 7 mX8_set 3 := ⟨lnX8_set, nk_in 925 (by decide +kernel) rfl, nk_in 926 (by decide +kernel) rfl, nk_in 927 (by decide +kernel) rfl, _, rfl, rfl⟩
theorem kX8_57 : nk_lS RX8 57 mX8_narrow 2 := ⟨lnX8_narrow, nk_in 929 (by decide +kernel) rfl, nk_in 930 (by decide +kernel) rfl⟩
theorem kL_26 : nk_lV RL 26 7 mX8_copy 5 := ⟨lnX8_copy, nk_in 932 (by decide +kernel) rfl, nk_in 933 (by decide +kernel) rfl, nk_in 934 (by decide +kernel) rfl, _, rfl, rfl⟩
theorem kX8_61 : nk_lV RX8 61 7 mX8_isSpan 3 := ⟨lnX8_isSpan, nk_in 936 (by decide +kernel) rfl, nk_in 938 (by decide +kernel) rfl, nk_in 19 (by decide +kernel) rfl, _, rfl, rfl⟩
theorem kL_31 : nk_lV RL 31 7 mX8_drop 1 := ⟨lnX8_drop, nk_in 940 (by decide +kernel) rfl, nk_in 941 (by decide +kernel) rfl, nk_in 942 (by decide +kernel) rfl, _, rfl, rfl⟩
theorem kL_35 : nk_lV RL 35 7 mX8_feed 1 := ⟨lnX8_feed, nk_in 944 (by decide +kernel) rfl, nk_in 945 (by decide +kernel) rfl, nk_in 946 (by decide +kernel) rfl, _, rfl, rfl⟩
theorem qX8_65 : Cond.constantLong RX8 65 (255) ∈ nk_tw := nk_in 948 (by decide +kernel) rfl
theorem qX8_70 : Cond.constant RX8 70 (-1000003) ∈ nk_tw := nk_in 949 (by decide +kernel) rfl
theorem kL_40 : nk_lV RL 40 7 mX8_shelf 0 := ⟨lnX8_shelf, nk_in 950 (by decide +kernel) rfl, nk_in 951 (by decide +kernel) rfl, nk_in 952 (by decide +kernel) rfl, _, rfl, rfl⟩
theorem kX8_110 : nk_lV RX8 110 7 mX8_reads 0 := ⟨lnX8_reads, nk_in 954 (by decide +kernel) rfl, nk_in 956 (by decide +kernel) rfl, nk_in 20 (by decide +kernel) rfl, _, rfl, rfl⟩
theorem kX8_103 : nk_lV RX8 103 7 mX8_readsLaw 0 := ⟨lnX8_readsLaw, nk_in 958 (by decide +kernel) rfl, nk_in 960 (by decide +kernel) rfl, nk_in 21 (by decide +kernel) rfl, _, rfl, rfl⟩
theorem kX8_93 : nk_lV RX8 93 7 mX8_sign 1 := ⟨lnX8_sign, nk_in 962 (by decide +kernel) rfl, nk_in 964 (by decide +kernel) rfl, nk_in 22 (by decide +kernel) rfl, _, rfl, rfl⟩
theorem kX8_81 : nk_lV RX8 81 7 mX8_isLetter 1 := ⟨lnX8_isLetter, nk_in 966 (by decide +kernel) rfl, nk_in 968 (by decide +kernel) rfl, nk_in 23 (by decide +kernel) rfl, _, rfl, rfl⟩
theorem kX8_84 : nk_lV RX8 84 7 mX8_refuse 1 := ⟨lnX8_refuse, nk_in 970 (by decide +kernel) rfl, nk_in 972 (by decide +kernel) rfl, nk_in 24 (by decide +kernel) rfl, _, rfl, rfl⟩
theorem kX8_96 : nk_lV RX8 96 7 mX8_readsNumber 2 := ⟨lnX8_readsNumber, nk_in 974 (by decide +kernel) rfl, nk_in 976 (by decide +kernel) rfl, nk_in 25 (by decide +kernel) rfl, _, rfl, rfl⟩
theorem kX8_87 : nk_lV RX8 87 7 mX8_isFigure 1 := ⟨lnX8_isFigure, nk_in 978 (by decide +kernel) rfl, nk_in 980 (by decide +kernel) rfl, nk_in 26 (by decide +kernel) rfl, _, rfl, rfl⟩
theorem qX8_74 : Cond.constantLong RX8 74 (48) ∈ nk_tw := nk_in 982 (by decide +kernel) rfl
theorem qX8_76 : Cond.constantLong RX8 76 (57) ∈ nk_tw := nk_in 983 (by decide +kernel) rfl
theorem kX8_100 : nk_lS RX8 100 mX8_kindOfLetter 1 := ⟨lnX8_kindOfLetter, nk_in 984 (by decide +kernel) rfl, nk_in 985 (by decide +kernel) rfl⟩
theorem kX8_107 : nk_lV RX8 107 7 mX8_readsSet 0 := ⟨lnX8_readsSet, nk_in 987 (by decide +kernel) rfl, nk_in 989 (by decide +kernel) rfl, nk_in 27 (by decide +kernel) rfl, _, rfl, rfl⟩
theorem qX8_116 : Cond.constant RX8 116 (-1000100) ∈ nk_tw := nk_in 991 (by decide +kernel) rfl
theorem kX8_117 : nk_lV RX8 117 7 mX8_copyShelf 2 := ⟨lnX8_copyShelf, nk_in 992 (by decide +kernel) rfl, nk_in 994 (by decide +kernel) rfl, nk_in 28 (by decide +kernel) rfl, _, rfl, rfl⟩
theorem kL_44 : nk_lV RL 44 7 mX8_fault 0 := ⟨lnX8_fault, nk_in 996 (by decide +kernel) rfl, nk_in 997 (by decide +kernel) rfl, nk_in 998 (by decide +kernel) rfl, _, rfl, rfl⟩
theorem kL_48 : nk_lV RL 48 7 mX8_undo 0 := ⟨lnX8_undo, nk_in 1000 (by decide +kernel) rfl, nk_in 1001 (by decide +kernel) rfl, nk_in 1002 (by decide +kernel) rfl, _, rfl, rfl⟩
theorem qX8_153 : Cond.constant RX8 153 (-1000002) ∈ nk_tw := nk_in 1004 (by decide +kernel) rfl
theorem kL_53 : nk_lV RL 53 7 mX8_add 2 := ⟨lnX8_add, nk_in 1005 (by decide +kernel) rfl, nk_in 1006 (by decide +kernel) rfl, nk_in 1007 (by decide +kernel) rfl, _, rfl, rfl⟩
theorem kX8_171 : nk_lV RX8 171 7 mX8_turnOne 3 := ⟨lnX8_turnOne, nk_in 1009 (by decide +kernel) rfl, nk_in 1011 (by decide +kernel) rfl, nk_in 29 (by decide +kernel) rfl, _, rfl, rfl⟩
theorem kX8_154 : nk_lV RX8 154 7 mX8_isSet 1 := ⟨lnX8_isSet, nk_in 1013 (by decide +kernel) rfl, nk_in 1015 (by decide +kernel) rfl, nk_in 30 (by decide +kernel) rfl, _, rfl, rfl⟩
theorem kX8_157 : nk_lV RX8 157 7 mX8_isKey 1 := ⟨lnX8_isKey, nk_in 1017 (by decide +kernel) rfl, nk_in 1019 (by decide +kernel) rfl, nk_in 31 (by decide +kernel) rfl, _, rfl, rfl⟩
theorem kX8_127 : nk_lV RX8 127 7 mX8_top 0 := ⟨lnX8_top, nk_in 1021 (by decide +kernel) rfl, nk_in 1023 (by decide +kernel) rfl, nk_in 32 (by decide +kernel) rfl, _, rfl, rfl⟩
theorem kX8_124 : nk_lV RX8 124 7 mX8_isShelf 0 := ⟨lnX8_isShelf, nk_in 1025 (by decide +kernel) rfl, nk_in 1027 (by decide +kernel) rfl, nk_in 33 (by decide +kernel) rfl, _, rfl, rfl⟩
theorem kX8_137 : nk_lV RX8 137 7 mX8_hasKey 3 := ⟨lnX8_hasKey, nk_in 1029 (by decide +kernel) rfl, nk_in 1031 (by decide +kernel) rfl, nk_in 34 (by decide +kernel) rfl, _, rfl, rfl⟩
theorem kX8_131 : nk_lS RX8 131 mX8_has 2 := ⟨lnX8_has, nk_in 1033 (by decide +kernel) rfl, nk_in 1034 (by decide +kernel) rfl⟩
theorem kX8_161 : nk_lV RX8 161 7 mX8_keepPast 0 := ⟨lnX8_keepPast, nk_in 1036 (by decide +kernel) rfl, nk_in 1038 (by decide +kernel) rfl, nk_in 35 (by decide +kernel) rfl, _, rfl, rfl⟩
theorem kX8_164 : nk_lV RX8 164 7 mX8_turnKey 3 := ⟨lnX8_turnKey, nk_in 1040 (by decide +kernel) rfl, nk_in 1042 (by decide +kernel) rfl, nk_in 36 (by decide +kernel) rfl, _, rfl, rfl⟩
theorem kX8_168 : nk_lV RX8 168 7 mX8_keysOf 2 := ⟨lnX8_keysOf, nk_in 1044 (by decide +kernel) rfl, nk_in 1046 (by decide +kernel) rfl, nk_in 37 (by decide +kernel) rfl, _, rfl, rfl⟩
theorem kX8_134 : nk_lS RX8 134 mX8_ones 1 := ⟨lnX8_ones, nk_in 1048 (by decide +kernel) rfl, nk_in 1049 (by decide +kernel) rfl⟩
theorem kL_57 : nk_lV RL 57 7 mX8_take 2 := ⟨lnX8_take, nk_in 1051 (by decide +kernel) rfl, nk_in 1052 (by decide +kernel) rfl, nk_in 1053 (by decide +kernel) rfl, _, rfl, rfl⟩
theorem kL_61 : nk_lV RL 61 7 mX8_flip 3 := ⟨lnX8_flip, nk_in 1055 (by decide +kernel) rfl, nk_in 1056 (by decide +kernel) rfl, nk_in 1057 (by decide +kernel) rfl, _, rfl, rfl⟩
theorem kL_66 : nk_lV RL 66 7 mX8_join 4 := ⟨lnX8_join, nk_in 1059 (by decide +kernel) rfl, nk_in 1060 (by decide +kernel) rfl, nk_in 1061 (by decide +kernel) rfl, _, rfl, rfl⟩
theorem qX8_175 : Cond.constantLong RX8 175 (3) ∈ nk_tw := nk_in 1063 (by decide +kernel) rfl
theorem kL_70 : nk_lV RL 70 7 mX8_shift 2 := ⟨lnX8_shift, nk_in 1064 (by decide +kernel) rfl, nk_in 1065 (by decide +kernel) rfl, nk_in 1066 (by decide +kernel) rfl, _, rfl, rfl⟩
theorem qX8_177 : Cond.constantLong RX8 177 (-9999) ∈ nk_tw := nk_in 1068 (by decide +kernel) rfl
theorem qX8_179 : Cond.constantLong RX8 179 (9999) ∈ nk_tw := nk_in 1069 (by decide +kernel) rfl
theorem kL_74 : nk_lV RL 74 7 mX8_gather 4 := ⟨lnX8_gather, nk_in 1070 (by decide +kernel) rfl, nk_in 1071 (by decide +kernel) rfl, nk_in 1072 (by decide +kernel) rfl, _, rfl, rfl⟩
theorem qX8_181 : Cond.constantLong RX8 181 (40) ∈ nk_tw := nk_in 1074 (by decide +kernel) rfl
theorem kL_78 : nk_lV RL 78 7 mX8_contains 2 := ⟨lnX8_contains, nk_in 1075 (by decide +kernel) rfl, nk_in 1076 (by decide +kernel) rfl, nk_in 1077 (by decide +kernel) rfl, _, rfl, rfl⟩
theorem kL_82 : nk_lV RL 82 7 mX8_keys 1 := ⟨lnX8_keys, nk_in 1079 (by decide +kernel) rfl, nk_in 1080 (by decide +kernel) rfl, nk_in 1081 (by decide +kernel) rfl, _, rfl, rfl⟩
theorem kL_86 : nk_lV RL 86 7 mX8_end 2 := ⟨lnX8_end, nk_in 1083 (by decide +kernel) rfl, nk_in 1084 (by decide +kernel) rfl, nk_in 1085 (by decide +kernel) rfl, _, rfl, rfl⟩
theorem kX8_147 : nk_lV RX8 147 7 mX8_leastOf 1 := ⟨lnX8_leastOf, nk_in 1087 (by decide +kernel) rfl, nk_in 1089 (by decide +kernel) rfl, nk_in 38 (by decide +kernel) rfl, _, rfl, rfl⟩
theorem kX8_141 : nk_lV RX8 141 7 mX8_above 2 := ⟨lnX8_above, nk_in 1091 (by decide +kernel) rfl, nk_in 1093 (by decide +kernel) rfl, nk_in 39 (by decide +kernel) rfl, _, rfl, rfl⟩
theorem qX8_140 : Cond.constant RX8 140 (-1000000) ∈ nk_tw := nk_in 1095 (by decide +kernel) rfl
theorem kX8_150 : nk_lV RX8 150 7 mX8_greatestOf 1 := ⟨lnX8_greatestOf, nk_in 1096 (by decide +kernel) rfl, nk_in 1098 (by decide +kernel) rfl, nk_in 40 (by decide +kernel) rfl, _, rfl, rfl⟩
theorem kX8_144 : nk_lV RX8 144 7 mX8_below 2 := ⟨lnX8_below, nk_in 1100 (by decide +kernel) rfl, nk_in 1102 (by decide +kernel) rfl, nk_in 41 (by decide +kernel) rfl, _, rfl, rfl⟩
theorem kL_90 : nk_lV RL 90 7 mX8_next 2 := ⟨lnX8_next, nk_in 1104 (by decide +kernel) rfl, nk_in 1105 (by decide +kernel) rfl, nk_in 1106 (by decide +kernel) rfl, _, rfl, rfl⟩
theorem kX8_183 : nk_lV RX8 183 7 mX8_nextOf 2 := ⟨lnX8_nextOf, nk_in 1108 (by decide +kernel) rfl, nk_in 1110 (by decide +kernel) rfl, nk_in 42 (by decide +kernel) rfl, _, rfl, rfl⟩
theorem kL_94 : nk_lV RL 94 7 mX8_beside 3 := ⟨lnX8_beside, nk_in 1112 (by decide +kernel) rfl, nk_in 1113 (by decide +kernel) rfl, nk_in 1114 (by decide +kernel) rfl, _, rfl, rfl⟩
theorem kL_98 : nk_lV RL 98 7 mX8_steps 2 := ⟨lnX8_steps, nk_in 1116 (by decide +kernel) rfl, nk_in 1117 (by decide +kernel) rfl, nk_in 1118 (by decide +kernel) rfl, _, rfl, rfl⟩
theorem kX8_226 : nk_lV RX8 226 7 mX8_lowBits 0 := ⟨lnX8_lowBits, nk_in 1120 (by decide +kernel) rfl, nk_in 1122 (by decide +kernel) rfl, nk_in 43 (by decide +kernel) rfl, _, rfl, rfl⟩
theorem kX8_232 : nk_lV RX8 232 7 mX8_clusterOf 2 := ⟨lnX8_clusterOf, nk_in 1124 (by decide +kernel) rfl, nk_in 1126 (by decide +kernel) rfl, nk_in 44 (by decide +kernel) rfl, _, rfl, rfl⟩
theorem kX8_247 : nk_lS RX8 247 mX8_greatestBit 1 := ⟨lnX8_greatestBit, nk_in 1128 (by decide +kernel) rfl, nk_in 1129 (by decide +kernel) rfl⟩
theorem kX8_250 : nk_lS RX8 250 mX8_stepsIn 3 := ⟨lnX8_stepsIn, nk_in 1131 (by decide +kernel) rfl, nk_in 1132 (by decide +kernel) rfl⟩
theorem kX8_244 : nk_lS RX8 244 mX8_leastBit 1 := ⟨lnX8_leastBit, nk_in 1134 (by decide +kernel) rfl, nk_in 1135 (by decide +kernel) rfl⟩
theorem kX8_190 : nk_lS RX8 190 mX8_rest 1 := ⟨lnX8_rest, nk_in 1137 (by decide +kernel) rfl, nk_in 1138 (by decide +kernel) rfl⟩
theorem kX8_186 : nk_lS RX8 186 mX8_part 3 := ⟨lnX8_part, nk_in 1140 (by decide +kernel) rfl, nk_in 1141 (by decide +kernel) rfl⟩
theorem kX8_193 : nk_lS RX8 193 mX8_highs 3 := ⟨lnX8_highs, nk_in 1143 (by decide +kernel) rfl, nk_in 1144 (by decide +kernel) rfl⟩
theorem kX8_235 : nk_lV RX8 235 7 mX8_summaryOf 1 := ⟨lnX8_summaryOf, nk_in 1146 (by decide +kernel) rfl, nk_in 1148 (by decide +kernel) rfl, nk_in 45 (by decide +kernel) rfl, _, rfl, rfl⟩
theorem kX8_229 : nk_lV RX8 229 7 mX8_highBits 0 := ⟨lnX8_highBits, nk_in 1150 (by decide +kernel) rfl, nk_in 1152 (by decide +kernel) rfl, nk_in 46 (by decide +kernel) rfl, _, rfl, rfl⟩
theorem kL_102 : nk_lV RL 102 7 mX8_tree 2 := ⟨lnX8_tree, nk_in 1154 (by decide +kernel) rfl, nk_in 1155 (by decide +kernel) rfl, nk_in 1156 (by decide +kernel) rfl, _, rfl, rfl⟩
theorem kX8_253 : nk_lV RX8 253 7 mX8_nodesIn 1 := ⟨lnX8_nodesIn, nk_in 1158 (by decide +kernel) rfl, nk_in 1160 (by decide +kernel) rfl, nk_in 47 (by decide +kernel) rfl, _, rfl, rfl⟩
theorem kX8_238 : nk_lS RX8 238 mX8_nodesOf 2 := ⟨lnX8_nodesOf, nk_in 1162 (by decide +kernel) rfl, nk_in 1163 (by decide +kernel) rfl⟩
theorem kX8_196 : nk_lS RX8 196 mX8_nodes1 1 := ⟨lnX8_nodes1, nk_in 1165 (by decide +kernel) rfl, nk_in 1166 (by decide +kernel) rfl⟩
theorem kX8_199 : nk_lS RX8 199 mX8_nodes2 1 := ⟨lnX8_nodes2, nk_in 1168 (by decide +kernel) rfl, nk_in 1169 (by decide +kernel) rfl⟩
theorem kX8_202 : nk_lS RX8 202 mX8_nodes3 1 := ⟨lnX8_nodes3, nk_in 1171 (by decide +kernel) rfl, nk_in 1172 (by decide +kernel) rfl⟩
theorem kX8_205 : nk_lS RX8 205 mX8_nodes4 1 := ⟨lnX8_nodes4, nk_in 1174 (by decide +kernel) rfl, nk_in 1175 (by decide +kernel) rfl⟩
theorem kX8_208 : nk_lS RX8 208 mX8_nodes5 1 := ⟨lnX8_nodes5, nk_in 1177 (by decide +kernel) rfl, nk_in 1178 (by decide +kernel) rfl⟩
theorem kX8_256 : nk_lV RX8 256 7 mX8_depthIn 1 := ⟨lnX8_depthIn, nk_in 1180 (by decide +kernel) rfl, nk_in 1182 (by decide +kernel) rfl, nk_in 48 (by decide +kernel) rfl, _, rfl, rfl⟩
theorem kX8_241 : nk_lS RX8 241 mX8_deepOf 2 := ⟨lnX8_deepOf, nk_in 1184 (by decide +kernel) rfl, nk_in 1185 (by decide +kernel) rfl⟩
theorem kX8_211 : nk_lS RX8 211 mX8_deep2 1 := ⟨lnX8_deep2, nk_in 1187 (by decide +kernel) rfl, nk_in 1188 (by decide +kernel) rfl⟩
theorem kX8_217 : nk_lS RX8 217 mX8_deep3 1 := ⟨lnX8_deep3, nk_in 1190 (by decide +kernel) rfl, nk_in 1191 (by decide +kernel) rfl⟩
theorem kX8_214 : nk_lS RX8 214 mX8_more 2 := ⟨lnX8_more, nk_in 1193 (by decide +kernel) rfl, nk_in 1194 (by decide +kernel) rfl⟩
theorem kX8_220 : nk_lS RX8 220 mX8_deep4 1 := ⟨lnX8_deep4, nk_in 1196 (by decide +kernel) rfl, nk_in 1197 (by decide +kernel) rfl⟩
theorem kX8_223 : nk_lS RX8 223 mX8_deep5 1 := ⟨lnX8_deep5, nk_in 1199 (by decide +kernel) rfl, nk_in 1200 (by decide +kernel) rfl⟩
theorem kL_106 : nk_lV RL 106 7 mX8_cluster 3 := ⟨lnX8_cluster, nk_in 1202 (by decide +kernel) rfl, nk_in 1203 (by decide +kernel) rfl, nk_in 1204 (by decide +kernel) rfl, _, rfl, rfl⟩
theorem kX8_259 : nk_lS RX8 259 mX8_nodeTells 3 := ⟨lnX8_nodeTells, nk_in 1206 (by decide +kernel) rfl, nk_in 1207 (by decide +kernel) rfl⟩
theorem kL_110 : nk_lV RL 110 7 mX8_summary 2 := ⟨lnX8_summary, nk_in 1209 (by decide +kernel) rfl, nk_in 1210 (by decide +kernel) rfl, nk_in 1211 (by decide +kernel) rfl, _, rfl, rfl⟩
theorem kL_114 : nk_lV RL 114 7 mX8_word 3 := ⟨lnX8_word, nk_in 1213 (by decide +kernel) rfl, nk_in 1214 (by decide +kernel) rfl, nk_in 1215 (by decide +kernel) rfl, _, rfl, rfl⟩
theorem kX8_265 : nk_lV RX8 265 7 mX8_isWord 3 := ⟨lnX8_isWord, nk_in 1217 (by decide +kernel) rfl, nk_in 1219 (by decide +kernel) rfl, nk_in 49 (by decide +kernel) rfl, _, rfl, rfl⟩
theorem kX8_262 : nk_lV RX8 262 7 mX8_wordMany 0 := ⟨lnX8_wordMany, nk_in 1221 (by decide +kernel) rfl, nk_in 1223 (by decide +kernel) rfl, nk_in 50 (by decide +kernel) rfl, _, rfl, rfl⟩
theorem kX8_268 : nk_lV RX8 268 7 mX8_wordOf 3 := ⟨lnX8_wordOf, nk_in 1225 (by decide +kernel) rfl, nk_in 1227 (by decide +kernel) rfl, nk_in 51 (by decide +kernel) rfl, _, rfl, rfl⟩
theorem kL_118 : nk_lV RL 118 7 mX8_bits 4 := ⟨lnX8_bits, nk_in 1229 (by decide +kernel) rfl, nk_in 1230 (by decide +kernel) rfl, nk_in 1231 (by decide +kernel) rfl, _, rfl, rfl⟩
theorem kL_122 : nk_lV RL 122 7 mX8_share 2 := ⟨lnX8_share, nk_in 1233 (by decide +kernel) rfl, nk_in 1234 (by decide +kernel) rfl, nk_in 1235 (by decide +kernel) rfl, _, rfl, rfl⟩
theorem kX8_275 : nk_lS RX8 275 mX8_floatOf 2 := ⟨lnX8_floatOf, nk_in 1237 (by decide +kernel) rfl, nk_in 1238 (by decide +kernel) rfl⟩
theorem qX8_271 : Cond.constantLong RX8 271 (8388608) ∈ nk_tw := nk_in 1240 (by decide +kernel) rfl
theorem qX8_273 : Cond.constantLong RX8 273 (16777216) ∈ nk_tw := nk_in 1241 (by decide +kernel) rfl
theorem kX8_278 : nk_lV RX8 278 7 mX8_sumOf 1 := ⟨lnX8_sumOf, nk_in 1242 (by decide +kernel) rfl, nk_in 1244 (by decide +kernel) rfl, nk_in 52 (by decide +kernel) rfl, _, rfl, rfl⟩
theorem kL_126 : nk_lV RL 126 7 mX8_rank 2 := ⟨lnX8_rank, nk_in 1246 (by decide +kernel) rfl, nk_in 1247 (by decide +kernel) rfl, nk_in 1248 (by decide +kernel) rfl, _, rfl, rfl⟩
theorem kL_130 : nk_lV RL 130 7 mX8_nth 2 := ⟨lnX8_nth, nk_in 1250 (by decide +kernel) rfl, nk_in 1251 (by decide +kernel) rfl, nk_in 1252 (by decide +kernel) rfl, _, rfl, rfl⟩
theorem kL_134 : nk_lV RL 134 7 mX8_near 2 := ⟨lnX8_near, nk_in 1254 (by decide +kernel) rfl, nk_in 1255 (by decide +kernel) rfl, nk_in 1256 (by decide +kernel) rfl, _, rfl, rfl⟩
theorem kL_138 : nk_lV RL 138 7 mX8_tell 4 := ⟨lnX8_tell, nk_in 1258 (by decide +kernel) rfl, nk_in 1259 (by decide +kernel) rfl, nk_in 1260 (by decide +kernel) rfl, _, rfl, rfl⟩
theorem kL_142 : nk_lV RL 142 7 mX8_chase 4 := ⟨lnX8_chase, nk_in 1262 (by decide +kernel) rfl, nk_in 1263 (by decide +kernel) rfl, nk_in 1264 (by decide +kernel) rfl, _, rfl, rfl⟩
theorem qX8_281 : Cond.constantLong RX8 281 (60) ∈ nk_tw := nk_in 1266 (by decide +kernel) rfl
theorem kL_146 : nk_lV RL 146 7 mX8_meet 1 := ⟨lnX8_meet, nk_in 1267 (by decide +kernel) rfl, nk_in 1268 (by decide +kernel) rfl, nk_in 1269 (by decide +kernel) rfl, _, rfl, rfl⟩
theorem kL_150 : nk_lV RL 150 7 mX8_cover 3 := ⟨lnX8_cover, nk_in 1271 (by decide +kernel) rfl, nk_in 1272 (by decide +kernel) rfl, nk_in 1273 (by decide +kernel) rfl, _, rfl, rfl⟩
theorem kX8_283 : nk_lV RX8 283 7 mX8_isCovered 3 := ⟨lnX8_isCovered, nk_in 1275 (by decide +kernel) rfl, nk_in 1277 (by decide +kernel) rfl, nk_in 53 (by decide +kernel) rfl, _, rfl, rfl⟩
theorem kL_154 : nk_lV RL 154 7 mX8_gap 2 := ⟨lnX8_gap, nk_in 1279 (by decide +kernel) rfl, nk_in 1280 (by decide +kernel) rfl, nk_in 1281 (by decide +kernel) rfl, _, rfl, rfl⟩
theorem kL_159 : nk_lV RL 159 7 mX8_likely 5 := ⟨lnX8_likely, nk_in 1283 (by decide +kernel) rfl, nk_in 1284 (by decide +kernel) rfl, nk_in 1285 (by decide +kernel) rfl, _, rfl, rfl⟩
theorem qX8_286 : Cond.constantLong RX8 286 (10) ∈ nk_tw := nk_in 1287 (by decide +kernel) rfl
theorem qX8_288 : Cond.constantLong RX8 288 (-1000001) ∈ nk_tw := nk_in 1288 (by decide +kernel) rfl
theorem qX8_290 : Cond.constantLong RX8 290 (-1000002) ∈ nk_tw := nk_in 1289 (by decide +kernel) rfl
theorem kL_163 : nk_lV RL 163 7 mX8_drawn 3 := ⟨lnX8_drawn, nk_in 1290 (by decide +kernel) rfl, nk_in 1291 (by decide +kernel) rfl, nk_in 1292 (by decide +kernel) rfl, _, rfl, rfl⟩
theorem qX8_292 : Cond.constantLong RX8 292 (200) ∈ nk_tw := nk_in 1294 (by decide +kernel) rfl
theorem qX8_294 : Cond.constantLong RX8 294 (999999) ∈ nk_tw := nk_in 1295 (by decide +kernel) rfl
theorem qX8_296 : Cond.constantLong RX8 296 (16807) ∈ nk_tw := nk_in 1296 (by decide +kernel) rfl
theorem qX8_298 : Cond.constantLong RX8 298 (2147483647) ∈ nk_tw := nk_in 1297 (by decide +kernel) rfl
theorem qX8_300 : Cond.constantLong RX8 300 (8) ∈ nk_tw := nk_in 1298 (by decide +kernel) rfl
theorem kX8_302 : nk_lV RX8 302 7 mX8_allKeys 0 := ⟨lnX8_allKeys, nk_in 1299 (by decide +kernel) rfl, nk_in 1301 (by decide +kernel) rfl, nk_in 54 (by decide +kernel) rfl, _, rfl, rfl⟩
theorem kX8_305 : nk_lV RX8 305 7 mX8_allNodes 0 := ⟨lnX8_allNodes, nk_in 1303 (by decide +kernel) rfl, nk_in 1305 (by decide +kernel) rfl, nk_in 55 (by decide +kernel) rfl, _, rfl, rfl⟩
theorem kL_167 : nk_lV RL 167 7 mX8_image 1 := ⟨lnX8_image, nk_in 1307 (by decide +kernel) rfl, nk_in 1308 (by decide +kernel) rfl, nk_in 1309 (by decide +kernel) rfl, _, rfl, rfl⟩
theorem kL_171 : nk_lV RL 171 7 mX8_restore 1 := ⟨lnX8_restore, nk_in 1311 (by decide +kernel) rfl, nk_in 1312 (by decide +kernel) rfl, nk_in 1313 (by decide +kernel) rfl, _, rfl, rfl⟩
theorem kL_175 : nk_lV RL 175 7 mX8_kind 1 := ⟨lnX8_kind, nk_in 1315 (by decide +kernel) rfl, nk_in 1316 (by decide +kernel) rfl, nk_in 1317 (by decide +kernel) rfl, _, rfl, rfl⟩
theorem kL_179 : nk_lV RL 179 7 mX8_as 2 := ⟨lnX8_as, nk_in 1319 (by decide +kernel) rfl, nk_in 1320 (by decide +kernel) rfl, nk_in 1321 (by decide +kernel) rfl, _, rfl, rfl⟩
theorem qX8_308 : Cond.constantLong RX8 308 (5) ∈ nk_tw := nk_in 1323 (by decide +kernel) rfl
theorem kX8_310 : nk_lV RX8 310 7 mX8_isOf 2 := ⟨lnX8_isOf, nk_in 1324 (by decide +kernel) rfl, nk_in 1326 (by decide +kernel) rfl, nk_in 56 (by decide +kernel) rfl, _, rfl, rfl⟩
theorem kL_183 : nk_lV RL 183 7 mX8_ask 2 := ⟨lnX8_ask, nk_in 1328 (by decide +kernel) rfl, nk_in 1329 (by decide +kernel) rfl, nk_in 1330 (by decide +kernel) rfl, _, rfl, rfl⟩
theorem kX8_338 : nk_lV RX8 338 7 mX8_sizeOf 1 := ⟨lnX8_sizeOf, nk_in 1332 (by decide +kernel) rfl, nk_in 1334 (by decide +kernel) rfl, nk_in 57 (by decide +kernel) rfl, _, rfl, rfl⟩
theorem kX8_316 : nk_lV RX8 316 7 mX8_begin 1 := ⟨lnX8_begin, nk_in 1336 (by decide +kernel) rfl, nk_in 1338 (by decide +kernel) rfl, nk_in 58 (by decide +kernel) rfl, _, rfl, rfl⟩
theorem kX8_326 : nk_lV RX8 326 7 mX8_aboveSize 1 := ⟨lnX8_aboveSize, nk_in 1340 (by decide +kernel) rfl, nk_in 1342 (by decide +kernel) rfl, nk_in 59 (by decide +kernel) rfl, _, rfl, rfl⟩
theorem kX8_320 : nk_lV RX8 320 7 mX8_lentSize 1 := ⟨lnX8_lentSize, nk_in 1344 (by decide +kernel) rfl, nk_in 1346 (by decide +kernel) rfl, nk_in 60 (by decide +kernel) rfl, _, rfl, rfl⟩
theorem kX8_323 : nk_lV RX8 323 7 mX8_aboveMark 1 := ⟨lnX8_aboveMark, nk_in 1348 (by decide +kernel) rfl, nk_in 1350 (by decide +kernel) rfl, nk_in 61 (by decide +kernel) rfl, _, rfl, rfl⟩
theorem kX8_335 : nk_lV RX8 335 7 mX8_plainMark 1 := ⟨lnX8_plainMark, nk_in 1352 (by decide +kernel) rfl, nk_in 1354 (by decide +kernel) rfl, nk_in 62 (by decide +kernel) rfl, _, rfl, rfl⟩
theorem kX8_332 : nk_lV RX8 332 7 mX8_lentMark 1 := ⟨lnX8_lentMark, nk_in 1356 (by decide +kernel) rfl, nk_in 1358 (by decide +kernel) rfl, nk_in 63 (by decide +kernel) rfl, _, rfl, rfl⟩
theorem kX8_329 : nk_lV RX8 329 7 mX8_belowSize 1 := ⟨lnX8_belowSize, nk_in 1360 (by decide +kernel) rfl, nk_in 1362 (by decide +kernel) rfl, nk_in 64 (by decide +kernel) rfl, _, rfl, rfl⟩
theorem kX8_341 : nk_lV RX8 341 7 mX8_belowMark 1 := ⟨lnX8_belowMark, nk_in 1364 (by decide +kernel) rfl, nk_in 1366 (by decide +kernel) rfl, nk_in 65 (by decide +kernel) rfl, _, rfl, rfl⟩
theorem kL_187 : nk_lV RL 187 7 mX8_trace 1 := ⟨lnX8_trace, nk_in 1368 (by decide +kernel) rfl, nk_in 1369 (by decide +kernel) rfl, nk_in 1370 (by decide +kernel) rfl, _, rfl, rfl⟩
theorem kL_191 : nk_lV RL 191 7 mX8_count 1 := ⟨lnX8_count, nk_in 1372 (by decide +kernel) rfl, nk_in 1373 (by decide +kernel) rfl, nk_in 1374 (by decide +kernel) rfl, _, rfl, rfl⟩
theorem kL_195 : nk_lV RL 195 7 mX8_status 0 := ⟨lnX8_status, nk_in 1376 (by decide +kernel) rfl, nk_in 1377 (by decide +kernel) rfl, nk_in 1378 (by decide +kernel) rfl, _, rfl, rfl⟩
theorem nk_ac_int : Cond.arrayClass .int ∈ nk_tw := nk_in 120 (by decide +kernel) rfl
theorem nk_ac_boolean : Cond.arrayClass .boolean ∈ nk_tw := nk_in 902 (by decide +kernel) rfl
theorem nk_cp1 : Cond.native arraycopyName ∈ nk_tw := nk_in 237 (by decide +kernel) rfl
theorem nk_cp2 : Cond.static arraycopyName ∈ nk_tw := nk_in 236 (by decide +kernel) rfl
theorem nk_cp3 : Cond.initialized "java/lang/System" ∈ nk_tw := nk_in 73 (by decide +kernel) rfl
end

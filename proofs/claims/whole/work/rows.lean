section
-- ===== PART A: goes FIRST, ahead of the names: the tables' words, and 'selects' of the private methods out of them =====
/-- a private method of a class that the tables say can be made, by its rows of tables_1 -/
def lw_okq (q : MethodName × Nat) : Prop := (q.1.cls ≠ "java/lang/invoke/MethodHandle" ∧ q.1.cls ≠ "java/lang/invoke/VarHandle") ∧ Cond.instantiable q.1.cls q.2 ∈ tables_1 ∧ Cond.privateMethod q.1 ∈ tables_1 ∧ Cond.instanceMethod q.1 ∈ tables_1
theorem lw_p0 : lw_okq (⟨"CheeseEar$Wheels", "takes", "(I)Z"⟩, 7) := ⟨⟨by decide +kernel, by decide +kernel⟩, List.mem_of_getElem? (i := 53) (by decide +kernel), List.mem_of_getElem? (i := 452) (by decide +kernel), List.mem_of_getElem? (i := 453) (by decide +kernel)⟩
theorem lw_p1 : lw_okq (⟨"CheeseEar$Wheels", "takesSort", "(I)Z"⟩, 7) := ⟨⟨by decide +kernel, by decide +kernel⟩, List.mem_of_getElem? (i := 53) (by decide +kernel), List.mem_of_getElem? (i := 456) (by decide +kernel), List.mem_of_getElem? (i := 457) (by decide +kernel)⟩
theorem lw_p2 : lw_okq (⟨"CheeseEar$Wheels", "takesFigure", "(II)Z"⟩, 7) := ⟨⟨by decide +kernel, by decide +kernel⟩, List.mem_of_getElem? (i := 53) (by decide +kernel), List.mem_of_getElem? (i := 460) (by decide +kernel), List.mem_of_getElem? (i := 461) (by decide +kernel)⟩
theorem lw_p3 : lw_okq (⟨"CheeseEar$Wheels", "takesNext", "()Z"⟩, 7) := ⟨⟨by decide +kernel, by decide +kernel⟩, List.mem_of_getElem? (i := 53) (by decide +kernel), List.mem_of_getElem? (i := 464) (by decide +kernel), List.mem_of_getElem? (i := 465) (by decide +kernel)⟩
theorem lw_p4 : lw_okq (⟨"CheeseEar$Wheels", "mayEnd", "()Z"⟩, 7) := ⟨⟨by decide +kernel, by decide +kernel⟩, List.mem_of_getElem? (i := 53) (by decide +kernel), List.mem_of_getElem? (i := 468) (by decide +kernel), List.mem_of_getElem? (i := 469) (by decide +kernel)⟩
theorem lw_p5 : lw_okq (⟨"CheeseEar$Wheels", "takesLetter", "(II)Z"⟩, 7) := ⟨⟨by decide +kernel, by decide +kernel⟩, List.mem_of_getElem? (i := 53) (by decide +kernel), List.mem_of_getElem? (i := 472) (by decide +kernel), List.mem_of_getElem? (i := 473) (by decide +kernel)⟩
theorem lw_p6 : lw_okq (⟨"CheeseEar", "isSheet", "(I)Z"⟩, 7) := ⟨⟨by decide +kernel, by decide +kernel⟩, List.mem_of_getElem? (i := 19) (by decide +kernel), List.mem_of_getElem? (i := 561) (by decide +kernel), List.mem_of_getElem? (i := 562) (by decide +kernel)⟩
theorem lw_p7 : lw_okq (⟨"CheeseEar", "found", "(I)I"⟩, 7) := ⟨⟨by decide +kernel, by decide +kernel⟩, List.mem_of_getElem? (i := 19) (by decide +kernel), List.mem_of_getElem? (i := 565) (by decide +kernel), List.mem_of_getElem? (i := 566) (by decide +kernel)⟩
theorem lw_p8 : lw_okq (⟨"CheeseEar$Trial", "note", "(IIII)V"⟩, 15) := ⟨⟨by decide +kernel, by decide +kernel⟩, List.mem_of_getElem? (i := 134) (by decide +kernel), List.mem_of_getElem? (i := 603) (by decide +kernel), List.mem_of_getElem? (i := 604) (by decide +kernel)⟩
theorem lw_p9 : lw_okq (⟨"CheeseEar$Plans", "findRipeByOne", "(LCheeseEar$Trial;I)Z"⟩, 11) := ⟨⟨by decide +kernel, by decide +kernel⟩, List.mem_of_getElem? (i := 279) (by decide +kernel), List.mem_of_getElem? (i := 703) (by decide +kernel), List.mem_of_getElem? (i := 704) (by decide +kernel)⟩
theorem lw_p10 : lw_okq (⟨"CheeseEar$Plans", "findRipeByTwo", "(LCheeseEar$Trial;I)V"⟩, 11) := ⟨⟨by decide +kernel, by decide +kernel⟩, List.mem_of_getElem? (i := 279) (by decide +kernel), List.mem_of_getElem? (i := 711) (by decide +kernel), List.mem_of_getElem? (i := 712) (by decide +kernel)⟩
theorem lw_p11 : lw_okq (⟨"CheeseEar$Plans", "priceLast", "(I)V"⟩, 11) := ⟨⟨by decide +kernel, by decide +kernel⟩, List.mem_of_getElem? (i := 279) (by decide +kernel), List.mem_of_getElem? (i := 749) (by decide +kernel), List.mem_of_getElem? (i := 750) (by decide +kernel)⟩
theorem lw_p12 : lw_okq (⟨"CheeseEar$Plans", "sell", "(III)V"⟩, 11) := ⟨⟨by decide +kernel, by decide +kernel⟩, List.mem_of_getElem? (i := 279) (by decide +kernel), List.mem_of_getElem? (i := 757) (by decide +kernel), List.mem_of_getElem? (i := 758) (by decide +kernel)⟩
theorem lw_p13 : lw_okq (⟨"CheeseEar$Clues", "othersFit", "(II)Z"⟩, 2) := ⟨⟨by decide +kernel, by decide +kernel⟩, List.mem_of_getElem? (i := 326) (by decide +kernel), List.mem_of_getElem? (i := 777) (by decide +kernel), List.mem_of_getElem? (i := 778) (by decide +kernel)⟩
theorem lw_p14 : lw_okq (⟨"CheeseEar$Clues", "fits", "(LCheeseEar$Trial;I)Z"⟩, 2) := ⟨⟨by decide +kernel, by decide +kernel⟩, List.mem_of_getElem? (i := 326) (by decide +kernel), List.mem_of_getElem? (i := 785) (by decide +kernel), List.mem_of_getElem? (i := 786) (by decide +kernel)⟩
theorem lw_p15 : lw_okq (⟨"CheeseEar$Clues", "tallyAlike", "(II)V"⟩, 2) := ⟨⟨by decide +kernel, by decide +kernel⟩, List.mem_of_getElem? (i := 326) (by decide +kernel), List.mem_of_getElem? (i := 811) (by decide +kernel), List.mem_of_getElem? (i := 812) (by decide +kernel)⟩
def lw_privs_1 : List (MethodName × Nat) := [(⟨"CheeseEar$Wheels", "takes", "(I)Z"⟩, 7), (⟨"CheeseEar$Wheels", "takesSort", "(I)Z"⟩, 7), (⟨"CheeseEar$Wheels", "takesFigure", "(II)Z"⟩, 7), (⟨"CheeseEar$Wheels", "takesNext", "()Z"⟩, 7), (⟨"CheeseEar$Wheels", "mayEnd", "()Z"⟩, 7), (⟨"CheeseEar$Wheels", "takesLetter", "(II)Z"⟩, 7), (⟨"CheeseEar", "isSheet", "(I)Z"⟩, 7), (⟨"CheeseEar", "found", "(I)I"⟩, 7), (⟨"CheeseEar$Trial", "note", "(IIII)V"⟩, 15), (⟨"CheeseEar$Plans", "findRipeByOne", "(LCheeseEar$Trial;I)Z"⟩, 11), (⟨"CheeseEar$Plans", "findRipeByTwo", "(LCheeseEar$Trial;I)V"⟩, 11), (⟨"CheeseEar$Plans", "priceLast", "(I)V"⟩, 11), (⟨"CheeseEar$Plans", "sell", "(III)V"⟩, 11), (⟨"CheeseEar$Clues", "othersFit", "(II)Z"⟩, 2), (⟨"CheeseEar$Clues", "fits", "(LCheeseEar$Trial;I)Z"⟩, 2), (⟨"CheeseEar$Clues", "tallyAlike", "(II)V"⟩, 2)]
theorem lw_r1 : ∀ q ∈ lw_privs_1, lw_okq q := List.forall_mem_cons.mpr ⟨lw_p0, List.forall_mem_cons.mpr ⟨lw_p1, List.forall_mem_cons.mpr ⟨lw_p2, List.forall_mem_cons.mpr ⟨lw_p3, List.forall_mem_cons.mpr ⟨lw_p4, List.forall_mem_cons.mpr ⟨lw_p5, List.forall_mem_cons.mpr ⟨lw_p6, List.forall_mem_cons.mpr ⟨lw_p7, List.forall_mem_cons.mpr ⟨lw_p8, List.forall_mem_cons.mpr ⟨lw_p9, List.forall_mem_cons.mpr ⟨lw_p10, List.forall_mem_cons.mpr ⟨lw_p11, List.forall_mem_cons.mpr ⟨lw_p12, List.forall_mem_cons.mpr ⟨lw_p13, List.forall_mem_cons.mpr ⟨lw_p14, List.forall_mem_cons.mpr ⟨lw_p15, fun _ h => absurd h List.not_mem_nil⟩⟩⟩⟩⟩⟩⟩⟩⟩⟩⟩⟩⟩⟩⟩⟩
theorem lw_p16 : lw_okq (⟨"CheeseEar$Clues", "tallyOne", "(I)V"⟩, 2) := ⟨⟨by decide +kernel, by decide +kernel⟩, List.mem_of_getElem? (i := 326) (by decide +kernel), List.mem_of_getElem? (i := 817) (by decide +kernel), List.mem_of_getElem? (i := 818) (by decide +kernel)⟩
theorem lw_p17 : lw_okq (⟨"CheeseEar$Clues", "mostAlike", "(I)I"⟩, 2) := ⟨⟨by decide +kernel, by decide +kernel⟩, List.mem_of_getElem? (i := 326) (by decide +kernel), List.mem_of_getElem? (i := 821) (by decide +kernel), List.mem_of_getElem? (i := 822) (by decide +kernel)⟩
theorem lw_p18 : lw_okq (⟨"CheeseEar$Chances", "weighNight", "(LCheeseEar$Trial;III)V"⟩, 7) := ⟨⟨by decide +kernel, by decide +kernel⟩, List.mem_of_getElem? (i := 339) (by decide +kernel), List.mem_of_getElem? (i := 839) (by decide +kernel), List.mem_of_getElem? (i := 840) (by decide +kernel)⟩
theorem lw_p19 : lw_okq (⟨"CheeseEar$Chances", "weigh", "(LCheeseEar$Trial;IJ)V"⟩, 7) := ⟨⟨by decide +kernel, by decide +kernel⟩, List.mem_of_getElem? (i := 339) (by decide +kernel), List.mem_of_getElem? (i := 845) (by decide +kernel), List.mem_of_getElem? (i := 846) (by decide +kernel)⟩
theorem lw_p20 : lw_okq (⟨"CheeseEar$Chances", "dropEaten", "(LCheeseEar$Trial;)V"⟩, 7) := ⟨⟨by decide +kernel, by decide +kernel⟩, List.mem_of_getElem? (i := 339) (by decide +kernel), List.mem_of_getElem? (i := 853) (by decide +kernel), List.mem_of_getElem? (i := 854) (by decide +kernel)⟩
theorem lw_p21 : lw_okq (⟨"CheeseEar$Chances", "reduce", "()V"⟩, 7) := ⟨⟨by decide +kernel, by decide +kernel⟩, List.mem_of_getElem? (i := 339) (by decide +kernel), List.mem_of_getElem? (i := 858) (by decide +kernel), List.mem_of_getElem? (i := 859) (by decide +kernel)⟩
theorem lw_p22 : lw_okq (⟨"CheeseEar", "mixNights", "(JI)J"⟩, 7) := ⟨⟨by decide +kernel, by decide +kernel⟩, List.mem_of_getElem? (i := 19) (by decide +kernel), List.mem_of_getElem? (i := 948) (by decide +kernel), List.mem_of_getElem? (i := 949) (by decide +kernel)⟩
theorem lw_p23 : lw_okq (⟨"CheeseEar", "mixPlans", "(JI)J"⟩, 7) := ⟨⟨by decide +kernel, by decide +kernel⟩, List.mem_of_getElem? (i := 19) (by decide +kernel), List.mem_of_getElem? (i := 955) (by decide +kernel), List.mem_of_getElem? (i := 956) (by decide +kernel)⟩
theorem lw_p24 : lw_okq (⟨"CheeseEar", "mixClues", "(JI)J"⟩, 7) := ⟨⟨by decide +kernel, by decide +kernel⟩, List.mem_of_getElem? (i := 19) (by decide +kernel), List.mem_of_getElem? (i := 959) (by decide +kernel), List.mem_of_getElem? (i := 960) (by decide +kernel)⟩
theorem lw_p25 : lw_okq (⟨"CheeseEar", "mixAll", "(J)J"⟩, 7) := ⟨⟨by decide +kernel, by decide +kernel⟩, List.mem_of_getElem? (i := 19) (by decide +kernel), List.mem_of_getElem? (i := 963) (by decide +kernel), List.mem_of_getElem? (i := 964) (by decide +kernel)⟩
theorem lw_p26 : lw_okq (⟨"CheeseEarModel", "faultOf", "(I)I"⟩, 38) := ⟨⟨by decide +kernel, by decide +kernel⟩, List.mem_of_getElem? (i := 967) (by decide +kernel), List.mem_of_getElem? (i := 1111) (by decide +kernel), List.mem_of_getElem? (i := 1112) (by decide +kernel)⟩
theorem lw_p27 : lw_okq (⟨"CheeseEarModel", "readsWheels", "()I"⟩, 38) := ⟨⟨by decide +kernel, by decide +kernel⟩, List.mem_of_getElem? (i := 967) (by decide +kernel), List.mem_of_getElem? (i := 1115) (by decide +kernel), List.mem_of_getElem? (i := 1116) (by decide +kernel)⟩
theorem lw_p28 : lw_okq (⟨"CheeseEarModel", "readsWheel", "(II)I"⟩, 38) := ⟨⟨by decide +kernel, by decide +kernel⟩, List.mem_of_getElem? (i := 967) (by decide +kernel), List.mem_of_getElem? (i := 1119) (by decide +kernel), List.mem_of_getElem? (i := 1120) (by decide +kernel)⟩
theorem lw_p29 : lw_okq (⟨"CheeseEarModel", "byteAt", "(I)I"⟩, 38) := ⟨⟨by decide +kernel, by decide +kernel⟩, List.mem_of_getElem? (i := 967) (by decide +kernel), List.mem_of_getElem? (i := 1123) (by decide +kernel), List.mem_of_getElem? (i := 1124) (by decide +kernel)⟩
theorem lw_p30 : lw_okq (⟨"CheeseEarModel", "isSound", "(I)Z"⟩, 38) := ⟨⟨by decide +kernel, by decide +kernel⟩, List.mem_of_getElem? (i := 967) (by decide +kernel), List.mem_of_getElem? (i := 1127) (by decide +kernel), List.mem_of_getElem? (i := 1128) (by decide +kernel)⟩
theorem lw_p31 : lw_okq (⟨"CheeseEarModel", "readsCave", "()I"⟩, 38) := ⟨⟨by decide +kernel, by decide +kernel⟩, List.mem_of_getElem? (i := 967) (by decide +kernel), List.mem_of_getElem? (i := 1131) (by decide +kernel), List.mem_of_getElem? (i := 1132) (by decide +kernel)⟩
def lw_privs_2 : List (MethodName × Nat) := [(⟨"CheeseEar$Clues", "tallyOne", "(I)V"⟩, 2), (⟨"CheeseEar$Clues", "mostAlike", "(I)I"⟩, 2), (⟨"CheeseEar$Chances", "weighNight", "(LCheeseEar$Trial;III)V"⟩, 7), (⟨"CheeseEar$Chances", "weigh", "(LCheeseEar$Trial;IJ)V"⟩, 7), (⟨"CheeseEar$Chances", "dropEaten", "(LCheeseEar$Trial;)V"⟩, 7), (⟨"CheeseEar$Chances", "reduce", "()V"⟩, 7), (⟨"CheeseEar", "mixNights", "(JI)J"⟩, 7), (⟨"CheeseEar", "mixPlans", "(JI)J"⟩, 7), (⟨"CheeseEar", "mixClues", "(JI)J"⟩, 7), (⟨"CheeseEar", "mixAll", "(J)J"⟩, 7), (⟨"CheeseEarModel", "faultOf", "(I)I"⟩, 38), (⟨"CheeseEarModel", "readsWheels", "()I"⟩, 38), (⟨"CheeseEarModel", "readsWheel", "(II)I"⟩, 38), (⟨"CheeseEarModel", "byteAt", "(I)I"⟩, 38), (⟨"CheeseEarModel", "isSound", "(I)Z"⟩, 38), (⟨"CheeseEarModel", "readsCave", "()I"⟩, 38)]
theorem lw_r2 : ∀ q ∈ lw_privs_2, lw_okq q := List.forall_mem_cons.mpr ⟨lw_p16, List.forall_mem_cons.mpr ⟨lw_p17, List.forall_mem_cons.mpr ⟨lw_p18, List.forall_mem_cons.mpr ⟨lw_p19, List.forall_mem_cons.mpr ⟨lw_p20, List.forall_mem_cons.mpr ⟨lw_p21, List.forall_mem_cons.mpr ⟨lw_p22, List.forall_mem_cons.mpr ⟨lw_p23, List.forall_mem_cons.mpr ⟨lw_p24, List.forall_mem_cons.mpr ⟨lw_p25, List.forall_mem_cons.mpr ⟨lw_p26, List.forall_mem_cons.mpr ⟨lw_p27, List.forall_mem_cons.mpr ⟨lw_p28, List.forall_mem_cons.mpr ⟨lw_p29, List.forall_mem_cons.mpr ⟨lw_p30, List.forall_mem_cons.mpr ⟨lw_p31, fun _ h => absurd h List.not_mem_nil⟩⟩⟩⟩⟩⟩⟩⟩⟩⟩⟩⟩⟩⟩⟩⟩
theorem lw_p32 : lw_okq (⟨"CheeseEarModel", "isWheel", "(I)Z"⟩, 38) := ⟨⟨by decide +kernel, by decide +kernel⟩, List.mem_of_getElem? (i := 967) (by decide +kernel), List.mem_of_getElem? (i := 1139) (by decide +kernel), List.mem_of_getElem? (i := 1140) (by decide +kernel)⟩
theorem lw_p33 : lw_okq (⟨"CheeseEarModel", "reads", "()V"⟩, 38) := ⟨⟨by decide +kernel, by decide +kernel⟩, List.mem_of_getElem? (i := 967) (by decide +kernel), List.mem_of_getElem? (i := 1143) (by decide +kernel), List.mem_of_getElem? (i := 1144) (by decide +kernel)⟩
theorem lw_p34 : lw_okq (⟨"CheeseEarModel", "wheelOf", "(II)I"⟩, 38) := ⟨⟨by decide +kernel, by decide +kernel⟩, List.mem_of_getElem? (i := 967) (by decide +kernel), List.mem_of_getElem? (i := 1147) (by decide +kernel), List.mem_of_getElem? (i := 1148) (by decide +kernel)⟩
theorem lw_p35 : lw_okq (⟨"CheeseEarModel", "warmOf", "(I)I"⟩, 38) := ⟨⟨by decide +kernel, by decide +kernel⟩, List.mem_of_getElem? (i := 967) (by decide +kernel), List.mem_of_getElem? (i := 1158) (by decide +kernel), List.mem_of_getElem? (i := 1159) (by decide +kernel)⟩
theorem lw_p36 : lw_okq (⟨"CheeseEarModel", "meets", "(I)I"⟩, 38) := ⟨⟨by decide +kernel, by decide +kernel⟩, List.mem_of_getElem? (i := 967) (by decide +kernel), List.mem_of_getElem? (i := 1185) (by decide +kernel), List.mem_of_getElem? (i := 1186) (by decide +kernel)⟩
theorem lw_p37 : lw_okq (⟨"CheeseEarModel", "atOf", "(III)I"⟩, 38) := ⟨⟨by decide +kernel, by decide +kernel⟩, List.mem_of_getElem? (i := 967) (by decide +kernel), List.mem_of_getElem? (i := 1194) (by decide +kernel), List.mem_of_getElem? (i := 1195) (by decide +kernel)⟩
theorem lw_p38 : lw_okq (⟨"CheeseEarModel", "runsTold", "(I)V"⟩, 38) := ⟨⟨by decide +kernel, by decide +kernel⟩, List.mem_of_getElem? (i := 967) (by decide +kernel), List.mem_of_getElem? (i := 1198) (by decide +kernel), List.mem_of_getElem? (i := 1199) (by decide +kernel)⟩
theorem lw_p39 : lw_okq (⟨"CheeseEarModel", "asTold", "()V"⟩, 38) := ⟨⟨by decide +kernel, by decide +kernel⟩, List.mem_of_getElem? (i := 967) (by decide +kernel), List.mem_of_getElem? (i := 1202) (by decide +kernel), List.mem_of_getElem? (i := 1203) (by decide +kernel)⟩
theorem lw_p40 : lw_okq (⟨"CheeseEarModel", "runs", "(I)V"⟩, 38) := ⟨⟨by decide +kernel, by decide +kernel⟩, List.mem_of_getElem? (i := 967) (by decide +kernel), List.mem_of_getElem? (i := 1206) (by decide +kernel), List.mem_of_getElem? (i := 1207) (by decide +kernel)⟩
theorem lw_p41 : lw_okq (⟨"CheeseEarModel", "turns", "(II)V"⟩, 38) := ⟨⟨by decide +kernel, by decide +kernel⟩, List.mem_of_getElem? (i := 967) (by decide +kernel), List.mem_of_getElem? (i := 1210) (by decide +kernel), List.mem_of_getElem? (i := 1211) (by decide +kernel)⟩
theorem lw_p42 : lw_okq (⟨"CheeseEarModel", "goes", "(I)V"⟩, 38) := ⟨⟨by decide +kernel, by decide +kernel⟩, List.mem_of_getElem? (i := 967) (by decide +kernel), List.mem_of_getElem? (i := 1217) (by decide +kernel), List.mem_of_getElem? (i := 1218) (by decide +kernel)⟩
theorem lw_p43 : lw_okq (⟨"CheeseEarModel", "grows", "(II)I"⟩, 38) := ⟨⟨by decide +kernel, by decide +kernel⟩, List.mem_of_getElem? (i := 967) (by decide +kernel), List.mem_of_getElem? (i := 1221) (by decide +kernel), List.mem_of_getElem? (i := 1222) (by decide +kernel)⟩
theorem lw_p44 : lw_okq (⟨"CheeseEarModel", "longsOf", "(I)I"⟩, 38) := ⟨⟨by decide +kernel, by decide +kernel⟩, List.mem_of_getElem? (i := 967) (by decide +kernel), List.mem_of_getElem? (i := 1229) (by decide +kernel), List.mem_of_getElem? (i := 1230) (by decide +kernel)⟩
theorem lw_p45 : lw_okq (⟨"CheeseEarModel", "heardMany", "()I"⟩, 38) := ⟨⟨by decide +kernel, by decide +kernel⟩, List.mem_of_getElem? (i := 967) (by decide +kernel), List.mem_of_getElem? (i := 1233) (by decide +kernel), List.mem_of_getElem? (i := 1234) (by decide +kernel)⟩
theorem lw_p46 : lw_okq (⟨"CheeseEarModel", "screamOf", "(I)I"⟩, 38) := ⟨⟨by decide +kernel, by decide +kernel⟩, List.mem_of_getElem? (i := 967) (by decide +kernel), List.mem_of_getElem? (i := 1241) (by decide +kernel), List.mem_of_getElem? (i := 1242) (by decide +kernel)⟩
theorem lw_p47 : lw_okq (⟨"CheeseEarModel", "chordOf", "(II)I"⟩, 38) := ⟨⟨by decide +kernel, by decide +kernel⟩, List.mem_of_getElem? (i := 967) (by decide +kernel), List.mem_of_getElem? (i := 1249) (by decide +kernel), List.mem_of_getElem? (i := 1250) (by decide +kernel)⟩
def lw_privs_3 : List (MethodName × Nat) := [(⟨"CheeseEarModel", "isWheel", "(I)Z"⟩, 38), (⟨"CheeseEarModel", "reads", "()V"⟩, 38), (⟨"CheeseEarModel", "wheelOf", "(II)I"⟩, 38), (⟨"CheeseEarModel", "warmOf", "(I)I"⟩, 38), (⟨"CheeseEarModel", "meets", "(I)I"⟩, 38), (⟨"CheeseEarModel", "atOf", "(III)I"⟩, 38), (⟨"CheeseEarModel", "runsTold", "(I)V"⟩, 38), (⟨"CheeseEarModel", "asTold", "()V"⟩, 38), (⟨"CheeseEarModel", "runs", "(I)V"⟩, 38), (⟨"CheeseEarModel", "turns", "(II)V"⟩, 38), (⟨"CheeseEarModel", "goes", "(I)V"⟩, 38), (⟨"CheeseEarModel", "grows", "(II)I"⟩, 38), (⟨"CheeseEarModel", "longsOf", "(I)I"⟩, 38), (⟨"CheeseEarModel", "heardMany", "()I"⟩, 38), (⟨"CheeseEarModel", "screamOf", "(I)I"⟩, 38), (⟨"CheeseEarModel", "chordOf", "(II)I"⟩, 38)]
theorem lw_r3 : ∀ q ∈ lw_privs_3, lw_okq q := List.forall_mem_cons.mpr ⟨lw_p32, List.forall_mem_cons.mpr ⟨lw_p33, List.forall_mem_cons.mpr ⟨lw_p34, List.forall_mem_cons.mpr ⟨lw_p35, List.forall_mem_cons.mpr ⟨lw_p36, List.forall_mem_cons.mpr ⟨lw_p37, List.forall_mem_cons.mpr ⟨lw_p38, List.forall_mem_cons.mpr ⟨lw_p39, List.forall_mem_cons.mpr ⟨lw_p40, List.forall_mem_cons.mpr ⟨lw_p41, List.forall_mem_cons.mpr ⟨lw_p42, List.forall_mem_cons.mpr ⟨lw_p43, List.forall_mem_cons.mpr ⟨lw_p44, List.forall_mem_cons.mpr ⟨lw_p45, List.forall_mem_cons.mpr ⟨lw_p46, List.forall_mem_cons.mpr ⟨lw_p47, fun _ h => absurd h List.not_mem_nil⟩⟩⟩⟩⟩⟩⟩⟩⟩⟩⟩⟩⟩⟩⟩⟩
theorem lw_p48 : lw_okq (⟨"CheeseEarModel", "hushNow", "()I"⟩, 38) := ⟨⟨by decide +kernel, by decide +kernel⟩, List.mem_of_getElem? (i := 967) (by decide +kernel), List.mem_of_getElem? (i := 1257) (by decide +kernel), List.mem_of_getElem? (i := 1258) (by decide +kernel)⟩
theorem lw_p49 : lw_okq (⟨"CheeseEarModel", "ripeBy", "(II)I"⟩, 38) := ⟨⟨by decide +kernel, by decide +kernel⟩, List.mem_of_getElem? (i := 967) (by decide +kernel), List.mem_of_getElem? (i := 1266) (by decide +kernel), List.mem_of_getElem? (i := 1267) (by decide +kernel)⟩
theorem lw_p50 : lw_okq (⟨"CheeseEarModel", "isRipe", "(III)Z"⟩, 38) := ⟨⟨by decide +kernel, by decide +kernel⟩, List.mem_of_getElem? (i := 967) (by decide +kernel), List.mem_of_getElem? (i := 1270) (by decide +kernel), List.mem_of_getElem? (i := 1271) (by decide +kernel)⟩
theorem lw_p51 : lw_okq (⟨"CheeseEarModel", "ofRow", "(II)I"⟩, 38) := ⟨⟨by decide +kernel, by decide +kernel⟩, List.mem_of_getElem? (i := 967) (by decide +kernel), List.mem_of_getElem? (i := 1274) (by decide +kernel), List.mem_of_getElem? (i := 1275) (by decide +kernel)⟩
theorem lw_p52 : lw_okq (⟨"CheeseEarModel", "coldOf", "(II)I"⟩, 38) := ⟨⟨by decide +kernel, by decide +kernel⟩, List.mem_of_getElem? (i := 967) (by decide +kernel), List.mem_of_getElem? (i := 1282) (by decide +kernel), List.mem_of_getElem? (i := 1283) (by decide +kernel)⟩
theorem lw_p53 : lw_okq (⟨"CheeseEarModel", "comeOf", "(II)I"⟩, 38) := ⟨⟨by decide +kernel, by decide +kernel⟩, List.mem_of_getElem? (i := 967) (by decide +kernel), List.mem_of_getElem? (i := 1290) (by decide +kernel), List.mem_of_getElem? (i := 1291) (by decide +kernel)⟩
theorem lw_p54 : lw_okq (⟨"CheeseEarModel", "saleNow", "()I"⟩, 38) := ⟨⟨by decide +kernel, by decide +kernel⟩, List.mem_of_getElem? (i := 967) (by decide +kernel), List.mem_of_getElem? (i := 1298) (by decide +kernel), List.mem_of_getElem? (i := 1299) (by decide +kernel)⟩
theorem lw_p55 : lw_okq (⟨"CheeseEarModel", "neverNow", "()I"⟩, 38) := ⟨⟨by decide +kernel, by decide +kernel⟩, List.mem_of_getElem? (i := 967) (by decide +kernel), List.mem_of_getElem? (i := 1314) (by decide +kernel), List.mem_of_getElem? (i := 1315) (by decide +kernel)⟩
theorem lw_p56 : lw_okq (⟨"CheeseEarModel", "isHeard", "(I)Z"⟩, 38) := ⟨⟨by decide +kernel, by decide +kernel⟩, List.mem_of_getElem? (i := 967) (by decide +kernel), List.mem_of_getElem? (i := 1318) (by decide +kernel), List.mem_of_getElem? (i := 1319) (by decide +kernel)⟩
theorem lw_p57 : lw_okq (⟨"CheeseEarModel", "fromBy", "(I)I"⟩, 38) := ⟨⟨by decide +kernel, by decide +kernel⟩, List.mem_of_getElem? (i := 967) (by decide +kernel), List.mem_of_getElem? (i := 1326) (by decide +kernel), List.mem_of_getElem? (i := 1327) (by decide +kernel)⟩
theorem lw_p58 : lw_okq (⟨"CheeseEarModel", "sortBy", "(I)I"⟩, 38) := ⟨⟨by decide +kernel, by decide +kernel⟩, List.mem_of_getElem? (i := 967) (by decide +kernel), List.mem_of_getElem? (i := 1330) (by decide +kernel), List.mem_of_getElem? (i := 1331) (by decide +kernel)⟩
theorem lw_p59 : lw_okq (⟨"CheeseEarModel", "askOf", "(I)I"⟩, 38) := ⟨⟨by decide +kernel, by decide +kernel⟩, List.mem_of_getElem? (i := 967) (by decide +kernel), List.mem_of_getElem? (i := 1338) (by decide +kernel), List.mem_of_getElem? (i := 1339) (by decide +kernel)⟩
theorem lw_p60 : lw_okq (⟨"CheeseEarModel", "frostOf", "(IIIII)J"⟩, 38) := ⟨⟨by decide +kernel, by decide +kernel⟩, List.mem_of_getElem? (i := 967) (by decide +kernel), List.mem_of_getElem? (i := 1346) (by decide +kernel), List.mem_of_getElem? (i := 1347) (by decide +kernel)⟩
theorem lw_p61 : lw_okq (⟨"CheeseEarModel", "summerOf", "(III)I"⟩, 38) := ⟨⟨by decide +kernel, by decide +kernel⟩, List.mem_of_getElem? (i := 967) (by decide +kernel), List.mem_of_getElem? (i := 1361) (by decide +kernel), List.mem_of_getElem? (i := 1362) (by decide +kernel)⟩
theorem lw_p62 : lw_okq (⟨"CheeseEarModel", "lacks", "(III)I"⟩, 38) := ⟨⟨by decide +kernel, by decide +kernel⟩, List.mem_of_getElem? (i := 967) (by decide +kernel), List.mem_of_getElem? (i := 1378) (by decide +kernel), List.mem_of_getElem? (i := 1379) (by decide +kernel)⟩
theorem lw_p63 : lw_okq (⟨"CheeseEarModel", "keep", "(III)V"⟩, 38) := ⟨⟨by decide +kernel, by decide +kernel⟩, List.mem_of_getElem? (i := 967) (by decide +kernel), List.mem_of_getElem? (i := 1382) (by decide +kernel), List.mem_of_getElem? (i := 1383) (by decide +kernel)⟩
def lw_privs_4 : List (MethodName × Nat) := [(⟨"CheeseEarModel", "hushNow", "()I"⟩, 38), (⟨"CheeseEarModel", "ripeBy", "(II)I"⟩, 38), (⟨"CheeseEarModel", "isRipe", "(III)Z"⟩, 38), (⟨"CheeseEarModel", "ofRow", "(II)I"⟩, 38), (⟨"CheeseEarModel", "coldOf", "(II)I"⟩, 38), (⟨"CheeseEarModel", "comeOf", "(II)I"⟩, 38), (⟨"CheeseEarModel", "saleNow", "()I"⟩, 38), (⟨"CheeseEarModel", "neverNow", "()I"⟩, 38), (⟨"CheeseEarModel", "isHeard", "(I)Z"⟩, 38), (⟨"CheeseEarModel", "fromBy", "(I)I"⟩, 38), (⟨"CheeseEarModel", "sortBy", "(I)I"⟩, 38), (⟨"CheeseEarModel", "askOf", "(I)I"⟩, 38), (⟨"CheeseEarModel", "frostOf", "(IIIII)J"⟩, 38), (⟨"CheeseEarModel", "summerOf", "(III)I"⟩, 38), (⟨"CheeseEarModel", "lacks", "(III)I"⟩, 38), (⟨"CheeseEarModel", "keep", "(III)V"⟩, 38)]
theorem lw_r4 : ∀ q ∈ lw_privs_4, lw_okq q := List.forall_mem_cons.mpr ⟨lw_p48, List.forall_mem_cons.mpr ⟨lw_p49, List.forall_mem_cons.mpr ⟨lw_p50, List.forall_mem_cons.mpr ⟨lw_p51, List.forall_mem_cons.mpr ⟨lw_p52, List.forall_mem_cons.mpr ⟨lw_p53, List.forall_mem_cons.mpr ⟨lw_p54, List.forall_mem_cons.mpr ⟨lw_p55, List.forall_mem_cons.mpr ⟨lw_p56, List.forall_mem_cons.mpr ⟨lw_p57, List.forall_mem_cons.mpr ⟨lw_p58, List.forall_mem_cons.mpr ⟨lw_p59, List.forall_mem_cons.mpr ⟨lw_p60, List.forall_mem_cons.mpr ⟨lw_p61, List.forall_mem_cons.mpr ⟨lw_p62, List.forall_mem_cons.mpr ⟨lw_p63, fun _ h => absurd h List.not_mem_nil⟩⟩⟩⟩⟩⟩⟩⟩⟩⟩⟩⟩⟩⟩⟩⟩
theorem lw_p64 : lw_okq (⟨"CheeseEarModel", "sumOf", "(I)I"⟩, 38) := ⟨⟨by decide +kernel, by decide +kernel⟩, List.mem_of_getElem? (i := 967) (by decide +kernel), List.mem_of_getElem? (i := 1403) (by decide +kernel), List.mem_of_getElem? (i := 1404) (by decide +kernel)⟩
theorem lw_p65 : lw_okq (⟨"CheeseEarModel", "eatenNow", "()I"⟩, 38) := ⟨⟨by decide +kernel, by decide +kernel⟩, List.mem_of_getElem? (i := 967) (by decide +kernel), List.mem_of_getElem? (i := 1407) (by decide +kernel), List.mem_of_getElem? (i := 1408) (by decide +kernel)⟩
theorem lw_p66 : lw_okq (⟨"CheeseEarModel", "wheelDigest", "(JI)J"⟩, 38) := ⟨⟨by decide +kernel, by decide +kernel⟩, List.mem_of_getElem? (i := 967) (by decide +kernel), List.mem_of_getElem? (i := 1418) (by decide +kernel), List.mem_of_getElem? (i := 1419) (by decide +kernel)⟩
theorem lw_p67 : lw_okq (⟨"CheeseEarModel", "nightDigest", "(JII)J"⟩, 38) := ⟨⟨by decide +kernel, by decide +kernel⟩, List.mem_of_getElem? (i := 967) (by decide +kernel), List.mem_of_getElem? (i := 1422) (by decide +kernel), List.mem_of_getElem? (i := 1423) (by decide +kernel)⟩
def lw_privs_5 : List (MethodName × Nat) := [(⟨"CheeseEarModel", "sumOf", "(I)I"⟩, 38), (⟨"CheeseEarModel", "eatenNow", "()I"⟩, 38), (⟨"CheeseEarModel", "wheelDigest", "(JI)J"⟩, 38), (⟨"CheeseEarModel", "nightDigest", "(JII)J"⟩, 38)]
theorem lw_r5 : ∀ q ∈ lw_privs_5, lw_okq q := List.forall_mem_cons.mpr ⟨lw_p64, List.forall_mem_cons.mpr ⟨lw_p65, List.forall_mem_cons.mpr ⟨lw_p66, List.forall_mem_cons.mpr ⟨lw_p67, fun _ h => absurd h List.not_mem_nil⟩⟩⟩⟩
def lw_privs : List (MethodName × Nat) := lw_privs_1 ++ (lw_privs_2 ++ (lw_privs_3 ++ (lw_privs_4 ++ (lw_privs_5))))
def lw_tbl : List Cond := k2_sels lw_privs ++ tables_1
theorem lw_privs_ok : ∀ q ∈ lw_privs, lw_okq q := by
  show ∀ q ∈ lw_privs_1 ++ (lw_privs_2 ++ (lw_privs_3 ++ (lw_privs_4 ++ (lw_privs_5)))), lw_okq q
  exact List.forall_mem_append.mpr ⟨lw_r1, List.forall_mem_append.mpr ⟨lw_r2, List.forall_mem_append.mpr ⟨lw_r3, List.forall_mem_append.mpr ⟨lw_r4, lw_r5⟩⟩⟩⟩
end
section
def RX0 : String := "CheeseEar$Cave"
def TX0 : u_T := fun k => match k with
  | 0 => ("CheeseEar$Cave", "warmth", "[I", true)
  | 1 => ("CheeseEar$Cave", "figures", "I", false)
  | _ => ("CheeseEar$Cave", "firstFault", "I", false)
def tyX0 : Nat → FieldType := fun k => match k with
  | 0 => .array .int
  | 1 => .int
  | _ => .int
abbrev wsX00 : List Cond := u_ws RX0 TX0 3
theorem nmX0 : ∀ a, a < 3 → ∀ b, b < 3 → a ≠ b → (TX0 a).2.1 ≠ (TX0 b).2.1 := by decide +kernel
theorem tyX0_ok : ∀ k, k < 3 → parseFieldDescriptor (TX0 k).2.2.1 = some (tyX0 k) := by decide +kernel
abbrev cX0_init : ByteArray := prog_2_method_1_code
def yX0_init : MethodName := ⟨RX0, "<init>", "()V"⟩
abbrev cX0_readFrom : ByteArray := prog_2_method_2_code
def yX0_readFrom : MethodName := ⟨RX0, "readFrom", "(LCheeseEar$Text;)V"⟩
abbrev cX0_warmthOn : ByteArray := prog_2_method_3_code
def yX0_warmthOn : MethodName := ⟨RX0, "warmthOn", "(I)I"⟩
def RX1 : String := "CheeseEar$Cellar"
def TX1 : u_T := fun k => match k with
  | 0 => ("CheeseEar$Cellar", "wheelText", "LCheeseEar$Text;", true)
  | 1 => ("CheeseEar$Cellar", "caveText", "LCheeseEar$Text;", true)
  | 2 => ("CheeseEar$Cellar", "wheels", "LCheeseEar$Wheels;", true)
  | 3 => ("CheeseEar$Cellar", "cave", "LCheeseEar$Cave;", true)
  | 4 => ("CheeseEar$Cellar", "turnings", "LCheeseEar$Marks;", true)
  | 5 => ("CheeseEar$Cellar", "knocks", "LCheeseEar$Marks;", true)
  | 6 => ("CheeseEar$Cellar", "listened", "LCheeseEar$Marks;", true)
  | 7 => ("CheeseEar$Cellar", "trial", "LCheeseEar$Trial;", true)
  | 8 => ("CheeseEar$Cellar", "time", "I", false)
  | _ => ("CheeseEar$Cellar", "shrill", "I", false)
def tyX1 : Nat → FieldType := fun k => match k with
  | 0 => .object "CheeseEar$Text"
  | 1 => .object "CheeseEar$Text"
  | 2 => .object "CheeseEar$Wheels"
  | 3 => .object "CheeseEar$Cave"
  | 4 => .object "CheeseEar$Marks"
  | 5 => .object "CheeseEar$Marks"
  | 6 => .object "CheeseEar$Marks"
  | 7 => .object "CheeseEar$Trial"
  | 8 => .int
  | _ => .int
abbrev wsX10 : List Cond := u_ws RX1 TX1 10
theorem nmX1 : ∀ a, a < 10 → ∀ b, b < 10 → a ≠ b → (TX1 a).2.1 ≠ (TX1 b).2.1 := by decide +kernel
theorem tyX1_ok : ∀ k, k < 10 → parseFieldDescriptor (TX1 k).2.2.1 = some (tyX1 k) := by decide +kernel
abbrev cX1_init : ByteArray := prog_3_method_1_code
def yX1_init : MethodName := ⟨RX1, "<init>", "()V"⟩
abbrev cX1_textOf : ByteArray := prog_3_method_2_code
def yX1_textOf : MethodName := ⟨RX1, "textOf", "(I)LCheeseEar$Text;"⟩
abbrev cX1_readAnew : ByteArray := prog_3_method_3_code
def yX1_readAnew : MethodName := ⟨RX1, "readAnew", "(I)V"⟩
abbrev cX1_has : ByteArray := prog_3_method_4_code
def yX1_has : MethodName := ⟨RX1, "has", "(I)Z"⟩
abbrev cX1_begin : ByteArray := prog_3_method_5_code
def yX1_begin : MethodName := ⟨RX1, "begin", "(I)LCheeseEar$Trial;"⟩
def RX2 : String := "CheeseEar$Chances"
def TX2 : u_T := fun k => match k with
  | 0 => ("CheeseEar$Chances", "cellar", "LCheeseEar$Cellar;", true)
  | 1 => ("CheeseEar$Chances", "weights", "[J", true)
  | 2 => ("CheeseEar$Chances", "nextWeights", "[J", true)
  | 3 => ("CheeseEar$Chances", "above", "J", false)
  | 4 => ("CheeseEar$Chances", "below", "J", false)
  | 5 => ("CheeseEar$Chances", "nightsTogether", "I", false)
  | _ => ("CheeseEar$Chances", "wheelsEaten", "I", false)
def tyX2 : Nat → FieldType := fun k => match k with
  | 0 => .object "CheeseEar$Cellar"
  | 1 => .array .long
  | 2 => .array .long
  | 3 => .long
  | 4 => .long
  | 5 => .int
  | _ => .int
abbrev wsX20 : List Cond := u_ws RX2 TX2 7
theorem nmX2 : ∀ a, a < 7 → ∀ b, b < 7 → a ≠ b → (TX2 a).2.1 ≠ (TX2 b).2.1 := by decide +kernel
theorem tyX2_ok : ∀ k, k < 7 → parseFieldDescriptor (TX2 k).2.2.1 = some (tyX2 k) := by decide +kernel
abbrev cX2_init : ByteArray := prog_4_method_1_code
def yX2_init : MethodName := ⟨RX2, "<init>", "(LCheeseEar$Cellar;)V"⟩
abbrev cX2_findFrost : ByteArray := prog_4_method_2_code
def yX2_findFrost : MethodName := ⟨RX2, "findFrost", "(IIII)V"⟩
abbrev cX2_weighNight : ByteArray := prog_4_method_3_code
def yX2_weighNight : MethodName := ⟨RX2, "weighNight", "(LCheeseEar$Trial;III)V"⟩
abbrev cX2_weigh : ByteArray := prog_4_method_4_code
def yX2_weigh : MethodName := ⟨RX2, "weigh", "(LCheeseEar$Trial;IJ)V"⟩
abbrev cX2_dropEaten : ByteArray := prog_4_method_5_code
def yX2_dropEaten : MethodName := ⟨RX2, "dropEaten", "(LCheeseEar$Trial;)V"⟩
abbrev cX2_reduce : ByteArray := prog_4_method_6_code
def yX2_reduce : MethodName := ⟨RX2, "reduce", "()V"⟩
abbrev cX2_findSummer : ByteArray := prog_4_method_7_code
def yX2_findSummer : MethodName := ⟨RX2, "findSummer", "(II)V"⟩
abbrev cX2_warmByLots : ByteArray := prog_4_method_8_code
def yX2_warmByLots : MethodName := ⟨RX2, "warmByLots", "(LCheeseEar$Trial;II)V"⟩
def RX3 : String := "CheeseEar$Clues"
def TX3 : u_T := fun k => match k with
  | 0 => ("CheeseEar$Clues", "cellar", "LCheeseEar$Cellar;", true)
  | _ => ("CheeseEar$Clues", "alike", "[I", true)
def tyX3 : Nat → FieldType := fun k => match k with
  | 0 => .object "CheeseEar$Cellar"
  | _ => .array .int
abbrev wsX30 : List Cond := u_ws RX3 TX3 2
theorem nmX3 : ∀ a, a < 2 → ∀ b, b < 2 → a ≠ b → (TX3 a).2.1 ≠ (TX3 b).2.1 := by decide +kernel
theorem tyX3_ok : ∀ k, k < 2 → parseFieldDescriptor (TX3 k).2.2.1 = some (tyX3 k) := by decide +kernel
abbrev cX3_init : ByteArray := prog_5_method_1_code
def yX3_init : MethodName := ⟨RX3, "<init>", "(LCheeseEar$Cellar;)V"⟩
abbrev cX3_neverTurnings : ByteArray := prog_5_method_2_code
def yX3_neverTurnings : MethodName := ⟨RX3, "neverTurnings", "()I"⟩
abbrev cX3_fromNights : ByteArray := prog_5_method_3_code
def yX3_fromNights : MethodName := ⟨RX3, "fromNights", "(I)I"⟩
abbrev cX3_fittingSorts : ByteArray := prog_5_method_4_code
def yX3_fittingSorts : MethodName := ⟨RX3, "fittingSorts", "(I)I"⟩
abbrev cX3_nextNight : ByteArray := prog_5_method_5_code
def yX3_nextNight : MethodName := ⟨RX3, "nextNight", "(II)I"⟩
abbrev cX3_tallyAlike : ByteArray := prog_5_method_6_code
def yX3_tallyAlike : MethodName := ⟨RX3, "tallyAlike", "(II)V"⟩
abbrev cX3_tallyOne : ByteArray := prog_5_method_7_code
def yX3_tallyOne : MethodName := ⟨RX3, "tallyOne", "(I)V"⟩
abbrev cX3_mostAlike : ByteArray := prog_5_method_8_code
def yX3_mostAlike : MethodName := ⟨RX3, "mostAlike", "(I)I"⟩
abbrev cX3_othersFit : ByteArray := prog_5_method_9_code
def yX3_othersFit : MethodName := ⟨RX3, "othersFit", "(II)Z"⟩
abbrev cX3_fits : ByteArray := prog_5_method_10_code
def yX3_fits : MethodName := ⟨RX3, "fits", "(LCheeseEar$Trial;I)Z"⟩
def RX4 : String := "CheeseEar$Marks"
def TX4 : u_T := fun k => match k with
  | 0 => ("CheeseEar$Marks", "nights", "[I", true)
  | 1 => ("CheeseEar$Marks", "wheels", "[I", true)
  | 2 => ("CheeseEar$Marks", "letters", "[I", true)
  | _ => ("CheeseEar$Marks", "number", "I", false)
def tyX4 : Nat → FieldType := fun k => match k with
  | 0 => .array .int
  | 1 => .array .int
  | 2 => .array .int
  | _ => .int
abbrev wsX40 : List Cond := u_ws RX4 TX4 4
theorem nmX4 : ∀ a, a < 4 → ∀ b, b < 4 → a ≠ b → (TX4 a).2.1 ≠ (TX4 b).2.1 := by decide +kernel
theorem tyX4_ok : ∀ k, k < 4 → parseFieldDescriptor (TX4 k).2.2.1 = some (tyX4 k) := by decide +kernel
abbrev cX4_init : ByteArray := prog_6_method_1_code
def yX4_init : MethodName := ⟨RX4, "<init>", "(I)V"⟩
abbrev cX4_isFull : ByteArray := prog_6_method_2_code
def yX4_isFull : MethodName := ⟨RX4, "isFull", "()Z"⟩
abbrev cX4_append : ByteArray := prog_6_method_3_code
def yX4_append : MethodName := ⟨RX4, "append", "(III)V"⟩
abbrev cX4_nightsOf : ByteArray := prog_6_method_4_code
def yX4_nightsOf : MethodName := ⟨RX4, "nightsOf", "(II)I"⟩
def RX5 : String := "CheeseEar$Plans"
def TX5 : u_T := fun k => match k with
  | 0 => ("CheeseEar$Plans", "cellar", "LCheeseEar$Cellar;", true)
  | 1 => ("CheeseEar$Plans", "prices", "[I", true)
  | 2 => ("CheeseEar$Plans", "takings", "[I", true)
  | 3 => ("CheeseEar$Plans", "takingsBefore", "[I", true)
  | 4 => ("CheeseEar$Plans", "ripeNumber", "I", false)
  | 5 => ("CheeseEar$Plans", "ripeFirst", "I", false)
  | 6 => ("CheeseEar$Plans", "ripeSecond", "I", false)
  | 7 => ("CheeseEar$Plans", "coldNight", "I", false)
  | 8 => ("CheeseEar$Plans", "coldNumber", "I", false)
  | 9 => ("CheeseEar$Plans", "comeNight", "I", false)
  | _ => ("CheeseEar$Plans", "comeMoment", "I", false)
def tyX5 : Nat → FieldType := fun k => match k with
  | 0 => .object "CheeseEar$Cellar"
  | 1 => .array .int
  | 2 => .array .int
  | 3 => .array .int
  | 4 => .int
  | 5 => .int
  | 6 => .int
  | 7 => .int
  | 8 => .int
  | 9 => .int
  | _ => .int
abbrev wsX50 : List Cond := u_ws RX5 TX5 11
theorem nmX5 : ∀ a, a < 11 → ∀ b, b < 11 → a ≠ b → (TX5 a).2.1 ≠ (TX5 b).2.1 := by decide +kernel
theorem tyX5_ok : ∀ k, k < 11 → parseFieldDescriptor (TX5 k).2.2.1 = some (tyX5 k) := by decide +kernel
abbrev cX5_init : ByteArray := prog_7_method_1_code
def yX5_init : MethodName := ⟨RX5, "<init>", "(LCheeseEar$Cellar;)V"⟩
abbrev cX5_findRipe : ByteArray := prog_7_method_2_code
def yX5_findRipe : MethodName := ⟨RX5, "findRipe", "(II)V"⟩
abbrev cX5_firstOfUse : ByteArray := prog_7_method_3_code
def yX5_firstOfUse : MethodName := ⟨RX5, "firstOfUse", "(LCheeseEar$Trial;)I"⟩
abbrev cX5_findRipeByOne : ByteArray := prog_7_method_4_code
def yX5_findRipeByOne : MethodName := ⟨RX5, "findRipeByOne", "(LCheeseEar$Trial;I)Z"⟩
abbrev cX5_findRipeByTwo : ByteArray := prog_7_method_5_code
def yX5_findRipeByTwo : MethodName := ⟨RX5, "findRipeByTwo", "(LCheeseEar$Trial;I)V"⟩
abbrev cX5_findCold : ByteArray := prog_7_method_6_code
def yX5_findCold : MethodName := ⟨RX5, "findCold", "(I)V"⟩
abbrev cX5_findCome : ByteArray := prog_7_method_7_code
def yX5_findCome : MethodName := ⟨RX5, "findCome", "(I)V"⟩
abbrev cX5_bestSale : ByteArray := prog_7_method_8_code
def yX5_bestSale : MethodName := ⟨RX5, "bestSale", "()I"⟩
abbrev cX5_priceLast : ByteArray := prog_7_method_9_code
def yX5_priceLast : MethodName := ⟨RX5, "priceLast", "(I)V"⟩
abbrev cX5_sell : ByteArray := prog_7_method_10_code
def yX5_sell : MethodName := ⟨RX5, "sell", "(III)V"⟩
def RX6 : String := "CheeseEar$Sheet"
def TX6 : u_T := fun k => match k with
  | 0 => ("CheeseEar$Sheet", "items", "[I", true)
  | 1 => ("CheeseEar$Sheet", "lost", "Z", false)
  | 2 => ("CheeseEar$Sheet", "form", "I", false)
  | _ => ("CheeseEar$Sheet", "size", "I", false)
def tyX6 : Nat → FieldType := fun k => match k with
  | 0 => .array .int
  | 1 => .boolean
  | 2 => .int
  | _ => .int
abbrev wsX60 : List Cond := u_ws RX6 TX6 4
theorem nmX6 : ∀ a, a < 4 → ∀ b, b < 4 → a ≠ b → (TX6 a).2.1 ≠ (TX6 b).2.1 := by decide +kernel
theorem tyX6_ok : ∀ k, k < 4 → parseFieldDescriptor (TX6 k).2.2.1 = some (tyX6 k) := by decide +kernel
abbrev cX6_init : ByteArray := prog_8_method_1_code
def yX6_init : MethodName := ⟨RX6, "<init>", "()V"⟩
abbrev cX6_renew : ByteArray := prog_8_method_2_code
def yX6_renew : MethodName := ⟨RX6, "renew", "(II)V"⟩
abbrev cX6_holds : ByteArray := prog_8_method_3_code
def yX6_holds : MethodName := ⟨RX6, "holds", "(II)Z"⟩
abbrev cX6_itemAt : ByteArray := prog_8_method_4_code
def yX6_itemAt : MethodName := ⟨RX6, "itemAt", "(I)I"⟩
abbrev cX6_place : ByteArray := prog_8_method_5_code
def yX6_place : MethodName := ⟨RX6, "place", "(II)V"⟩
def RX7 : String := "CheeseEar$Survey"
def TX7 : u_T := fun k => match k with
  | 0 => ("CheeseEar$Survey", "cellar", "LCheeseEar$Cellar;", true)
  | 1 => ("CheeseEar$Survey", "hearers", "[I", true)
  | 2 => ("CheeseEar$Survey", "screamNight", "I", false)
  | 3 => ("CheeseEar$Survey", "screamWheel", "I", false)
  | 4 => ("CheeseEar$Survey", "chordNight", "I", false)
  | _ => ("CheeseEar$Survey", "chordNumber", "I", false)
def tyX7 : Nat → FieldType := fun k => match k with
  | 0 => .object "CheeseEar$Cellar"
  | 1 => .array .int
  | 2 => .int
  | 3 => .int
  | 4 => .int
  | _ => .int
abbrev wsX70 : List Cond := u_ws RX7 TX7 6
theorem nmX7 : ∀ a, a < 6 → ∀ b, b < 6 → a ≠ b → (TX7 a).2.1 ≠ (TX7 b).2.1 := by decide +kernel
theorem tyX7_ok : ∀ k, k < 6 → parseFieldDescriptor (TX7 k).2.2.1 = some (tyX7 k) := by decide +kernel
abbrev cX7_init : ByteArray := prog_9_method_1_code
def yX7_init : MethodName := ⟨RX7, "<init>", "(LCheeseEar$Cellar;)V"⟩
abbrev cX7_findScream : ByteArray := prog_9_method_2_code
def yX7_findScream : MethodName := ⟨RX7, "findScream", "()V"⟩
abbrev cX7_tallyLetters : ByteArray := prog_9_method_3_code
def yX7_tallyLetters : MethodName := ⟨RX7, "tallyLetters", "()V"⟩
abbrev cX7_findChord : ByteArray := prog_9_method_4_code
def yX7_findChord : MethodName := ⟨RX7, "findChord", "(I)V"⟩
abbrev cX7_silentNights : ByteArray := prog_9_method_5_code
def yX7_silentNights : MethodName := ⟨RX7, "silentNights", "()I"⟩
abbrev cX7_eatenWheels : ByteArray := prog_9_method_6_code
def yX7_eatenWheels : MethodName := ⟨RX7, "eatenWheels", "()I"⟩
def RX8 : String := "CheeseEar$Text"
def TX8 : u_T := fun k => match k with
  | 0 => ("CheeseEar$Text", "bytes", "[I", true)
  | _ => ("CheeseEar$Text", "length", "I", false)
def tyX8 : Nat → FieldType := fun k => match k with
  | 0 => .array .int
  | _ => .int
abbrev wsX80 : List Cond := u_ws RX8 TX8 2
theorem nmX8 : ∀ a, a < 2 → ∀ b, b < 2 → a ≠ b → (TX8 a).2.1 ≠ (TX8 b).2.1 := by decide +kernel
theorem tyX8_ok : ∀ k, k < 2 → parseFieldDescriptor (TX8 k).2.2.1 = some (tyX8 k) := by decide +kernel
abbrev cX8_init : ByteArray := prog_10_method_1_code
def yX8_init : MethodName := ⟨RX8, "<init>", "(I)V"⟩
abbrev cX8_isFull : ByteArray := prog_10_method_2_code
def yX8_isFull : MethodName := ⟨RX8, "isFull", "()Z"⟩
abbrev cX8_append : ByteArray := prog_10_method_3_code
def yX8_append : MethodName := ⟨RX8, "append", "(I)V"⟩
abbrev cX8_byteAt : ByteArray := prog_10_method_4_code
def yX8_byteAt : MethodName := ⟨RX8, "byteAt", "(I)I"⟩
def RX9 : String := "CheeseEar$Trial"
def TX9 : u_T := fun k => match k with
  | 0 => ("CheeseEar$Trial", "letters", "[I", true)
  | 1 => ("CheeseEar$Trial", "warmth", "[I", true)
  | 2 => ("CheeseEar$Trial", "ages", "[I", true)
  | 3 => ("CheeseEar$Trial", "moments", "[I", true)
  | 4 => ("CheeseEar$Trial", "heard", "[I", true)
  | 5 => ("CheeseEar$Trial", "states", "[I", true)
  | 6 => ("CheeseEar$Trial", "sort", "I", false)
  | 7 => ("CheeseEar$Trial", "from", "I", false)
  | 8 => ("CheeseEar$Trial", "size", "I", false)
  | 9 => ("CheeseEar$Trial", "turned", "I", false)
  | 10 => ("CheeseEar$Trial", "knocked", "I", false)
  | 11 => ("CheeseEar$Trial", "time", "I", false)
  | 12 => ("CheeseEar$Trial", "screaming", "I", false)
  | 13 => ("CheeseEar$Trial", "heardNights", "I", false)
  | _ => ("CheeseEar$Trial", "eaten", "Z", false)
def tyX9 : Nat → FieldType := fun k => match k with
  | 0 => .array .int
  | 1 => .array .int
  | 2 => .array .int
  | 3 => .array .int
  | 4 => .array .int
  | 5 => .array .int
  | 6 => .int
  | 7 => .int
  | 8 => .int
  | 9 => .int
  | 10 => .int
  | 11 => .int
  | 12 => .int
  | 13 => .int
  | _ => .boolean
abbrev wsX90 : List Cond := u_ws RX9 TX9 15
theorem nmX9 : ∀ a, a < 15 → ∀ b, b < 15 → a ≠ b → (TX9 a).2.1 ≠ (TX9 b).2.1 := by decide +kernel
theorem tyX9_ok : ∀ k, k < 15 → parseFieldDescriptor (TX9 k).2.2.1 = some (tyX9 k) := by decide +kernel
abbrev cX9_init : ByteArray := prog_11_method_1_code
def yX9_init : MethodName := ⟨RX9, "<init>", "()V"⟩
abbrev cX9_learn : ByteArray := prog_11_method_2_code
def yX9_learn : MethodName := ⟨RX9, "learn", "(IIZ)V"⟩
abbrev cX9_warmTo : ByteArray := prog_11_method_3_code
def yX9_warmTo : MethodName := ⟨RX9, "warmTo", "(II)V"⟩
abbrev cX9_warmthOn : ByteArray := prog_11_method_4_code
def yX9_warmthOn : MethodName := ⟨RX9, "warmthOn", "(I)I"⟩
abbrev cX9_ageOn : ByteArray := prog_11_method_5_code
def yX9_ageOn : MethodName := ⟨RX9, "ageOn", "(I)I"⟩
abbrev cX9_momentOn : ByteArray := prog_11_method_6_code
def yX9_momentOn : MethodName := ⟨RX9, "momentOn", "(I)I"⟩
abbrev cX9_heardOn : ByteArray := prog_11_method_7_code
def yX9_heardOn : MethodName := ⟨RX9, "heardOn", "(I)I"⟩
abbrev cX9_stateOn : ByteArray := prog_11_method_8_code
def yX9_stateOn : MethodName := ⟨RX9, "stateOn", "(I)I"⟩
abbrev cX9_growth : ByteArray := prog_11_method_9_code
def yX9_growth : MethodName := ⟨RX9, "growth", "(II)I"⟩
abbrev cX9_momentAt : ByteArray := prog_11_method_10_code
def yX9_momentAt : MethodName := ⟨RX9, "momentAt", "(I)I"⟩
abbrev cX9_isEatenAt : ByteArray := prog_11_method_11_code
def yX9_isEatenAt : MethodName := ⟨RX9, "isEatenAt", "(I)Z"⟩
abbrev cX9_run : ByteArray := prog_11_method_12_code
def yX9_run : MethodName := ⟨RX9, "run", "()V"⟩
abbrev cX9_note : ByteArray := prog_11_method_13_code
def yX9_note : MethodName := ⟨RX9, "note", "(IIII)V"⟩
abbrev cX9_soleMoment : ByteArray := prog_11_method_14_code
def yX9_soleMoment : MethodName := ⟨RX9, "soleMoment", "(I)I"⟩
abbrev cX9_heardLong : ByteArray := prog_11_method_15_code
def yX9_heardLong : MethodName := ⟨RX9, "heardLong", "()I"⟩
abbrev cX9_firstScream : ByteArray := prog_11_method_16_code
def yX9_firstScream : MethodName := ⟨RX9, "firstScream", "()I"⟩
def RX10 : String := "CheeseEar$Wheels"
def TX10 : u_T := fun k => match k with
  | 0 => ("CheeseEar$Wheels", "sorts", "[I", true)
  | 1 => ("CheeseEar$Wheels", "nights", "[I", true)
  | 2 => ("CheeseEar$Wheels", "sizes", "[I", true)
  | 3 => ("CheeseEar$Wheels", "letters", "[I", true)
  | 4 => ("CheeseEar$Wheels", "number", "I", false)
  | 5 => ("CheeseEar$Wheels", "firstFault", "I", false)
  | _ => ("CheeseEar$Wheels", "stage", "I", false)
def tyX10 : Nat → FieldType := fun k => match k with
  | 0 => .array .int
  | 1 => .array .int
  | 2 => .array .int
  | 3 => .array .int
  | 4 => .int
  | 5 => .int
  | _ => .int
abbrev wsX100 : List Cond := u_ws RX10 TX10 7
theorem nmX10 : ∀ a, a < 7 → ∀ b, b < 7 → a ≠ b → (TX10 a).2.1 ≠ (TX10 b).2.1 := by decide +kernel
theorem tyX10_ok : ∀ k, k < 7 → parseFieldDescriptor (TX10 k).2.2.1 = some (tyX10 k) := by decide +kernel
abbrev cX10_init : ByteArray := prog_12_method_1_code
def yX10_init : MethodName := ⟨RX10, "<init>", "()V"⟩
abbrev cX10_readFrom : ByteArray := prog_12_method_2_code
def yX10_readFrom : MethodName := ⟨RX10, "readFrom", "(LCheeseEar$Text;)V"⟩
abbrev cX10_takes : ByteArray := prog_12_method_3_code
def yX10_takes : MethodName := ⟨RX10, "takes", "(I)Z"⟩
abbrev cX10_takesSort : ByteArray := prog_12_method_4_code
def yX10_takesSort : MethodName := ⟨RX10, "takesSort", "(I)Z"⟩
abbrev cX10_takesFigure : ByteArray := prog_12_method_5_code
def yX10_takesFigure : MethodName := ⟨RX10, "takesFigure", "(II)Z"⟩
abbrev cX10_takesLetter : ByteArray := prog_12_method_6_code
def yX10_takesLetter : MethodName := ⟨RX10, "takesLetter", "(II)Z"⟩
abbrev cX10_takesNext : ByteArray := prog_12_method_7_code
def yX10_takesNext : MethodName := ⟨RX10, "takesNext", "()Z"⟩
abbrev cX10_mayEnd : ByteArray := prog_12_method_8_code
def yX10_mayEnd : MethodName := ⟨RX10, "mayEnd", "()Z"⟩
abbrev cX10_sortOf : ByteArray := prog_12_method_9_code
def yX10_sortOf : MethodName := ⟨RX10, "sortOf", "(I)I"⟩
abbrev cX10_nightOf : ByteArray := prog_12_method_10_code
def yX10_nightOf : MethodName := ⟨RX10, "nightOf", "(I)I"⟩
abbrev cX10_sizeOf : ByteArray := prog_12_method_11_code
def yX10_sizeOf : MethodName := ⟨RX10, "sizeOf", "(I)I"⟩
abbrev cX10_letterOf : ByteArray := prog_12_method_12_code
def yX10_letterOf : MethodName := ⟨RX10, "letterOf", "(II)I"⟩
def RX11 : String := "CheeseEar"
def TX11 : u_T := fun k => match k with
  | 0 => ("CheeseEar", "cellar", "LCheeseEar$Cellar;", true)
  | 1 => ("CheeseEar", "survey", "LCheeseEar$Survey;", true)
  | 2 => ("CheeseEar", "plans", "LCheeseEar$Plans;", true)
  | 3 => ("CheeseEar", "clues", "LCheeseEar$Clues;", true)
  | 4 => ("CheeseEar", "chances", "LCheeseEar$Chances;", true)
  | 5 => ("CheeseEar", "sheets", "[LCheeseEar$Sheet;", true)
  | _ => ("CheeseEar", "latestFinding", "I", false)
def tyX11 : Nat → FieldType := fun k => match k with
  | 0 => .object "CheeseEar$Cellar"
  | 1 => .object "CheeseEar$Survey"
  | 2 => .object "CheeseEar$Plans"
  | 3 => .object "CheeseEar$Clues"
  | 4 => .object "CheeseEar$Chances"
  | 5 => .array (.object "CheeseEar$Sheet")
  | _ => .int
abbrev wsX110 : List Cond := u_ws RX11 TX11 7
theorem nmX11 : ∀ a, a < 7 → ∀ b, b < 7 → a ≠ b → (TX11 a).2.1 ≠ (TX11 b).2.1 := by decide +kernel
theorem tyX11_ok : ∀ k, k < 7 → parseFieldDescriptor (TX11 k).2.2.1 = some (tyX11 k) := by decide +kernel
abbrev cX11_init : ByteArray := prog_1_method_1_code
def yX11_init : MethodName := ⟨RX11, "<init>", "()V"⟩
abbrev cX11_type : ByteArray := prog_1_method_2_code
def yX11_type : MethodName := ⟨RX11, "type", "(II)I"⟩
abbrev cX11_wipe : ByteArray := prog_1_method_3_code
def yX11_wipe : MethodName := ⟨RX11, "wipe", "(I)I"⟩
abbrev cX11_undo : ByteArray := prog_1_method_4_code
def yX11_undo : MethodName := ⟨RX11, "undo", "(I)I"⟩
abbrev cX11_fault : ByteArray := prog_1_method_5_code
def yX11_fault : MethodName := ⟨RX11, "fault", "(I)I"⟩
abbrev cX11_wheel : ByteArray := prog_1_method_6_code
def yX11_wheel : MethodName := ⟨RX11, "wheel", "(II)I"⟩
abbrev cX11_warm : ByteArray := prog_1_method_7_code
def yX11_warm : MethodName := ⟨RX11, "warm", "(I)I"⟩
abbrev cX11_set : ByteArray := prog_1_method_8_code
def yX11_set : MethodName := ⟨RX11, "set", "(II)I"⟩
abbrev cX11_turning : ByteArray := prog_1_method_9_code
def yX11_turning : MethodName := ⟨RX11, "turning", "(II)I"⟩
abbrev cX11_knock : ByteArray := prog_1_method_10_code
def yX11_knock : MethodName := ⟨RX11, "knock", "(II)I"⟩
abbrev cX11_back : ByteArray := prog_1_method_11_code
def yX11_back : MethodName := ⟨RX11, "back", "(I)I"⟩
abbrev cX11_read : ByteArray := prog_1_method_12_code
def yX11_read : MethodName := ⟨RX11, "read", "(I)I"⟩
abbrev cX11_at : ByteArray := prog_1_method_13_code
def yX11_at : MethodName := ⟨RX11, "at", "(III)I"⟩
abbrev cX11_longs : ByteArray := prog_1_method_14_code
def yX11_longs : MethodName := ⟨RX11, "longs", "(I)I"⟩
abbrev cX11_scream : ByteArray := prog_1_method_15_code
def yX11_scream : MethodName := ⟨RX11, "scream", "(I)I"⟩
abbrev cX11_chord : ByteArray := prog_1_method_16_code
def yX11_chord : MethodName := ⟨RX11, "chord", "(II)I"⟩
abbrev cX11_hush : ByteArray := prog_1_method_17_code
def yX11_hush : MethodName := ⟨RX11, "hush", "()I"⟩
abbrev cX11_ripe : ByteArray := prog_1_method_18_code
def yX11_ripe : MethodName := ⟨RX11, "ripe", "(III)I"⟩
abbrev cX11_cold : ByteArray := prog_1_method_19_code
def yX11_cold : MethodName := ⟨RX11, "cold", "(II)I"⟩
abbrev cX11_come : ByteArray := prog_1_method_20_code
def yX11_come : MethodName := ⟨RX11, "come", "(II)I"⟩
abbrev cX11_sale : ByteArray := prog_1_method_21_code
def yX11_sale : MethodName := ⟨RX11, "sale", "()I"⟩
abbrev cX11_listen : ByteArray := prog_1_method_22_code
def yX11_listen : MethodName := ⟨RX11, "listen", "(III)I"⟩
abbrev cX11_forget : ByteArray := prog_1_method_23_code
def yX11_forget : MethodName := ⟨RX11, "forget", "()I"⟩
abbrev cX11_never : ByteArray := prog_1_method_24_code
def yX11_never : MethodName := ⟨RX11, "never", "()I"⟩
abbrev cX11_was : ByteArray := prog_1_method_25_code
def yX11_was : MethodName := ⟨RX11, "was", "(II)I"⟩
abbrev cX11_ask : ByteArray := prog_1_method_26_code
def yX11_ask : MethodName := ⟨RX11, "ask", "(I)I"⟩
abbrev cX11_frost : ByteArray := prog_1_method_27_code
def yX11_frost : MethodName := ⟨RX11, "frost", "(IIIII)J"⟩
abbrev cX11_summer : ByteArray := prog_1_method_28_code
def yX11_summer : MethodName := ⟨RX11, "summer", "(III)I"⟩
abbrev cX11_sheet : ByteArray := prog_1_method_29_code
def yX11_sheet : MethodName := ⟨RX11, "sheet", "(III)I"⟩
abbrev cX11_lose : ByteArray := prog_1_method_30_code
def yX11_lose : MethodName := ⟨RX11, "lose", "(I)I"⟩
abbrev cX11_put : ByteArray := prog_1_method_31_code
def yX11_put : MethodName := ⟨RX11, "put", "(IIII)I"⟩
abbrev cX11_get : ByteArray := prog_1_method_32_code
def yX11_get : MethodName := ⟨RX11, "get", "(III)I"⟩
abbrev cX11_copy : ByteArray := prog_1_method_33_code
def yX11_copy : MethodName := ⟨RX11, "copy", "(IIIII)I"⟩
abbrev cX11_write : ByteArray := prog_1_method_34_code
def yX11_write : MethodName := ⟨RX11, "write", "(II)I"⟩
abbrev cX11_count : ByteArray := prog_1_method_35_code
def yX11_count : MethodName := ⟨RX11, "count", "(I)I"⟩
abbrev cX11_digest : ByteArray := prog_1_method_36_code
def yX11_digest : MethodName := ⟨RX11, "digest", "()J"⟩
abbrev cX11_mixNights : ByteArray := prog_1_method_37_code
def yX11_mixNights : MethodName := ⟨RX11, "mixNights", "(JI)J"⟩
abbrev cX11_mixPlans : ByteArray := prog_1_method_38_code
def yX11_mixPlans : MethodName := ⟨RX11, "mixPlans", "(JI)J"⟩
abbrev cX11_mixClues : ByteArray := prog_1_method_39_code
def yX11_mixClues : MethodName := ⟨RX11, "mixClues", "(JI)J"⟩
abbrev cX11_mixAll : ByteArray := prog_1_method_40_code
def yX11_mixAll : MethodName := ⟨RX11, "mixAll", "(J)J"⟩
abbrev cX11_isText : ByteArray := prog_1_method_41_code
def yX11_isText : MethodName := ⟨RX11, "isText", "(I)Z"⟩
abbrev cX11_isNight : ByteArray := prog_1_method_42_code
def yX11_isNight : MethodName := ⟨RX11, "isNight", "(I)Z"⟩
abbrev cX11_isForm : ByteArray := prog_1_method_43_code
def yX11_isForm : MethodName := ⟨RX11, "isForm", "(I)Z"⟩
abbrev cX11_isSheet : ByteArray := prog_1_method_44_code
def yX11_isSheet : MethodName := ⟨RX11, "isSheet", "(I)Z"⟩
abbrev cX11_addMark : ByteArray := prog_1_method_45_code
def yX11_addMark : MethodName := ⟨RX11, "addMark", "(LCheeseEar$Marks;III)I"⟩
abbrev cX11_found : ByteArray := prog_1_method_46_code
def yX11_found : MethodName := ⟨RX11, "found", "(I)I"⟩
abbrev cX11_findingAt : ByteArray := prog_1_method_47_code
def yX11_findingAt : MethodName := ⟨RX11, "findingAt", "(LCheeseEar$Sheet;II)I"⟩
abbrev cX11_itemOr : ByteArray := prog_1_method_48_code
def yX11_itemOr : MethodName := ⟨RX11, "itemOr", "([III)I"⟩
abbrev cX11_isOn : ByteArray := prog_1_method_49_code
def yX11_isOn : MethodName := ⟨RX11, "isOn", "(II)Z"⟩
def RX12 : String := "CheeseEarModel"
def TX12 : u_T := fun k => match k with
  | 0 => ("CheeseEarModel", "typed", "[I", true)
  | 1 => ("CheeseEarModel", "texts", "[I", true)
  | 2 => ("CheeseEarModel", "wheels", "I", false)
  | 3 => ("CheeseEarModel", "sorts", "[I", true)
  | 4 => ("CheeseEarModel", "from", "[I", true)
  | 5 => ("CheeseEarModel", "sizesOf", "[I", true)
  | 6 => ("CheeseEarModel", "sounds", "[I", true)
  | 7 => ("CheeseEarModel", "warmMany", "I", false)
  | 8 => ("CheeseEarModel", "warmTold", "[I", true)
  | 9 => ("CheeseEarModel", "timeTold", "I", false)
  | 10 => ("CheeseEarModel", "shrillTold", "I", false)
  | 11 => ("CheeseEarModel", "turnings", "I", false)
  | 12 => ("CheeseEarModel", "turnNight", "[I", true)
  | 13 => ("CheeseEarModel", "turnWheel", "[I", true)
  | 14 => ("CheeseEarModel", "knocks", "I", false)
  | 15 => ("CheeseEarModel", "knockNight", "[I", true)
  | 16 => ("CheeseEarModel", "knockWheel", "[I", true)
  | 17 => ("CheeseEarModel", "warmNow", "[I", true)
  | 18 => ("CheeseEarModel", "turnBits", "I", false)
  | 19 => ("CheeseEarModel", "knockBits", "I", false)
  | 20 => ("CheeseEarModel", "ageAt", "[I", true)
  | 21 => ("CheeseEarModel", "heardAt", "[I", true)
  | 22 => ("CheeseEarModel", "isAt", "[I", true)
  | 23 => ("CheeseEarModel", "heardBy", "[I", true)
  | 24 => ("CheeseEarModel", "planRow", "[I", true)
  | 25 => ("CheeseEarModel", "brings", "[I", true)
  | 26 => ("CheeseEarModel", "soldBy", "[I", true)
  | 27 => ("CheeseEarModel", "listens", "I", false)
  | 28 => ("CheeseEarModel", "listenNight", "[I", true)
  | 29 => ("CheeseEarModel", "listenWheel", "[I", true)
  | 30 => ("CheeseEarModel", "listenLetter", "[I", true)
  | 31 => ("CheeseEarModel", "heardFrom", "[I", true)
  | 32 => ("CheeseEarModel", "isThere", "[Z", true)
  | 33 => ("CheeseEarModel", "forms", "[I", true)
  | 34 => ("CheeseEarModel", "sizes", "[I", true)
  | 35 => ("CheeseEarModel", "items", "[I", true)
  | 36 => ("CheeseEarModel", "moved", "[I", true)
  | _ => ("CheeseEarModel", "finding", "I", false)
def tyX12 : Nat → FieldType := fun k => match k with
  | 0 => .array .int
  | 1 => .array .int
  | 2 => .int
  | 3 => .array .int
  | 4 => .array .int
  | 5 => .array .int
  | 6 => .array .int
  | 7 => .int
  | 8 => .array .int
  | 9 => .int
  | 10 => .int
  | 11 => .int
  | 12 => .array .int
  | 13 => .array .int
  | 14 => .int
  | 15 => .array .int
  | 16 => .array .int
  | 17 => .array .int
  | 18 => .int
  | 19 => .int
  | 20 => .array .int
  | 21 => .array .int
  | 22 => .array .int
  | 23 => .array .int
  | 24 => .array .int
  | 25 => .array .int
  | 26 => .array .int
  | 27 => .int
  | 28 => .array .int
  | 29 => .array .int
  | 30 => .array .int
  | 31 => .array .int
  | 32 => .array .boolean
  | 33 => .array .int
  | 34 => .array .int
  | 35 => .array .int
  | 36 => .array .int
  | _ => .int
abbrev wsX120 : List Cond := u_ws RX12 TX12 38
theorem nmX12 : ∀ a, a < 38 → ∀ b, b < 38 → a ≠ b → (TX12 a).2.1 ≠ (TX12 b).2.1 := by decide +kernel
theorem tyX12_ok : ∀ k, k < 38 → parseFieldDescriptor (TX12 k).2.2.1 = some (tyX12 k) := by decide +kernel
abbrev cX12_init : ByteArray := prog_14_method_1_code
def yX12_init : MethodName := ⟨RX12, "<init>", "()V"⟩
abbrev cX12_in : ByteArray := prog_14_method_3_code
def yX12_in : MethodName := ⟨RX12, "in", "(III)Z"⟩
abbrev cX12_isIn : ByteArray := prog_14_method_4_code
def yX12_isIn : MethodName := ⟨RX12, "isIn", "(II)Z"⟩
abbrev cX12_no : ByteArray := prog_14_method_5_code
def yX12_no : MethodName := ⟨RX12, "no", "(I)J"⟩
abbrev cX12_lowest : ByteArray := prog_14_method_6_code
def yX12_lowest : MethodName := ⟨RX12, "lowest", "(JJI)J"⟩
abbrev cX12_isText : ByteArray := prog_14_method_7_code
def yX12_isText : MethodName := ⟨RX12, "isText", "(I)Z"⟩
abbrev cX12_isNight : ByteArray := prog_14_method_8_code
def yX12_isNight : MethodName := ⟨RX12, "isNight", "(I)Z"⟩
abbrev cX12_type : ByteArray := prog_14_method_9_code
def yX12_type : MethodName := ⟨RX12, "type", "(II)I"⟩
abbrev cX12_wipe : ByteArray := prog_14_method_10_code
def yX12_wipe : MethodName := ⟨RX12, "wipe", "(I)I"⟩
abbrev cX12_undo : ByteArray := prog_14_method_11_code
def yX12_undo : MethodName := ⟨RX12, "undo", "(I)I"⟩
abbrev cX12_byteAt : ByteArray := prog_14_method_12_code
def yX12_byteAt : MethodName := ⟨RX12, "byteAt", "(I)I"⟩
abbrev cX12_isSound : ByteArray := prog_14_method_13_code
def yX12_isSound : MethodName := ⟨RX12, "isSound", "(I)Z"⟩
abbrev cX12_readsWheel : ByteArray := prog_14_method_14_code
def yX12_readsWheel : MethodName := ⟨RX12, "readsWheel", "(II)I"⟩
abbrev cX12_readsWheels : ByteArray := prog_14_method_15_code
def yX12_readsWheels : MethodName := ⟨RX12, "readsWheels", "()I"⟩
abbrev cX12_readsCave : ByteArray := prog_14_method_16_code
def yX12_readsCave : MethodName := ⟨RX12, "readsCave", "()I"⟩
abbrev cX12_faultOf : ByteArray := prog_14_method_17_code
def yX12_faultOf : MethodName := ⟨RX12, "faultOf", "(I)I"⟩
abbrev cX12_reads : ByteArray := prog_14_method_18_code
def yX12_reads : MethodName := ⟨RX12, "reads", "()V"⟩
abbrev cX12_fault : ByteArray := prog_14_method_19_code
def yX12_fault : MethodName := ⟨RX12, "fault", "(I)I"⟩
abbrev cX12_isWheel : ByteArray := prog_14_method_20_code
def yX12_isWheel : MethodName := ⟨RX12, "isWheel", "(I)Z"⟩
abbrev cX12_wheelOf : ByteArray := prog_14_method_21_code
def yX12_wheelOf : MethodName := ⟨RX12, "wheelOf", "(II)I"⟩
abbrev cX12_wheel : ByteArray := prog_14_method_22_code
def yX12_wheel : MethodName := ⟨RX12, "wheel", "(II)I"⟩
abbrev cX12_warmOf : ByteArray := prog_14_method_23_code
def yX12_warmOf : MethodName := ⟨RX12, "warmOf", "(I)I"⟩
abbrev cX12_warm : ByteArray := prog_14_method_24_code
def yX12_warm : MethodName := ⟨RX12, "warm", "(I)I"⟩
abbrev cX12_set : ByteArray := prog_14_method_25_code
def yX12_set : MethodName := ⟨RX12, "set", "(II)I"⟩
abbrev cX12_turning : ByteArray := prog_14_method_26_code
def yX12_turning : MethodName := ⟨RX12, "turning", "(II)I"⟩
abbrev cX12_knock : ByteArray := prog_14_method_27_code
def yX12_knock : MethodName := ⟨RX12, "knock", "(II)I"⟩
abbrev cX12_back : ByteArray := prog_14_method_28_code
def yX12_back : MethodName := ⟨RX12, "back", "(I)I"⟩
abbrev cX12_read : ByteArray := prog_14_method_29_code
def yX12_read : MethodName := ⟨RX12, "read", "(I)I"⟩
abbrev cX12_asTold : ByteArray := prog_14_method_30_code
def yX12_asTold : MethodName := ⟨RX12, "asTold", "()V"⟩
abbrev cX12_turns : ByteArray := prog_14_method_31_code
def yX12_turns : MethodName := ⟨RX12, "turns", "(II)V"⟩
abbrev cX12_grows : ByteArray := prog_14_method_32_code
def yX12_grows : MethodName := ⟨RX12, "grows", "(II)I"⟩
abbrev cX12_goes : ByteArray := prog_14_method_33_code
def yX12_goes : MethodName := ⟨RX12, "goes", "(I)V"⟩
abbrev cX12_runs : ByteArray := prog_14_method_34_code
def yX12_runs : MethodName := ⟨RX12, "runs", "(I)V"⟩
abbrev cX12_runsTold : ByteArray := prog_14_method_35_code
def yX12_runsTold : MethodName := ⟨RX12, "runsTold", "(I)V"⟩
abbrev cX12_atOf : ByteArray := prog_14_method_36_code
def yX12_atOf : MethodName := ⟨RX12, "atOf", "(III)I"⟩
abbrev cX12_at : ByteArray := prog_14_method_37_code
def yX12_at : MethodName := ⟨RX12, "at", "(III)I"⟩
abbrev cX12_heardMany : ByteArray := prog_14_method_38_code
def yX12_heardMany : MethodName := ⟨RX12, "heardMany", "()I"⟩
abbrev cX12_longsOf : ByteArray := prog_14_method_39_code
def yX12_longsOf : MethodName := ⟨RX12, "longsOf", "(I)I"⟩
abbrev cX12_longs : ByteArray := prog_14_method_40_code
def yX12_longs : MethodName := ⟨RX12, "longs", "(I)I"⟩
abbrev cX12_screamOf : ByteArray := prog_14_method_41_code
def yX12_screamOf : MethodName := ⟨RX12, "screamOf", "(I)I"⟩
abbrev cX12_scream : ByteArray := prog_14_method_42_code
def yX12_scream : MethodName := ⟨RX12, "scream", "(I)I"⟩
abbrev cX12_chordOf : ByteArray := prog_14_method_43_code
def yX12_chordOf : MethodName := ⟨RX12, "chordOf", "(II)I"⟩
abbrev cX12_chord : ByteArray := prog_14_method_44_code
def yX12_chord : MethodName := ⟨RX12, "chord", "(II)I"⟩
abbrev cX12_hushNow : ByteArray := prog_14_method_45_code
def yX12_hushNow : MethodName := ⟨RX12, "hushNow", "()I"⟩
abbrev cX12_hush : ByteArray := prog_14_method_46_code
def yX12_hush : MethodName := ⟨RX12, "hush", "()I"⟩
abbrev cX12_isRipe : ByteArray := prog_14_method_47_code
def yX12_isRipe : MethodName := ⟨RX12, "isRipe", "(III)Z"⟩
abbrev cX12_ripeBy : ByteArray := prog_14_method_48_code
def yX12_ripeBy : MethodName := ⟨RX12, "ripeBy", "(II)I"⟩
abbrev cX12_ofRow : ByteArray := prog_14_method_49_code
def yX12_ofRow : MethodName := ⟨RX12, "ofRow", "(II)I"⟩
abbrev cX12_ripe : ByteArray := prog_14_method_50_code
def yX12_ripe : MethodName := ⟨RX12, "ripe", "(III)I"⟩
abbrev cX12_coldOf : ByteArray := prog_14_method_51_code
def yX12_coldOf : MethodName := ⟨RX12, "coldOf", "(II)I"⟩
abbrev cX12_cold : ByteArray := prog_14_method_52_code
def yX12_cold : MethodName := ⟨RX12, "cold", "(II)I"⟩
abbrev cX12_comeOf : ByteArray := prog_14_method_53_code
def yX12_comeOf : MethodName := ⟨RX12, "comeOf", "(II)I"⟩
abbrev cX12_come : ByteArray := prog_14_method_54_code
def yX12_come : MethodName := ⟨RX12, "come", "(II)I"⟩
abbrev cX12_saleNow : ByteArray := prog_14_method_55_code
def yX12_saleNow : MethodName := ⟨RX12, "saleNow", "()I"⟩
abbrev cX12_sale : ByteArray := prog_14_method_56_code
def yX12_sale : MethodName := ⟨RX12, "sale", "()I"⟩
abbrev cX12_listen : ByteArray := prog_14_method_57_code
def yX12_listen : MethodName := ⟨RX12, "listen", "(III)I"⟩
abbrev cX12_forget : ByteArray := prog_14_method_58_code
def yX12_forget : MethodName := ⟨RX12, "forget", "()I"⟩
abbrev cX12_isHeard : ByteArray := prog_14_method_59_code
def yX12_isHeard : MethodName := ⟨RX12, "isHeard", "(I)Z"⟩
abbrev cX12_neverNow : ByteArray := prog_14_method_60_code
def yX12_neverNow : MethodName := ⟨RX12, "neverNow", "()I"⟩
abbrev cX12_never : ByteArray := prog_14_method_61_code
def yX12_never : MethodName := ⟨RX12, "never", "()I"⟩
abbrev cX12_fromBy : ByteArray := prog_14_method_62_code
def yX12_fromBy : MethodName := ⟨RX12, "fromBy", "(I)I"⟩
abbrev cX12_sortBy : ByteArray := prog_14_method_63_code
def yX12_sortBy : MethodName := ⟨RX12, "sortBy", "(I)I"⟩
abbrev cX12_was : ByteArray := prog_14_method_64_code
def yX12_was : MethodName := ⟨RX12, "was", "(II)I"⟩
abbrev cX12_askOf : ByteArray := prog_14_method_65_code
def yX12_askOf : MethodName := ⟨RX12, "askOf", "(I)I"⟩
abbrev cX12_ask : ByteArray := prog_14_method_66_code
def yX12_ask : MethodName := ⟨RX12, "ask", "(I)I"⟩
abbrev cX12_frostOf : ByteArray := prog_14_method_67_code
def yX12_frostOf : MethodName := ⟨RX12, "frostOf", "(IIIII)J"⟩
abbrev cX12_frost : ByteArray := prog_14_method_68_code
def yX12_frost : MethodName := ⟨RX12, "frost", "(IIIII)J"⟩
abbrev cX12_summerOf : ByteArray := prog_14_method_69_code
def yX12_summerOf : MethodName := ⟨RX12, "summerOf", "(III)I"⟩
abbrev cX12_summer : ByteArray := prog_14_method_70_code
def yX12_summer : MethodName := ⟨RX12, "summer", "(III)I"⟩
abbrev cX12_meets : ByteArray := prog_14_method_71_code
def yX12_meets : MethodName := ⟨RX12, "meets", "(I)I"⟩
abbrev cX12_isSheet : ByteArray := prog_14_method_72_code
def yX12_isSheet : MethodName := ⟨RX12, "isSheet", "(I)Z"⟩
abbrev cX12_sheet : ByteArray := prog_14_method_73_code
def yX12_sheet : MethodName := ⟨RX12, "sheet", "(III)I"⟩
abbrev cX12_lose : ByteArray := prog_14_method_74_code
def yX12_lose : MethodName := ⟨RX12, "lose", "(I)I"⟩
abbrev cX12_lacks : ByteArray := prog_14_method_75_code
def yX12_lacks : MethodName := ⟨RX12, "lacks", "(III)I"⟩
abbrev cX12_keep : ByteArray := prog_14_method_76_code
def yX12_keep : MethodName := ⟨RX12, "keep", "(III)V"⟩
abbrev cX12_put : ByteArray := prog_14_method_77_code
def yX12_put : MethodName := ⟨RX12, "put", "(IIII)I"⟩
abbrev cX12_get : ByteArray := prog_14_method_78_code
def yX12_get : MethodName := ⟨RX12, "get", "(III)I"⟩
abbrev cX12_copy : ByteArray := prog_14_method_79_code
def yX12_copy : MethodName := ⟨RX12, "copy", "(IIIII)I"⟩
abbrev cX12_write : ByteArray := prog_14_method_80_code
def yX12_write : MethodName := ⟨RX12, "write", "(II)I"⟩
abbrev cX12_eatenNow : ByteArray := prog_14_method_81_code
def yX12_eatenNow : MethodName := ⟨RX12, "eatenNow", "()I"⟩
abbrev cX12_sumOf : ByteArray := prog_14_method_82_code
def yX12_sumOf : MethodName := ⟨RX12, "sumOf", "(I)I"⟩
abbrev cX12_count : ByteArray := prog_14_method_83_code
def yX12_count : MethodName := ⟨RX12, "count", "(I)I"⟩
abbrev cX12_nightDigest : ByteArray := prog_14_method_84_code
def yX12_nightDigest : MethodName := ⟨RX12, "nightDigest", "(JII)J"⟩
abbrev cX12_wheelDigest : ByteArray := prog_14_method_85_code
def yX12_wheelDigest : MethodName := ⟨RX12, "wheelDigest", "(JI)J"⟩
abbrev cX12_digest : ByteArray := prog_14_method_86_code
def yX12_digest : MethodName := ⟨RX12, "digest", "()J"⟩
def RJ6 : String := "java/lang/Integer"
abbrev cJ6_bitCount_0f7a4 : ByteArray := prog_15_method_49_code
def yJ6_bitCount_0f7a4 : MethodName := ⟨RJ6, "bitCount", "(I)I"⟩
def RJ9 : String := "java/lang/Math"
abbrev cJ9_max_7cf53 : ByteArray := prog_16_method_65_code
def yJ9_max_7cf53 : MethodName := ⟨RJ9, "max", "(II)I"⟩
abbrev cJ9_min_7cf53 : ByteArray := prog_16_method_69_code
def yJ9_min_7cf53 : MethodName := ⟨RJ9, "min", "(II)I"⟩
def RJ10 : String := "java/lang/System"
def RJ7 : String := "java/util/Arrays"
abbrev cJ7_fill_d0a16 : ByteArray := prog_18_method_101_code
def yJ7_fill_d0a16 : MethodName := ⟨RJ7, "fill", "([JJ)V"⟩
abbrev cJ7_fill_53178 : ByteArray := prog_18_method_103_code
def yJ7_fill_53178 : MethodName := ⟨RJ7, "fill", "([II)V"⟩
def RL : String := "CheeseEarLaw"
abbrev cL_law : ByteArray := code
def yL_law : MethodName := ⟨RL, "law", "([I)Z"⟩
abbrev vwCl : List vw_C := [(RX0, TX0, 3), (RX1, TX1, 10), (RX2, TX2, 7), (RX3, TX3, 2), (RX4, TX4, 4), (RX5, TX5, 11), (RX6, TX6, 4), (RX7, TX7, 6), (RX8, TX8, 2), (RX9, TX9, 15), (RX10, TX10, 7), (RX11, TX11, 7), (RX12, TX12, 38)]
theorem iiX0 : ∀ w ∈ wsX00, w ∈ lw_tbl := by decide +kernel
theorem iiX1 : ∀ w ∈ wsX10, w ∈ lw_tbl := by decide +kernel
theorem iiX2 : ∀ w ∈ wsX20, w ∈ lw_tbl := by decide +kernel
theorem iiX3 : ∀ w ∈ wsX30, w ∈ lw_tbl := by decide +kernel
theorem iiX4 : ∀ w ∈ wsX40, w ∈ lw_tbl := by decide +kernel
theorem iiX5 : ∀ w ∈ wsX50, w ∈ lw_tbl := by decide +kernel
theorem iiX6 : ∀ w ∈ wsX60, w ∈ lw_tbl := by decide +kernel
theorem iiX7 : ∀ w ∈ wsX70, w ∈ lw_tbl := by decide +kernel
theorem iiX8 : ∀ w ∈ wsX80, w ∈ lw_tbl := by decide +kernel
theorem iiX9 : ∀ w ∈ wsX90, w ∈ lw_tbl := by decide +kernel
theorem iiX10 : ∀ w ∈ wsX100, w ∈ lw_tbl := by decide +kernel
theorem iiX11 : ∀ w ∈ wsX110, w ∈ lw_tbl := by decide +kernel
theorem iiX12 : ∀ w ∈ wsX120, w ∈ lw_tbl := by decide +kernel
end
section
theorem dX0_init_0 : decode cX0_init 0 = .ok (.aload_n 0, 1) := by decide +kernel
theorem dX0_init_1 : decode cX0_init 1 = .ok (.invokespecial 3, 3) := by decide +kernel
theorem dX0_init_4 : decode cX0_init 4 = .ok (.aload_n 0, 1) := by decide +kernel
theorem dX0_init_5 : decode cX0_init 5 = .ok (.bipush 30, 2) := by decide +kernel
theorem dX0_init_7 : decode cX0_init 7 = .ok (.newarray .int, 2) := by decide +kernel
theorem dX0_init_9 : decode cX0_init 9 = .ok (.putfield 9, 3) := by decide +kernel
theorem dX0_init_12 : decode cX0_init 12 = .ok (.aload_n 0, 1) := by decide +kernel
theorem dX0_init_13 : decode cX0_init 13 = .ok (.iconst (-1), 1) := by decide +kernel
theorem dX0_init_14 : decode cX0_init 14 = .ok (.putfield 15, 3) := by decide +kernel
theorem dX0_init_17 : decode cX0_init 17 = .ok (.aload_n 0, 1) := by decide +kernel
theorem dX0_init_18 : decode cX0_init 18 = .ok (.getfield 9, 3) := by decide +kernel
theorem dX0_init_21 : decode cX0_init 21 = .ok (.iconst 5, 1) := by decide +kernel
theorem dX0_init_22 : decode cX0_init 22 = .ok (.invokestatic 19, 3) := by decide +kernel
theorem dX0_init_25 : decode cX0_init 25 = .ok (.return_, 1) := by decide +kernel
theorem dX0_readFrom_0 : decode cX0_readFrom 0 = .ok (.aload_n 0, 1) := by decide +kernel
theorem dX0_readFrom_1 : decode cX0_readFrom 1 = .ok (.iconst (-1), 1) := by decide +kernel
theorem dX0_readFrom_2 : decode cX0_readFrom 2 = .ok (.putfield 15, 3) := by decide +kernel
theorem dX0_readFrom_5 : decode cX0_readFrom 5 = .ok (.iconst 0, 1) := by decide +kernel
theorem dX0_readFrom_6 : decode cX0_readFrom 6 = .ok (.istore_n 2, 1) := by decide +kernel
theorem dX0_readFrom_7 : decode cX0_readFrom 7 = .ok (.iload_n 2, 1) := by decide +kernel
theorem dX0_readFrom_8 : decode cX0_readFrom 8 = .ok (.aload_n 1, 1) := by decide +kernel
theorem dX0_readFrom_9 : decode cX0_readFrom 9 = .ok (.getfield 25, 3) := by decide +kernel
theorem dX0_readFrom_12 : decode cX0_readFrom 12 = .ok (.if_icmp .ge 40, 3) := by decide +kernel
theorem dX0_readFrom_15 : decode cX0_readFrom 15 = .ok (.aload_n 0, 1) := by decide +kernel
theorem dX0_readFrom_16 : decode cX0_readFrom 16 = .ok (.getfield 15, 3) := by decide +kernel
theorem dX0_readFrom_19 : decode cX0_readFrom 19 = .ok (.iconst (-1), 1) := by decide +kernel
theorem dX0_readFrom_20 : decode cX0_readFrom 20 = .ok (.if_icmp .ne 32, 3) := by decide +kernel
theorem dX0_readFrom_23 : decode cX0_readFrom 23 = .ok (.aload_n 1, 1) := by decide +kernel
theorem dX0_readFrom_24 : decode cX0_readFrom 24 = .ok (.iload_n 2, 1) := by decide +kernel
theorem dX0_readFrom_25 : decode cX0_readFrom 25 = .ok (.invokevirtual 30, 3) := by decide +kernel
theorem dX0_readFrom_28 : decode cX0_readFrom 28 = .ok (.istore_n 3, 1) := by decide +kernel
theorem dX0_readFrom_29 : decode cX0_readFrom 29 = .ok (.iload_n 3, 1) := by decide +kernel
theorem dX0_readFrom_30 : decode cX0_readFrom 30 = .ok (.bipush 48, 2) := by decide +kernel
theorem dX0_readFrom_32 : decode cX0_readFrom 32 = .ok (.if_icmp .lt 9, 3) := by decide +kernel
theorem dX0_readFrom_35 : decode cX0_readFrom 35 = .ok (.iload_n 3, 1) := by decide +kernel
theorem dX0_readFrom_36 : decode cX0_readFrom 36 = .ok (.bipush 57, 2) := by decide +kernel
theorem dX0_readFrom_38 : decode cX0_readFrom 38 = .ok (.if_icmp .le 8, 3) := by decide +kernel
theorem dX0_readFrom_41 : decode cX0_readFrom 41 = .ok (.aload_n 0, 1) := by decide +kernel
theorem dX0_readFrom_42 : decode cX0_readFrom 42 = .ok (.iload_n 2, 1) := by decide +kernel
theorem dX0_readFrom_43 : decode cX0_readFrom 43 = .ok (.putfield 15, 3) := by decide +kernel
theorem dX0_readFrom_46 : decode cX0_readFrom 46 = .ok (.iinc 2 1, 3) := by decide +kernel
theorem dX0_readFrom_49 : decode cX0_readFrom 49 = .ok (.goto (-42), 3) := by decide +kernel
theorem dX0_readFrom_52 : decode cX0_readFrom 52 = .ok (.aload_n 0, 1) := by decide +kernel
theorem dX0_readFrom_53 : decode cX0_readFrom 53 = .ok (.aload_n 0, 1) := by decide +kernel
theorem dX0_readFrom_54 : decode cX0_readFrom 54 = .ok (.getfield 15, 3) := by decide +kernel
theorem dX0_readFrom_57 : decode cX0_readFrom 57 = .ok (.iconst (-1), 1) := by decide +kernel
theorem dX0_readFrom_58 : decode cX0_readFrom 58 = .ok (.if_icmp .ne 10, 3) := by decide +kernel
theorem dX0_readFrom_61 : decode cX0_readFrom 61 = .ok (.aload_n 1, 1) := by decide +kernel
theorem dX0_readFrom_62 : decode cX0_readFrom 62 = .ok (.getfield 25, 3) := by decide +kernel
theorem dX0_readFrom_65 : decode cX0_readFrom 65 = .ok (.goto 4, 3) := by decide +kernel
theorem dX0_readFrom_68 : decode cX0_readFrom 68 = .ok (.iconst 0, 1) := by decide +kernel
theorem dX0_readFrom_69 : decode cX0_readFrom 69 = .ok (.putfield 34, 3) := by decide +kernel
theorem dX0_readFrom_72 : decode cX0_readFrom 72 = .ok (.iconst 0, 1) := by decide +kernel
theorem dX0_readFrom_73 : decode cX0_readFrom 73 = .ok (.istore_n 2, 1) := by decide +kernel
theorem dX0_readFrom_74 : decode cX0_readFrom 74 = .ok (.iload_n 2, 1) := by decide +kernel
theorem dX0_readFrom_75 : decode cX0_readFrom 75 = .ok (.aload_n 0, 1) := by decide +kernel
theorem dX0_readFrom_76 : decode cX0_readFrom 76 = .ok (.getfield 9, 3) := by decide +kernel
theorem dX0_readFrom_79 : decode cX0_readFrom 79 = .ok (.arraylength, 1) := by decide +kernel
theorem dX0_readFrom_80 : decode cX0_readFrom 80 = .ok (.if_icmp .ge 35, 3) := by decide +kernel
theorem dX0_readFrom_83 : decode cX0_readFrom 83 = .ok (.aload_n 0, 1) := by decide +kernel
theorem dX0_readFrom_84 : decode cX0_readFrom 84 = .ok (.getfield 9, 3) := by decide +kernel
theorem dX0_readFrom_87 : decode cX0_readFrom 87 = .ok (.iload_n 2, 1) := by decide +kernel
theorem dX0_readFrom_88 : decode cX0_readFrom 88 = .ok (.iload_n 2, 1) := by decide +kernel
theorem dX0_readFrom_89 : decode cX0_readFrom 89 = .ok (.aload_n 0, 1) := by decide +kernel
theorem dX0_readFrom_90 : decode cX0_readFrom 90 = .ok (.getfield 34, 3) := by decide +kernel
theorem dX0_readFrom_93 : decode cX0_readFrom 93 = .ok (.if_icmp .ge 14, 3) := by decide +kernel
theorem dX0_readFrom_96 : decode cX0_readFrom 96 = .ok (.aload_n 1, 1) := by decide +kernel
theorem dX0_readFrom_97 : decode cX0_readFrom 97 = .ok (.iload_n 2, 1) := by decide +kernel
theorem dX0_readFrom_98 : decode cX0_readFrom 98 = .ok (.invokevirtual 30, 3) := by decide +kernel
theorem dX0_readFrom_101 : decode cX0_readFrom 101 = .ok (.bipush 48, 2) := by decide +kernel
theorem dX0_readFrom_103 : decode cX0_readFrom 103 = .ok (.isub, 1) := by decide +kernel
theorem dX0_readFrom_104 : decode cX0_readFrom 104 = .ok (.goto 4, 3) := by decide +kernel
theorem dX0_readFrom_107 : decode cX0_readFrom 107 = .ok (.iconst 5, 1) := by decide +kernel
theorem dX0_readFrom_108 : decode cX0_readFrom 108 = .ok (.iastore, 1) := by decide +kernel
theorem dX0_readFrom_109 : decode cX0_readFrom 109 = .ok (.iinc 2 1, 3) := by decide +kernel
theorem dX0_readFrom_112 : decode cX0_readFrom 112 = .ok (.goto (-38), 3) := by decide +kernel
theorem dX0_readFrom_115 : decode cX0_readFrom 115 = .ok (.return_, 1) := by decide +kernel
theorem dX0_warmthOn_0 : decode cX0_warmthOn 0 = .ok (.aload_n 0, 1) := by decide +kernel
theorem dX0_warmthOn_1 : decode cX0_warmthOn 1 = .ok (.getfield 9, 3) := by decide +kernel
theorem dX0_warmthOn_4 : decode cX0_warmthOn 4 = .ok (.iload_n 1, 1) := by decide +kernel
theorem dX0_warmthOn_5 : decode cX0_warmthOn 5 = .ok (.iconst 5, 1) := by decide +kernel
theorem dX0_warmthOn_6 : decode cX0_warmthOn 6 = .ok (.invokestatic 37, 3) := by decide +kernel
theorem dX0_warmthOn_9 : decode cX0_warmthOn 9 = .ok (.ireturn, 1) := by decide +kernel
theorem dX1_init_0 : decode cX1_init 0 = .ok (.aload_n 0, 1) := by decide +kernel
theorem dX1_init_1 : decode cX1_init 1 = .ok (.invokespecial 3, 3) := by decide +kernel
theorem dX1_init_4 : decode cX1_init 4 = .ok (.aload_n 0, 1) := by decide +kernel
theorem dX1_init_5 : decode cX1_init 5 = .ok (.new 9, 3) := by decide +kernel
theorem dX1_init_8 : decode cX1_init 8 = .ok (.dup, 1) := by decide +kernel
theorem dX1_init_9 : decode cX1_init 9 = .ok (.bipush 71, 2) := by decide +kernel
theorem dX1_init_11 : decode cX1_init 11 = .ok (.invokespecial 11, 3) := by decide +kernel
theorem dX1_init_14 : decode cX1_init 14 = .ok (.putfield 14, 3) := by decide +kernel
theorem dX1_init_17 : decode cX1_init 17 = .ok (.aload_n 0, 1) := by decide +kernel
theorem dX1_init_18 : decode cX1_init 18 = .ok (.new 9, 3) := by decide +kernel
theorem dX1_init_21 : decode cX1_init 21 = .ok (.dup, 1) := by decide +kernel
theorem dX1_init_22 : decode cX1_init 22 = .ok (.bipush 30, 2) := by decide +kernel
theorem dX1_init_24 : decode cX1_init 24 = .ok (.invokespecial 11, 3) := by decide +kernel
theorem dX1_init_27 : decode cX1_init 27 = .ok (.putfield 20, 3) := by decide +kernel
theorem dX1_init_30 : decode cX1_init 30 = .ok (.aload_n 0, 1) := by decide +kernel
theorem dX1_init_31 : decode cX1_init 31 = .ok (.new 23, 3) := by decide +kernel
theorem dX1_init_34 : decode cX1_init 34 = .ok (.dup, 1) := by decide +kernel
theorem dX1_init_35 : decode cX1_init 35 = .ok (.invokespecial 25, 3) := by decide +kernel
theorem dX1_init_38 : decode cX1_init 38 = .ok (.putfield 26, 3) := by decide +kernel
theorem dX1_init_41 : decode cX1_init 41 = .ok (.aload_n 0, 1) := by decide +kernel
theorem dX1_init_42 : decode cX1_init 42 = .ok (.new 30, 3) := by decide +kernel
theorem dX1_init_45 : decode cX1_init 45 = .ok (.dup, 1) := by decide +kernel
theorem dX1_init_46 : decode cX1_init 46 = .ok (.invokespecial 32, 3) := by decide +kernel
theorem dX1_init_49 : decode cX1_init 49 = .ok (.putfield 33, 3) := by decide +kernel
theorem dX1_init_52 : decode cX1_init 52 = .ok (.aload_n 0, 1) := by decide +kernel
theorem dX1_init_53 : decode cX1_init 53 = .ok (.new 37, 3) := by decide +kernel
theorem dX1_init_56 : decode cX1_init 56 = .ok (.dup, 1) := by decide +kernel
theorem dX1_init_57 : decode cX1_init 57 = .ok (.bipush 8, 2) := by decide +kernel
theorem dX1_init_59 : decode cX1_init 59 = .ok (.invokespecial 39, 3) := by decide +kernel
theorem dX1_init_62 : decode cX1_init 62 = .ok (.putfield 40, 3) := by decide +kernel
theorem dX1_init_65 : decode cX1_init 65 = .ok (.aload_n 0, 1) := by decide +kernel
theorem dX1_init_66 : decode cX1_init 66 = .ok (.new 37, 3) := by decide +kernel
theorem dX1_init_69 : decode cX1_init 69 = .ok (.dup, 1) := by decide +kernel
theorem dX1_init_70 : decode cX1_init 70 = .ok (.iconst 4, 1) := by decide +kernel
theorem dX1_init_71 : decode cX1_init 71 = .ok (.invokespecial 39, 3) := by decide +kernel
theorem dX1_init_74 : decode cX1_init 74 = .ok (.putfield 44, 3) := by decide +kernel
theorem dX1_init_77 : decode cX1_init 77 = .ok (.aload_n 0, 1) := by decide +kernel
theorem dX1_init_78 : decode cX1_init 78 = .ok (.new 37, 3) := by decide +kernel
theorem dX1_init_81 : decode cX1_init 81 = .ok (.dup, 1) := by decide +kernel
theorem dX1_init_82 : decode cX1_init 82 = .ok (.bipush 8, 2) := by decide +kernel
theorem dX1_init_84 : decode cX1_init 84 = .ok (.invokespecial 39, 3) := by decide +kernel
theorem dX1_init_87 : decode cX1_init 87 = .ok (.putfield 47, 3) := by decide +kernel
theorem dX1_init_90 : decode cX1_init 90 = .ok (.aload_n 0, 1) := by decide +kernel
theorem dX1_init_91 : decode cX1_init 91 = .ok (.new 50, 3) := by decide +kernel
theorem dX1_init_94 : decode cX1_init 94 = .ok (.dup, 1) := by decide +kernel
theorem dX1_init_95 : decode cX1_init 95 = .ok (.invokespecial 52, 3) := by decide +kernel
theorem dX1_init_98 : decode cX1_init 98 = .ok (.putfield 53, 3) := by decide +kernel
theorem dX1_init_101 : decode cX1_init 101 = .ok (.aload_n 0, 1) := by decide +kernel
theorem dX1_init_102 : decode cX1_init 102 = .ok (.bipush 8, 2) := by decide +kernel
theorem dX1_init_104 : decode cX1_init 104 = .ok (.putfield 57, 3) := by decide +kernel
theorem dX1_init_107 : decode cX1_init 107 = .ok (.aload_n 0, 1) := by decide +kernel
theorem dX1_init_108 : decode cX1_init 108 = .ok (.bipush 7, 2) := by decide +kernel
theorem dX1_init_110 : decode cX1_init 110 = .ok (.putfield 61, 3) := by decide +kernel
theorem dX1_init_113 : decode cX1_init 113 = .ok (.return_, 1) := by decide +kernel
theorem dX1_textOf_0 : decode cX1_textOf 0 = .ok (.iload_n 1, 1) := by decide +kernel
theorem dX1_textOf_1 : decode cX1_textOf 1 = .ok (.ifCond .ne 10, 3) := by decide +kernel
theorem dX1_textOf_4 : decode cX1_textOf 4 = .ok (.aload_n 0, 1) := by decide +kernel
theorem dX1_textOf_5 : decode cX1_textOf 5 = .ok (.getfield 14, 3) := by decide +kernel
theorem dX1_textOf_8 : decode cX1_textOf 8 = .ok (.goto 7, 3) := by decide +kernel
theorem dX1_textOf_11 : decode cX1_textOf 11 = .ok (.aload_n 0, 1) := by decide +kernel
theorem dX1_textOf_12 : decode cX1_textOf 12 = .ok (.getfield 20, 3) := by decide +kernel
theorem dX1_textOf_15 : decode cX1_textOf 15 = .ok (.areturn, 1) := by decide +kernel
theorem dX1_readAnew_0 : decode cX1_readAnew 0 = .ok (.iload_n 1, 1) := by decide +kernel
theorem dX1_readAnew_1 : decode cX1_readAnew 1 = .ok (.ifCond .ne 17, 3) := by decide +kernel
theorem dX1_readAnew_4 : decode cX1_readAnew 4 = .ok (.aload_n 0, 1) := by decide +kernel
theorem dX1_readAnew_5 : decode cX1_readAnew 5 = .ok (.getfield 26, 3) := by decide +kernel
theorem dX1_readAnew_8 : decode cX1_readAnew 8 = .ok (.aload_n 0, 1) := by decide +kernel
theorem dX1_readAnew_9 : decode cX1_readAnew 9 = .ok (.getfield 14, 3) := by decide +kernel
theorem dX1_readAnew_12 : decode cX1_readAnew 12 = .ok (.invokevirtual 64, 3) := by decide +kernel
theorem dX1_readAnew_15 : decode cX1_readAnew 15 = .ok (.goto 14, 3) := by decide +kernel
theorem dX1_readAnew_18 : decode cX1_readAnew 18 = .ok (.aload_n 0, 1) := by decide +kernel
theorem dX1_readAnew_19 : decode cX1_readAnew 19 = .ok (.getfield 33, 3) := by decide +kernel
theorem dX1_readAnew_22 : decode cX1_readAnew 22 = .ok (.aload_n 0, 1) := by decide +kernel
theorem dX1_readAnew_23 : decode cX1_readAnew 23 = .ok (.getfield 20, 3) := by decide +kernel
theorem dX1_readAnew_26 : decode cX1_readAnew 26 = .ok (.invokevirtual 68, 3) := by decide +kernel
theorem dX1_readAnew_29 : decode cX1_readAnew 29 = .ok (.return_, 1) := by decide +kernel
theorem dX1_has_0 : decode cX1_has 0 = .ok (.iload_n 1, 1) := by decide +kernel
theorem dX1_has_1 : decode cX1_has 1 = .ok (.ifCond .lt 18, 3) := by decide +kernel
theorem dX1_has_4 : decode cX1_has 4 = .ok (.iload_n 1, 1) := by decide +kernel
theorem dX1_has_5 : decode cX1_has 5 = .ok (.aload_n 0, 1) := by decide +kernel
theorem dX1_has_6 : decode cX1_has 6 = .ok (.getfield 26, 3) := by decide +kernel
theorem dX1_has_9 : decode cX1_has 9 = .ok (.getfield 69, 3) := by decide +kernel
theorem dX1_has_12 : decode cX1_has 12 = .ok (.if_icmp .ge 7, 3) := by decide +kernel
theorem dX1_has_15 : decode cX1_has 15 = .ok (.iconst 1, 1) := by decide +kernel
theorem dX1_has_16 : decode cX1_has 16 = .ok (.goto 4, 3) := by decide +kernel
theorem dX1_has_19 : decode cX1_has 19 = .ok (.iconst 0, 1) := by decide +kernel
theorem dX1_has_20 : decode cX1_has 20 = .ok (.ireturn, 1) := by decide +kernel
theorem dX1_begin_0 : decode cX1_begin 0 = .ok (.aload_n 0, 1) := by decide +kernel
theorem dX1_begin_1 : decode cX1_begin 1 = .ok (.getfield 53, 3) := by decide +kernel
theorem dX1_begin_4 : decode cX1_begin 4 = .ok (.aload_n 0, 1) := by decide +kernel
theorem dX1_begin_5 : decode cX1_begin 5 = .ok (.getfield 26, 3) := by decide +kernel
theorem dX1_begin_8 : decode cX1_begin 8 = .ok (.iload_n 1, 1) := by decide +kernel
theorem dX1_begin_9 : decode cX1_begin 9 = .ok (.invokevirtual 72, 3) := by decide +kernel
theorem dX1_begin_12 : decode cX1_begin 12 = .ok (.putfield 76, 3) := by decide +kernel
theorem dX1_begin_15 : decode cX1_begin 15 = .ok (.aload_n 0, 1) := by decide +kernel
theorem dX1_begin_16 : decode cX1_begin 16 = .ok (.getfield 53, 3) := by decide +kernel
theorem dX1_begin_19 : decode cX1_begin 19 = .ok (.aload_n 0, 1) := by decide +kernel
theorem dX1_begin_20 : decode cX1_begin 20 = .ok (.getfield 26, 3) := by decide +kernel
theorem dX1_begin_23 : decode cX1_begin 23 = .ok (.iload_n 1, 1) := by decide +kernel
theorem dX1_begin_24 : decode cX1_begin 24 = .ok (.invokevirtual 79, 3) := by decide +kernel
theorem dX1_begin_27 : decode cX1_begin 27 = .ok (.putfield 82, 3) := by decide +kernel
theorem dX1_begin_30 : decode cX1_begin 30 = .ok (.aload_n 0, 1) := by decide +kernel
theorem dX1_begin_31 : decode cX1_begin 31 = .ok (.getfield 53, 3) := by decide +kernel
theorem dX1_begin_34 : decode cX1_begin 34 = .ok (.aload_n 0, 1) := by decide +kernel
theorem dX1_begin_35 : decode cX1_begin 35 = .ok (.getfield 26, 3) := by decide +kernel
theorem dX1_begin_38 : decode cX1_begin 38 = .ok (.iload_n 1, 1) := by decide +kernel
theorem dX1_begin_39 : decode cX1_begin 39 = .ok (.invokevirtual 85, 3) := by decide +kernel
theorem dX1_begin_42 : decode cX1_begin 42 = .ok (.putfield 88, 3) := by decide +kernel
theorem dX1_begin_45 : decode cX1_begin 45 = .ok (.iconst 0, 1) := by decide +kernel
theorem dX1_begin_46 : decode cX1_begin 46 = .ok (.istore_n 2, 1) := by decide +kernel
theorem dX1_begin_47 : decode cX1_begin 47 = .ok (.iload_n 2, 1) := by decide +kernel
theorem dX1_begin_48 : decode cX1_begin 48 = .ok (.iconst 5, 1) := by decide +kernel
theorem dX1_begin_49 : decode cX1_begin 49 = .ok (.if_icmp .ge 41, 3) := by decide +kernel
theorem dX1_begin_52 : decode cX1_begin 52 = .ok (.aload_n 0, 1) := by decide +kernel
theorem dX1_begin_53 : decode cX1_begin 53 = .ok (.getfield 26, 3) := by decide +kernel
theorem dX1_begin_56 : decode cX1_begin 56 = .ok (.iload_n 1, 1) := by decide +kernel
theorem dX1_begin_57 : decode cX1_begin 57 = .ok (.iload_n 2, 1) := by decide +kernel
theorem dX1_begin_58 : decode cX1_begin 58 = .ok (.invokevirtual 91, 3) := by decide +kernel
theorem dX1_begin_61 : decode cX1_begin 61 = .ok (.istore_n 3, 1) := by decide +kernel
theorem dX1_begin_62 : decode cX1_begin 62 = .ok (.aload_n 0, 1) := by decide +kernel
theorem dX1_begin_63 : decode cX1_begin 63 = .ok (.getfield 53, 3) := by decide +kernel
theorem dX1_begin_66 : decode cX1_begin 66 = .ok (.iload_n 2, 1) := by decide +kernel
theorem dX1_begin_67 : decode cX1_begin 67 = .ok (.iload_n 3, 1) := by decide +kernel
theorem dX1_begin_68 : decode cX1_begin 68 = .ok (.iload_n 3, 1) := by decide +kernel
theorem dX1_begin_69 : decode cX1_begin 69 = .ok (.aload_n 0, 1) := by decide +kernel
theorem dX1_begin_70 : decode cX1_begin 70 = .ok (.getfield 61, 3) := by decide +kernel
theorem dX1_begin_73 : decode cX1_begin 73 = .ok (.if_icmp .lt 7, 3) := by decide +kernel
theorem dX1_begin_76 : decode cX1_begin 76 = .ok (.iconst 1, 1) := by decide +kernel
theorem dX1_begin_77 : decode cX1_begin 77 = .ok (.goto 4, 3) := by decide +kernel
theorem dX1_begin_80 : decode cX1_begin 80 = .ok (.iconst 0, 1) := by decide +kernel
theorem dX1_begin_81 : decode cX1_begin 81 = .ok (.invokevirtual 95, 3) := by decide +kernel
theorem dX1_begin_84 : decode cX1_begin 84 = .ok (.iinc 2 1, 3) := by decide +kernel
theorem dX1_begin_87 : decode cX1_begin 87 = .ok (.goto (-40), 3) := by decide +kernel
theorem dX1_begin_90 : decode cX1_begin 90 = .ok (.aload_n 0, 1) := by decide +kernel
theorem dX1_begin_91 : decode cX1_begin 91 = .ok (.getfield 33, 3) := by decide +kernel
theorem dX1_begin_94 : decode cX1_begin 94 = .ok (.getfield 99, 3) := by decide +kernel
theorem dX1_begin_97 : decode cX1_begin 97 = .ok (.iconst 0, 1) := by decide +kernel
theorem dX1_begin_98 : decode cX1_begin 98 = .ok (.aload_n 0, 1) := by decide +kernel
theorem dX1_begin_99 : decode cX1_begin 99 = .ok (.getfield 53, 3) := by decide +kernel
theorem dX1_begin_102 : decode cX1_begin 102 = .ok (.getfield 103, 3) := by decide +kernel
theorem dX1_begin_105 : decode cX1_begin 105 = .ok (.iconst 0, 1) := by decide +kernel
theorem dX1_begin_106 : decode cX1_begin 106 = .ok (.bipush 30, 2) := by decide +kernel
theorem dX1_begin_108 : decode cX1_begin 108 = .ok (.invokestatic 104, 3) := by decide +kernel
theorem dX1_begin_111 : decode cX1_begin 111 = .ok (.aload_n 0, 1) := by decide +kernel
theorem dX1_begin_112 : decode cX1_begin 112 = .ok (.getfield 53, 3) := by decide +kernel
theorem dX1_begin_115 : decode cX1_begin 115 = .ok (.aload_n 0, 1) := by decide +kernel
theorem dX1_begin_116 : decode cX1_begin 116 = .ok (.getfield 40, 3) := by decide +kernel
theorem dX1_begin_119 : decode cX1_begin 119 = .ok (.iload_n 1, 1) := by decide +kernel
theorem dX1_begin_120 : decode cX1_begin 120 = .ok (.iconst (-1), 1) := by decide +kernel
theorem dX1_begin_121 : decode cX1_begin 121 = .ok (.invokevirtual 110, 3) := by decide +kernel
theorem dX1_begin_124 : decode cX1_begin 124 = .ok (.putfield 113, 3) := by decide +kernel
theorem dX1_begin_127 : decode cX1_begin 127 = .ok (.aload_n 0, 1) := by decide +kernel
theorem dX1_begin_128 : decode cX1_begin 128 = .ok (.getfield 53, 3) := by decide +kernel
theorem dX1_begin_131 : decode cX1_begin 131 = .ok (.aload_n 0, 1) := by decide +kernel
theorem dX1_begin_132 : decode cX1_begin 132 = .ok (.getfield 44, 3) := by decide +kernel
theorem dX1_begin_135 : decode cX1_begin 135 = .ok (.iload_n 1, 1) := by decide +kernel
theorem dX1_begin_136 : decode cX1_begin 136 = .ok (.iconst (-1), 1) := by decide +kernel
theorem dX1_begin_137 : decode cX1_begin 137 = .ok (.invokevirtual 110, 3) := by decide +kernel
theorem dX1_begin_140 : decode cX1_begin 140 = .ok (.putfield 116, 3) := by decide +kernel
theorem dX1_begin_143 : decode cX1_begin 143 = .ok (.aload_n 0, 1) := by decide +kernel
theorem dX1_begin_144 : decode cX1_begin 144 = .ok (.getfield 53, 3) := by decide +kernel
theorem dX1_begin_147 : decode cX1_begin 147 = .ok (.aload_n 0, 1) := by decide +kernel
theorem dX1_begin_148 : decode cX1_begin 148 = .ok (.getfield 57, 3) := by decide +kernel
theorem dX1_begin_151 : decode cX1_begin 151 = .ok (.putfield 119, 3) := by decide +kernel
theorem dX1_begin_154 : decode cX1_begin 154 = .ok (.aload_n 0, 1) := by decide +kernel
theorem dX1_begin_155 : decode cX1_begin 155 = .ok (.getfield 53, 3) := by decide +kernel
theorem dX1_begin_158 : decode cX1_begin 158 = .ok (.areturn, 1) := by decide +kernel
theorem dX2_init_0 : decode cX2_init 0 = .ok (.aload_n 0, 1) := by decide +kernel
theorem dX2_init_1 : decode cX2_init 1 = .ok (.invokespecial 3, 3) := by decide +kernel
theorem dX2_init_4 : decode cX2_init 4 = .ok (.aload_n 0, 1) := by decide +kernel
theorem dX2_init_5 : decode cX2_init 5 = .ok (.bipush 100, 2) := by decide +kernel
theorem dX2_init_7 : decode cX2_init 7 = .ok (.newarray .long, 2) := by decide +kernel
theorem dX2_init_9 : decode cX2_init 9 = .ok (.putfield 9, 3) := by decide +kernel
theorem dX2_init_12 : decode cX2_init 12 = .ok (.aload_n 0, 1) := by decide +kernel
theorem dX2_init_13 : decode cX2_init 13 = .ok (.bipush 100, 2) := by decide +kernel
theorem dX2_init_15 : decode cX2_init 15 = .ok (.newarray .long, 2) := by decide +kernel
theorem dX2_init_17 : decode cX2_init 17 = .ok (.putfield 15, 3) := by decide +kernel
theorem dX2_init_20 : decode cX2_init 20 = .ok (.aload_n 0, 1) := by decide +kernel
theorem dX2_init_21 : decode cX2_init 21 = .ok (.aload_n 1, 1) := by decide +kernel
theorem dX2_init_22 : decode cX2_init 22 = .ok (.putfield 18, 3) := by decide +kernel
theorem dX2_init_25 : decode cX2_init 25 = .ok (.return_, 1) := by decide +kernel
theorem dX2_findFrost_0 : decode cX2_findFrost 0 = .ok (.aload_n 0, 1) := by decide +kernel
theorem dX2_findFrost_1 : decode cX2_findFrost 1 = .ok (.getfield 18, 3) := by decide +kernel
theorem dX2_findFrost_4 : decode cX2_findFrost 4 = .ok (.iload_n 3, 1) := by decide +kernel
theorem dX2_findFrost_5 : decode cX2_findFrost 5 = .ok (.invokevirtual 22, 3) := by decide +kernel
theorem dX2_findFrost_8 : decode cX2_findFrost 8 = .ok (.astore 5, 2) := by decide +kernel
theorem dX2_findFrost_10 : decode cX2_findFrost 10 = .ok (.aload_n 0, 1) := by decide +kernel
theorem dX2_findFrost_11 : decode cX2_findFrost 11 = .ok (.lconst 0, 1) := by decide +kernel
theorem dX2_findFrost_12 : decode cX2_findFrost 12 = .ok (.putfield 28, 3) := by decide +kernel
theorem dX2_findFrost_15 : decode cX2_findFrost 15 = .ok (.aload_n 0, 1) := by decide +kernel
theorem dX2_findFrost_16 : decode cX2_findFrost 16 = .ok (.lconst 1, 1) := by decide +kernel
theorem dX2_findFrost_17 : decode cX2_findFrost 17 = .ok (.putfield 32, 3) := by decide +kernel
theorem dX2_findFrost_20 : decode cX2_findFrost 20 = .ok (.iload 4, 2) := by decide +kernel
theorem dX2_findFrost_22 : decode cX2_findFrost 22 = .ok (.aload 5, 2) := by decide +kernel
theorem dX2_findFrost_24 : decode cX2_findFrost 24 = .ok (.getfield 35, 3) := by decide +kernel
theorem dX2_findFrost_27 : decode cX2_findFrost 27 = .ok (.if_icmp .ge 4, 3) := by decide +kernel
theorem dX2_findFrost_30 : decode cX2_findFrost 30 = .ok (.return_, 1) := by decide +kernel
theorem dX2_findFrost_31 : decode cX2_findFrost 31 = .ok (.aload_n 0, 1) := by decide +kernel
theorem dX2_findFrost_32 : decode cX2_findFrost 32 = .ok (.getfield 9, 3) := by decide +kernel
theorem dX2_findFrost_35 : decode cX2_findFrost 35 = .ok (.lconst 0, 1) := by decide +kernel
theorem dX2_findFrost_36 : decode cX2_findFrost 36 = .ok (.invokestatic 41, 3) := by decide +kernel
theorem dX2_findFrost_39 : decode cX2_findFrost 39 = .ok (.aload_n 0, 1) := by decide +kernel
theorem dX2_findFrost_40 : decode cX2_findFrost 40 = .ok (.getfield 9, 3) := by decide +kernel
theorem dX2_findFrost_43 : decode cX2_findFrost 43 = .ok (.iconst 0, 1) := by decide +kernel
theorem dX2_findFrost_44 : decode cX2_findFrost 44 = .ok (.lconst 1, 1) := by decide +kernel
theorem dX2_findFrost_45 : decode cX2_findFrost 45 = .ok (.lastore, 1) := by decide +kernel
theorem dX2_findFrost_46 : decode cX2_findFrost 46 = .ok (.aload 5, 2) := by decide +kernel
theorem dX2_findFrost_48 : decode cX2_findFrost 48 = .ok (.getfield 35, 3) := by decide +kernel
theorem dX2_findFrost_51 : decode cX2_findFrost 51 = .ok (.istore 6, 2) := by decide +kernel
theorem dX2_findFrost_53 : decode cX2_findFrost 53 = .ok (.iload 6, 2) := by decide +kernel
theorem dX2_findFrost_55 : decode cX2_findFrost 55 = .ok (.iload 4, 2) := by decide +kernel
theorem dX2_findFrost_57 : decode cX2_findFrost 57 = .ok (.if_icmp .gt 85, 3) := by decide +kernel
theorem dX2_findFrost_60 : decode cX2_findFrost 60 = .ok (.iload 6, 2) := by decide +kernel
theorem dX2_findFrost_62 : decode cX2_findFrost 62 = .ok (.iload_n 2, 1) := by decide +kernel
theorem dX2_findFrost_63 : decode cX2_findFrost 63 = .ok (.if_icmp .gt 7, 3) := by decide +kernel
theorem dX2_findFrost_66 : decode cX2_findFrost 66 = .ok (.iconst 1, 1) := by decide +kernel
theorem dX2_findFrost_67 : decode cX2_findFrost 67 = .ok (.goto 4, 3) := by decide +kernel
theorem dX2_findFrost_70 : decode cX2_findFrost 70 = .ok (.iconst 0, 1) := by decide +kernel
theorem dX2_findFrost_71 : decode cX2_findFrost 71 = .ok (.istore 7, 2) := by decide +kernel
theorem dX2_findFrost_73 : decode cX2_findFrost 73 = .ok (.aload_n 0, 1) := by decide +kernel
theorem dX2_findFrost_74 : decode cX2_findFrost 74 = .ok (.aload 5, 2) := by decide +kernel
theorem dX2_findFrost_76 : decode cX2_findFrost 76 = .ok (.iload 6, 2) := by decide +kernel
theorem dX2_findFrost_78 : decode cX2_findFrost 78 = .ok (.iload 7, 2) := by decide +kernel
theorem dX2_findFrost_80 : decode cX2_findFrost 80 = .ok (.ifCond .eq 7, 3) := by decide +kernel
theorem dX2_findFrost_83 : decode cX2_findFrost 83 = .ok (.iload_n 1, 1) := by decide +kernel
theorem dX2_findFrost_84 : decode cX2_findFrost 84 = .ok (.goto 4, 3) := by decide +kernel
theorem dX2_findFrost_87 : decode cX2_findFrost 87 = .ok (.iconst 0, 1) := by decide +kernel
theorem dX2_findFrost_88 : decode cX2_findFrost 88 = .ok (.iload 7, 2) := by decide +kernel
theorem dX2_findFrost_90 : decode cX2_findFrost 90 = .ok (.ifCond .eq 8, 3) := by decide +kernel
theorem dX2_findFrost_93 : decode cX2_findFrost 93 = .ok (.bipush 16, 2) := by decide +kernel
theorem dX2_findFrost_95 : decode cX2_findFrost 95 = .ok (.goto 4, 3) := by decide +kernel
theorem dX2_findFrost_98 : decode cX2_findFrost 98 = .ok (.iconst 1, 1) := by decide +kernel
theorem dX2_findFrost_99 : decode cX2_findFrost 99 = .ok (.invokevirtual 47, 3) := by decide +kernel
theorem dX2_findFrost_102 : decode cX2_findFrost 102 = .ok (.aload_n 0, 1) := by decide +kernel
theorem dX2_findFrost_103 : decode cX2_findFrost 103 = .ok (.dup, 1) := by decide +kernel
theorem dX2_findFrost_104 : decode cX2_findFrost 104 = .ok (.getfield 32, 3) := by decide +kernel
theorem dX2_findFrost_107 : decode cX2_findFrost 107 = .ok (.iload 7, 2) := by decide +kernel
theorem dX2_findFrost_109 : decode cX2_findFrost 109 = .ok (.ifCond .eq 9, 3) := by decide +kernel
theorem dX2_findFrost_112 : decode cX2_findFrost 112 = .ok (.ldc2_w 51, 3) := by decide +kernel
theorem dX2_findFrost_115 : decode cX2_findFrost 115 = .ok (.goto 4, 3) := by decide +kernel
theorem dX2_findFrost_118 : decode cX2_findFrost 118 = .ok (.lconst 1, 1) := by decide +kernel
theorem dX2_findFrost_119 : decode cX2_findFrost 119 = .ok (.lmul, 1) := by decide +kernel
theorem dX2_findFrost_120 : decode cX2_findFrost 120 = .ok (.putfield 32, 3) := by decide +kernel
theorem dX2_findFrost_123 : decode cX2_findFrost 123 = .ok (.iload 6, 2) := by decide +kernel
theorem dX2_findFrost_125 : decode cX2_findFrost 125 = .ok (.iload 4, 2) := by decide +kernel
theorem dX2_findFrost_127 : decode cX2_findFrost 127 = .ok (.if_icmp .ge 9, 3) := by decide +kernel
theorem dX2_findFrost_130 : decode cX2_findFrost 130 = .ok (.aload_n 0, 1) := by decide +kernel
theorem dX2_findFrost_131 : decode cX2_findFrost 131 = .ok (.aload 5, 2) := by decide +kernel
theorem dX2_findFrost_133 : decode cX2_findFrost 133 = .ok (.invokevirtual 53, 3) := by decide +kernel
theorem dX2_findFrost_136 : decode cX2_findFrost 136 = .ok (.iinc 6 1, 3) := by decide +kernel
theorem dX2_findFrost_139 : decode cX2_findFrost 139 = .ok (.goto (-86), 3) := by decide +kernel
theorem dX2_findFrost_142 : decode cX2_findFrost 142 = .ok (.iconst 0, 1) := by decide +kernel
theorem dX2_findFrost_143 : decode cX2_findFrost 143 = .ok (.istore 6, 2) := by decide +kernel
theorem dX2_findFrost_145 : decode cX2_findFrost 145 = .ok (.iload 6, 2) := by decide +kernel
theorem dX2_findFrost_147 : decode cX2_findFrost 147 = .ok (.aload_n 0, 1) := by decide +kernel
theorem dX2_findFrost_148 : decode cX2_findFrost 148 = .ok (.getfield 9, 3) := by decide +kernel
theorem dX2_findFrost_151 : decode cX2_findFrost 151 = .ok (.arraylength, 1) := by decide +kernel
theorem dX2_findFrost_152 : decode cX2_findFrost 152 = .ok (.if_icmp .ge 25, 3) := by decide +kernel
theorem dX2_findFrost_155 : decode cX2_findFrost 155 = .ok (.aload_n 0, 1) := by decide +kernel
theorem dX2_findFrost_156 : decode cX2_findFrost 156 = .ok (.dup, 1) := by decide +kernel
theorem dX2_findFrost_157 : decode cX2_findFrost 157 = .ok (.getfield 28, 3) := by decide +kernel
theorem dX2_findFrost_160 : decode cX2_findFrost 160 = .ok (.aload_n 0, 1) := by decide +kernel
theorem dX2_findFrost_161 : decode cX2_findFrost 161 = .ok (.getfield 9, 3) := by decide +kernel
theorem dX2_findFrost_164 : decode cX2_findFrost 164 = .ok (.iload 6, 2) := by decide +kernel
theorem dX2_findFrost_166 : decode cX2_findFrost 166 = .ok (.laload, 1) := by decide +kernel
theorem dX2_findFrost_167 : decode cX2_findFrost 167 = .ok (.ladd, 1) := by decide +kernel
theorem dX2_findFrost_168 : decode cX2_findFrost 168 = .ok (.putfield 28, 3) := by decide +kernel
theorem dX2_findFrost_171 : decode cX2_findFrost 171 = .ok (.iinc 6 1, 3) := by decide +kernel
theorem dX2_findFrost_174 : decode cX2_findFrost 174 = .ok (.goto (-29), 3) := by decide +kernel
theorem dX2_findFrost_177 : decode cX2_findFrost 177 = .ok (.aload_n 0, 1) := by decide +kernel
theorem dX2_findFrost_178 : decode cX2_findFrost 178 = .ok (.invokevirtual 57, 3) := by decide +kernel
theorem dX2_findFrost_181 : decode cX2_findFrost 181 = .ok (.return_, 1) := by decide +kernel
theorem dX2_weighNight_0 : decode cX2_weighNight 0 = .ok (.aload_n 0, 1) := by decide +kernel
theorem dX2_weighNight_1 : decode cX2_weighNight 1 = .ok (.getfield 15, 3) := by decide +kernel
theorem dX2_weighNight_4 : decode cX2_weighNight 4 = .ok (.lconst 0, 1) := by decide +kernel
theorem dX2_weighNight_5 : decode cX2_weighNight 5 = .ok (.invokestatic 41, 3) := by decide +kernel
theorem dX2_weighNight_8 : decode cX2_weighNight 8 = .ok (.aload_n 1, 1) := by decide +kernel
theorem dX2_weighNight_9 : decode cX2_weighNight 9 = .ok (.iload_n 2, 1) := by decide +kernel
theorem dX2_weighNight_10 : decode cX2_weighNight 10 = .ok (.iconst 0, 1) := by decide +kernel
theorem dX2_weighNight_11 : decode cX2_weighNight 11 = .ok (.invokevirtual 60, 3) := by decide +kernel
theorem dX2_weighNight_14 : decode cX2_weighNight 14 = .ok (.istore 5, 2) := by decide +kernel
theorem dX2_weighNight_16 : decode cX2_weighNight 16 = .ok (.aload_n 1, 1) := by decide +kernel
theorem dX2_weighNight_17 : decode cX2_weighNight 17 = .ok (.iload_n 2, 1) := by decide +kernel
theorem dX2_weighNight_18 : decode cX2_weighNight 18 = .ok (.aload_n 1, 1) := by decide +kernel
theorem dX2_weighNight_19 : decode cX2_weighNight 19 = .ok (.iload_n 2, 1) := by decide +kernel
theorem dX2_weighNight_20 : decode cX2_weighNight 20 = .ok (.invokevirtual 64, 3) := by decide +kernel
theorem dX2_weighNight_23 : decode cX2_weighNight 23 = .ok (.invokevirtual 60, 3) := by decide +kernel
theorem dX2_weighNight_26 : decode cX2_weighNight 26 = .ok (.istore 6, 2) := by decide +kernel
theorem dX2_weighNight_28 : decode cX2_weighNight 28 = .ok (.iconst 0, 1) := by decide +kernel
theorem dX2_weighNight_29 : decode cX2_weighNight 29 = .ok (.istore 7, 2) := by decide +kernel
theorem dX2_weighNight_31 : decode cX2_weighNight 31 = .ok (.iload 7, 2) := by decide +kernel
theorem dX2_weighNight_33 : decode cX2_weighNight 33 = .ok (.aload_n 0, 1) := by decide +kernel
theorem dX2_weighNight_34 : decode cX2_weighNight 34 = .ok (.getfield 9, 3) := by decide +kernel
theorem dX2_weighNight_37 : decode cX2_weighNight 37 = .ok (.arraylength, 1) := by decide +kernel
theorem dX2_weighNight_38 : decode cX2_weighNight 38 = .ok (.if_icmp .ge 64, 3) := by decide +kernel
theorem dX2_weighNight_41 : decode cX2_weighNight 41 = .ok (.aload_n 0, 1) := by decide +kernel
theorem dX2_weighNight_42 : decode cX2_weighNight 42 = .ok (.getfield 9, 3) := by decide +kernel
theorem dX2_weighNight_45 : decode cX2_weighNight 45 = .ok (.iload 7, 2) := by decide +kernel
theorem dX2_weighNight_47 : decode cX2_weighNight 47 = .ok (.laload, 1) := by decide +kernel
theorem dX2_weighNight_48 : decode cX2_weighNight 48 = .ok (.lconst 0, 1) := by decide +kernel
theorem dX2_weighNight_49 : decode cX2_weighNight 49 = .ok (.lcmp, 1) := by decide +kernel
theorem dX2_weighNight_50 : decode cX2_weighNight 50 = .ok (.ifCond .eq 46, 3) := by decide +kernel
theorem dX2_weighNight_53 : decode cX2_weighNight 53 = .ok (.aload_n 0, 1) := by decide +kernel
theorem dX2_weighNight_54 : decode cX2_weighNight 54 = .ok (.aload_n 1, 1) := by decide +kernel
theorem dX2_weighNight_55 : decode cX2_weighNight 55 = .ok (.iload 7, 2) := by decide +kernel
theorem dX2_weighNight_57 : decode cX2_weighNight 57 = .ok (.iload 5, 2) := by decide +kernel
theorem dX2_weighNight_59 : decode cX2_weighNight 59 = .ok (.iadd, 1) := by decide +kernel
theorem dX2_weighNight_60 : decode cX2_weighNight 60 = .ok (.aload_n 0, 1) := by decide +kernel
theorem dX2_weighNight_61 : decode cX2_weighNight 61 = .ok (.getfield 9, 3) := by decide +kernel
theorem dX2_weighNight_64 : decode cX2_weighNight 64 = .ok (.iload 7, 2) := by decide +kernel
theorem dX2_weighNight_66 : decode cX2_weighNight 66 = .ok (.laload, 1) := by decide +kernel
theorem dX2_weighNight_67 : decode cX2_weighNight 67 = .ok (.iload_n 3, 1) := by decide +kernel
theorem dX2_weighNight_68 : decode cX2_weighNight 68 = .ok (.i2l, 1) := by decide +kernel
theorem dX2_weighNight_69 : decode cX2_weighNight 69 = .ok (.lmul, 1) := by decide +kernel
theorem dX2_weighNight_70 : decode cX2_weighNight 70 = .ok (.invokevirtual 68, 3) := by decide +kernel
theorem dX2_weighNight_73 : decode cX2_weighNight 73 = .ok (.aload_n 0, 1) := by decide +kernel
theorem dX2_weighNight_74 : decode cX2_weighNight 74 = .ok (.aload_n 1, 1) := by decide +kernel
theorem dX2_weighNight_75 : decode cX2_weighNight 75 = .ok (.iload 7, 2) := by decide +kernel
theorem dX2_weighNight_77 : decode cX2_weighNight 77 = .ok (.iload 6, 2) := by decide +kernel
theorem dX2_weighNight_79 : decode cX2_weighNight 79 = .ok (.iadd, 1) := by decide +kernel
theorem dX2_weighNight_80 : decode cX2_weighNight 80 = .ok (.aload_n 0, 1) := by decide +kernel
theorem dX2_weighNight_81 : decode cX2_weighNight 81 = .ok (.getfield 9, 3) := by decide +kernel
theorem dX2_weighNight_84 : decode cX2_weighNight 84 = .ok (.iload 7, 2) := by decide +kernel
theorem dX2_weighNight_86 : decode cX2_weighNight 86 = .ok (.laload, 1) := by decide +kernel
theorem dX2_weighNight_87 : decode cX2_weighNight 87 = .ok (.iload 4, 2) := by decide +kernel
theorem dX2_weighNight_89 : decode cX2_weighNight 89 = .ok (.iload_n 3, 1) := by decide +kernel
theorem dX2_weighNight_90 : decode cX2_weighNight 90 = .ok (.isub, 1) := by decide +kernel
theorem dX2_weighNight_91 : decode cX2_weighNight 91 = .ok (.i2l, 1) := by decide +kernel
theorem dX2_weighNight_92 : decode cX2_weighNight 92 = .ok (.lmul, 1) := by decide +kernel
theorem dX2_weighNight_93 : decode cX2_weighNight 93 = .ok (.invokevirtual 68, 3) := by decide +kernel
theorem dX2_weighNight_96 : decode cX2_weighNight 96 = .ok (.iinc 7 1, 3) := by decide +kernel
theorem dX2_weighNight_99 : decode cX2_weighNight 99 = .ok (.goto (-68), 3) := by decide +kernel
theorem dX2_weighNight_102 : decode cX2_weighNight 102 = .ok (.aload_n 0, 1) := by decide +kernel
theorem dX2_weighNight_103 : decode cX2_weighNight 103 = .ok (.getfield 15, 3) := by decide +kernel
theorem dX2_weighNight_106 : decode cX2_weighNight 106 = .ok (.iconst 0, 1) := by decide +kernel
theorem dX2_weighNight_107 : decode cX2_weighNight 107 = .ok (.aload_n 0, 1) := by decide +kernel
theorem dX2_weighNight_108 : decode cX2_weighNight 108 = .ok (.getfield 9, 3) := by decide +kernel
theorem dX2_weighNight_111 : decode cX2_weighNight 111 = .ok (.iconst 0, 1) := by decide +kernel
theorem dX2_weighNight_112 : decode cX2_weighNight 112 = .ok (.aload_n 0, 1) := by decide +kernel
theorem dX2_weighNight_113 : decode cX2_weighNight 113 = .ok (.getfield 15, 3) := by decide +kernel
theorem dX2_weighNight_116 : decode cX2_weighNight 116 = .ok (.arraylength, 1) := by decide +kernel
theorem dX2_weighNight_117 : decode cX2_weighNight 117 = .ok (.aload_n 0, 1) := by decide +kernel
theorem dX2_weighNight_118 : decode cX2_weighNight 118 = .ok (.getfield 9, 3) := by decide +kernel
theorem dX2_weighNight_121 : decode cX2_weighNight 121 = .ok (.arraylength, 1) := by decide +kernel
theorem dX2_weighNight_122 : decode cX2_weighNight 122 = .ok (.invokestatic 72, 3) := by decide +kernel
theorem dX2_weighNight_125 : decode cX2_weighNight 125 = .ok (.invokestatic 77, 3) := by decide +kernel
theorem dX2_weighNight_128 : decode cX2_weighNight 128 = .ok (.return_, 1) := by decide +kernel
theorem dX2_weigh_0 : decode cX2_weigh 0 = .ok (.aload_n 1, 1) := by decide +kernel
theorem dX2_weigh_1 : decode cX2_weigh 1 = .ok (.iload_n 2, 1) := by decide +kernel
theorem dX2_weigh_2 : decode cX2_weigh 2 = .ok (.invokevirtual 83, 3) := by decide +kernel
theorem dX2_weigh_5 : decode cX2_weigh 5 = .ok (.iconst (-1), 1) := by decide +kernel
theorem dX2_weigh_6 : decode cX2_weigh 6 = .ok (.if_icmp .eq 26, 3) := by decide +kernel
theorem dX2_weigh_9 : decode cX2_weigh 9 = .ok (.iload_n 2, 1) := by decide +kernel
theorem dX2_weigh_10 : decode cX2_weigh 10 = .ok (.ifCond .lt 22, 3) := by decide +kernel
theorem dX2_weigh_13 : decode cX2_weigh 13 = .ok (.iload_n 2, 1) := by decide +kernel
theorem dX2_weigh_14 : decode cX2_weigh 14 = .ok (.aload_n 0, 1) := by decide +kernel
theorem dX2_weigh_15 : decode cX2_weigh 15 = .ok (.getfield 15, 3) := by decide +kernel
theorem dX2_weigh_18 : decode cX2_weigh 18 = .ok (.arraylength, 1) := by decide +kernel
theorem dX2_weigh_19 : decode cX2_weigh 19 = .ok (.if_icmp .ge 13, 3) := by decide +kernel
theorem dX2_weigh_22 : decode cX2_weigh 22 = .ok (.aload_n 0, 1) := by decide +kernel
theorem dX2_weigh_23 : decode cX2_weigh 23 = .ok (.getfield 15, 3) := by decide +kernel
theorem dX2_weigh_26 : decode cX2_weigh 26 = .ok (.iload_n 2, 1) := by decide +kernel
theorem dX2_weigh_27 : decode cX2_weigh 27 = .ok (.dup2, 1) := by decide +kernel
theorem dX2_weigh_28 : decode cX2_weigh 28 = .ok (.laload, 1) := by decide +kernel
theorem dX2_weigh_29 : decode cX2_weigh 29 = .ok (.lload_n 3, 1) := by decide +kernel
theorem dX2_weigh_30 : decode cX2_weigh 30 = .ok (.ladd, 1) := by decide +kernel
theorem dX2_weigh_31 : decode cX2_weigh 31 = .ok (.lastore, 1) := by decide +kernel
theorem dX2_weigh_32 : decode cX2_weigh 32 = .ok (.return_, 1) := by decide +kernel
theorem dX2_dropEaten_0 : decode cX2_dropEaten 0 = .ok (.iconst 0, 1) := by decide +kernel
theorem dX2_dropEaten_1 : decode cX2_dropEaten 1 = .ok (.istore_n 2, 1) := by decide +kernel
theorem dX2_dropEaten_2 : decode cX2_dropEaten 2 = .ok (.iload_n 2, 1) := by decide +kernel
theorem dX2_dropEaten_3 : decode cX2_dropEaten 3 = .ok (.aload_n 0, 1) := by decide +kernel
theorem dX2_dropEaten_4 : decode cX2_dropEaten 4 = .ok (.getfield 9, 3) := by decide +kernel
theorem dX2_dropEaten_7 : decode cX2_dropEaten 7 = .ok (.arraylength, 1) := by decide +kernel
theorem dX2_dropEaten_8 : decode cX2_dropEaten 8 = .ok (.if_icmp .ge 28, 3) := by decide +kernel
theorem dX2_dropEaten_11 : decode cX2_dropEaten 11 = .ok (.aload_n 1, 1) := by decide +kernel
theorem dX2_dropEaten_12 : decode cX2_dropEaten 12 = .ok (.aload_n 1, 1) := by decide +kernel
theorem dX2_dropEaten_13 : decode cX2_dropEaten 13 = .ok (.iload_n 2, 1) := by decide +kernel
theorem dX2_dropEaten_14 : decode cX2_dropEaten 14 = .ok (.invokevirtual 83, 3) := by decide +kernel
theorem dX2_dropEaten_17 : decode cX2_dropEaten 17 = .ok (.invokevirtual 86, 3) := by decide +kernel
theorem dX2_dropEaten_20 : decode cX2_dropEaten 20 = .ok (.ifCond .eq 10, 3) := by decide +kernel
theorem dX2_dropEaten_23 : decode cX2_dropEaten 23 = .ok (.aload_n 0, 1) := by decide +kernel
theorem dX2_dropEaten_24 : decode cX2_dropEaten 24 = .ok (.getfield 9, 3) := by decide +kernel
theorem dX2_dropEaten_27 : decode cX2_dropEaten 27 = .ok (.iload_n 2, 1) := by decide +kernel
theorem dX2_dropEaten_28 : decode cX2_dropEaten 28 = .ok (.lconst 0, 1) := by decide +kernel
theorem dX2_dropEaten_29 : decode cX2_dropEaten 29 = .ok (.lastore, 1) := by decide +kernel
theorem dX2_dropEaten_30 : decode cX2_dropEaten 30 = .ok (.iinc 2 1, 3) := by decide +kernel
theorem dX2_dropEaten_33 : decode cX2_dropEaten 33 = .ok (.goto (-31), 3) := by decide +kernel
theorem dX2_dropEaten_36 : decode cX2_dropEaten 36 = .ok (.return_, 1) := by decide +kernel
theorem dX2_reduce_0 : decode cX2_reduce 0 = .ok (.aload_n 0, 1) := by decide +kernel
theorem dX2_reduce_1 : decode cX2_reduce 1 = .ok (.getfield 28, 3) := by decide +kernel
theorem dX2_reduce_4 : decode cX2_reduce 4 = .ok (.lconst 0, 1) := by decide +kernel
theorem dX2_reduce_5 : decode cX2_reduce 5 = .ok (.lcmp, 1) := by decide +kernel
theorem dX2_reduce_6 : decode cX2_reduce 6 = .ok (.ifCond .ne 8, 3) := by decide +kernel
theorem dX2_reduce_9 : decode cX2_reduce 9 = .ok (.aload_n 0, 1) := by decide +kernel
theorem dX2_reduce_10 : decode cX2_reduce 10 = .ok (.lconst 1, 1) := by decide +kernel
theorem dX2_reduce_11 : decode cX2_reduce 11 = .ok (.putfield 32, 3) := by decide +kernel
theorem dX2_reduce_14 : decode cX2_reduce 14 = .ok (.iconst 0, 1) := by decide +kernel
theorem dX2_reduce_15 : decode cX2_reduce 15 = .ok (.istore_n 1, 1) := by decide +kernel
theorem dX2_reduce_16 : decode cX2_reduce 16 = .ok (.iload_n 1, 1) := by decide +kernel
theorem dX2_reduce_17 : decode cX2_reduce 17 = .ok (.bipush 63, 2) := by decide +kernel
theorem dX2_reduce_19 : decode cX2_reduce 19 = .ok (.if_icmp .ge 51, 3) := by decide +kernel
theorem dX2_reduce_22 : decode cX2_reduce 22 = .ok (.aload_n 0, 1) := by decide +kernel
theorem dX2_reduce_23 : decode cX2_reduce 23 = .ok (.getfield 28, 3) := by decide +kernel
theorem dX2_reduce_26 : decode cX2_reduce 26 = .ok (.lconst 1, 1) := by decide +kernel
theorem dX2_reduce_27 : decode cX2_reduce 27 = .ok (.land, 1) := by decide +kernel
theorem dX2_reduce_28 : decode cX2_reduce 28 = .ok (.lconst 0, 1) := by decide +kernel
theorem dX2_reduce_29 : decode cX2_reduce 29 = .ok (.lcmp, 1) := by decide +kernel
theorem dX2_reduce_30 : decode cX2_reduce 30 = .ok (.ifCond .ne 40, 3) := by decide +kernel
theorem dX2_reduce_33 : decode cX2_reduce 33 = .ok (.aload_n 0, 1) := by decide +kernel
theorem dX2_reduce_34 : decode cX2_reduce 34 = .ok (.getfield 32, 3) := by decide +kernel
theorem dX2_reduce_37 : decode cX2_reduce 37 = .ok (.lconst 1, 1) := by decide +kernel
theorem dX2_reduce_38 : decode cX2_reduce 38 = .ok (.land, 1) := by decide +kernel
theorem dX2_reduce_39 : decode cX2_reduce 39 = .ok (.lconst 0, 1) := by decide +kernel
theorem dX2_reduce_40 : decode cX2_reduce 40 = .ok (.lcmp, 1) := by decide +kernel
theorem dX2_reduce_41 : decode cX2_reduce 41 = .ok (.ifCond .ne 29, 3) := by decide +kernel
theorem dX2_reduce_44 : decode cX2_reduce 44 = .ok (.aload_n 0, 1) := by decide +kernel
theorem dX2_reduce_45 : decode cX2_reduce 45 = .ok (.dup, 1) := by decide +kernel
theorem dX2_reduce_46 : decode cX2_reduce 46 = .ok (.getfield 28, 3) := by decide +kernel
theorem dX2_reduce_49 : decode cX2_reduce 49 = .ok (.iconst 1, 1) := by decide +kernel
theorem dX2_reduce_50 : decode cX2_reduce 50 = .ok (.lshr, 1) := by decide +kernel
theorem dX2_reduce_51 : decode cX2_reduce 51 = .ok (.putfield 28, 3) := by decide +kernel
theorem dX2_reduce_54 : decode cX2_reduce 54 = .ok (.aload_n 0, 1) := by decide +kernel
theorem dX2_reduce_55 : decode cX2_reduce 55 = .ok (.dup, 1) := by decide +kernel
theorem dX2_reduce_56 : decode cX2_reduce 56 = .ok (.getfield 32, 3) := by decide +kernel
theorem dX2_reduce_59 : decode cX2_reduce 59 = .ok (.iconst 1, 1) := by decide +kernel
theorem dX2_reduce_60 : decode cX2_reduce 60 = .ok (.lshr, 1) := by decide +kernel
theorem dX2_reduce_61 : decode cX2_reduce 61 = .ok (.putfield 32, 3) := by decide +kernel
theorem dX2_reduce_64 : decode cX2_reduce 64 = .ok (.iinc 1 1, 3) := by decide +kernel
theorem dX2_reduce_67 : decode cX2_reduce 67 = .ok (.goto (-51), 3) := by decide +kernel
theorem dX2_reduce_70 : decode cX2_reduce 70 = .ok (.return_, 1) := by decide +kernel
theorem dX2_findSummer_0 : decode cX2_findSummer 0 = .ok (.aload_n 0, 1) := by decide +kernel
theorem dX2_findSummer_1 : decode cX2_findSummer 1 = .ok (.iconst 0, 1) := by decide +kernel
theorem dX2_findSummer_2 : decode cX2_findSummer 2 = .ok (.putfield 90, 3) := by decide +kernel
theorem dX2_findSummer_5 : decode cX2_findSummer 5 = .ok (.aload_n 0, 1) := by decide +kernel
theorem dX2_findSummer_6 : decode cX2_findSummer 6 = .ok (.iconst 0, 1) := by decide +kernel
theorem dX2_findSummer_7 : decode cX2_findSummer 7 = .ok (.putfield 93, 3) := by decide +kernel
theorem dX2_findSummer_10 : decode cX2_findSummer 10 = .ok (.ldc 96, 2) := by decide +kernel
theorem dX2_findSummer_12 : decode cX2_findSummer 12 = .ok (.istore_n 3, 1) := by decide +kernel
theorem dX2_findSummer_13 : decode cX2_findSummer 13 = .ok (.iconst 0, 1) := by decide +kernel
theorem dX2_findSummer_14 : decode cX2_findSummer 14 = .ok (.istore 4, 2) := by decide +kernel
theorem dX2_findSummer_16 : decode cX2_findSummer 16 = .ok (.iload 4, 2) := by decide +kernel
theorem dX2_findSummer_18 : decode cX2_findSummer 18 = .ok (.aload_n 0, 1) := by decide +kernel
theorem dX2_findSummer_19 : decode cX2_findSummer 19 = .ok (.getfield 18, 3) := by decide +kernel
theorem dX2_findSummer_22 : decode cX2_findSummer 22 = .ok (.getfield 97, 3) := by decide +kernel
theorem dX2_findSummer_25 : decode cX2_findSummer 25 = .ok (.getfield 101, 3) := by decide +kernel
theorem dX2_findSummer_28 : decode cX2_findSummer 28 = .ok (.if_icmp .ge 62, 3) := by decide +kernel
theorem dX2_findSummer_31 : decode cX2_findSummer 31 = .ok (.aload_n 0, 1) := by decide +kernel
theorem dX2_findSummer_32 : decode cX2_findSummer 32 = .ok (.getfield 18, 3) := by decide +kernel
theorem dX2_findSummer_35 : decode cX2_findSummer 35 = .ok (.iload 4, 2) := by decide +kernel
theorem dX2_findSummer_37 : decode cX2_findSummer 37 = .ok (.invokevirtual 22, 3) := by decide +kernel
theorem dX2_findSummer_40 : decode cX2_findSummer 40 = .ok (.astore 5, 2) := by decide +kernel
theorem dX2_findSummer_42 : decode cX2_findSummer 42 = .ok (.aload 5, 2) := by decide +kernel
theorem dX2_findSummer_44 : decode cX2_findSummer 44 = .ok (.iload_n 1, 1) := by decide +kernel
theorem dX2_findSummer_45 : decode cX2_findSummer 45 = .ok (.iload_n 2, 1) := by decide +kernel
theorem dX2_findSummer_46 : decode cX2_findSummer 46 = .ok (.invokestatic 106, 3) := by decide +kernel
theorem dX2_findSummer_49 : decode cX2_findSummer 49 = .ok (.aload 5, 2) := by decide +kernel
theorem dX2_findSummer_51 : decode cX2_findSummer 51 = .ok (.invokevirtual 110, 3) := by decide +kernel
theorem dX2_findSummer_54 : decode cX2_findSummer 54 = .ok (.iload_n 3, 1) := by decide +kernel
theorem dX2_findSummer_55 : decode cX2_findSummer 55 = .ok (.aload 5, 2) := by decide +kernel
theorem dX2_findSummer_57 : decode cX2_findSummer 57 = .ok (.getfield 113, 3) := by decide +kernel
theorem dX2_findSummer_60 : decode cX2_findSummer 60 = .ok (.iand, 1) := by decide +kernel
theorem dX2_findSummer_61 : decode cX2_findSummer 61 = .ok (.istore_n 3, 1) := by decide +kernel
theorem dX2_findSummer_62 : decode cX2_findSummer 62 = .ok (.aload_n 0, 1) := by decide +kernel
theorem dX2_findSummer_63 : decode cX2_findSummer 63 = .ok (.dup, 1) := by decide +kernel
theorem dX2_findSummer_64 : decode cX2_findSummer 64 = .ok (.getfield 93, 3) := by decide +kernel
theorem dX2_findSummer_67 : decode cX2_findSummer 67 = .ok (.aload 5, 2) := by decide +kernel
theorem dX2_findSummer_69 : decode cX2_findSummer 69 = .ok (.getfield 116, 3) := by decide +kernel
theorem dX2_findSummer_72 : decode cX2_findSummer 72 = .ok (.ifCond .eq 7, 3) := by decide +kernel
theorem dX2_findSummer_75 : decode cX2_findSummer 75 = .ok (.iconst 1, 1) := by decide +kernel
theorem dX2_findSummer_76 : decode cX2_findSummer 76 = .ok (.goto 4, 3) := by decide +kernel
theorem dX2_findSummer_79 : decode cX2_findSummer 79 = .ok (.iconst 0, 1) := by decide +kernel
theorem dX2_findSummer_80 : decode cX2_findSummer 80 = .ok (.iadd, 1) := by decide +kernel
theorem dX2_findSummer_81 : decode cX2_findSummer 81 = .ok (.putfield 93, 3) := by decide +kernel
theorem dX2_findSummer_84 : decode cX2_findSummer 84 = .ok (.iinc 4 1, 3) := by decide +kernel
theorem dX2_findSummer_87 : decode cX2_findSummer 87 = .ok (.goto (-71), 3) := by decide +kernel
theorem dX2_findSummer_90 : decode cX2_findSummer 90 = .ok (.aload_n 0, 1) := by decide +kernel
theorem dX2_findSummer_91 : decode cX2_findSummer 91 = .ok (.getfield 18, 3) := by decide +kernel
theorem dX2_findSummer_94 : decode cX2_findSummer 94 = .ok (.getfield 97, 3) := by decide +kernel
theorem dX2_findSummer_97 : decode cX2_findSummer 97 = .ok (.getfield 101, 3) := by decide +kernel
theorem dX2_findSummer_100 : decode cX2_findSummer 100 = .ok (.ifCond .le 11, 3) := by decide +kernel
theorem dX2_findSummer_103 : decode cX2_findSummer 103 = .ok (.aload_n 0, 1) := by decide +kernel
theorem dX2_findSummer_104 : decode cX2_findSummer 104 = .ok (.iload_n 3, 1) := by decide +kernel
theorem dX2_findSummer_105 : decode cX2_findSummer 105 = .ok (.invokestatic 120, 3) := by decide +kernel
theorem dX2_findSummer_108 : decode cX2_findSummer 108 = .ok (.putfield 90, 3) := by decide +kernel
theorem dX2_findSummer_111 : decode cX2_findSummer 111 = .ok (.return_, 1) := by decide +kernel
theorem dX2_warmByLots_0 : decode cX2_warmByLots 0 = .ok (.iload_n 1, 1) := by decide +kernel
theorem dX2_warmByLots_1 : decode cX2_warmByLots 1 = .ok (.istore_n 3, 1) := by decide +kernel
theorem dX2_warmByLots_2 : decode cX2_warmByLots 2 = .ok (.iconst 0, 1) := by decide +kernel
theorem dX2_warmByLots_3 : decode cX2_warmByLots 3 = .ok (.istore 4, 2) := by decide +kernel
theorem dX2_warmByLots_5 : decode cX2_warmByLots 5 = .ok (.iload 4, 2) := by decide +kernel
theorem dX2_warmByLots_7 : decode cX2_warmByLots 7 = .ok (.bipush 30, 2) := by decide +kernel
theorem dX2_warmByLots_9 : decode cX2_warmByLots 9 = .ok (.if_icmp .ge 47, 3) := by decide +kernel
theorem dX2_warmByLots_12 : decode cX2_warmByLots 12 = .ok (.iload 4, 2) := by decide +kernel
theorem dX2_warmByLots_14 : decode cX2_warmByLots 14 = .ok (.iload_n 2, 1) := by decide +kernel
theorem dX2_warmByLots_15 : decode cX2_warmByLots 15 = .ok (.if_icmp .ge 28, 3) := by decide +kernel
theorem dX2_warmByLots_18 : decode cX2_warmByLots 18 = .ok (.ldc 125, 2) := by decide +kernel
theorem dX2_warmByLots_20 : decode cX2_warmByLots 20 = .ok (.iload_n 3, 1) := by decide +kernel
theorem dX2_warmByLots_21 : decode cX2_warmByLots 21 = .ok (.imul, 1) := by decide +kernel
theorem dX2_warmByLots_22 : decode cX2_warmByLots 22 = .ok (.sipush 12345, 3) := by decide +kernel
theorem dX2_warmByLots_25 : decode cX2_warmByLots 25 = .ok (.iadd, 1) := by decide +kernel
theorem dX2_warmByLots_26 : decode cX2_warmByLots 26 = .ok (.istore_n 3, 1) := by decide +kernel
theorem dX2_warmByLots_27 : decode cX2_warmByLots 27 = .ok (.aload_n 0, 1) := by decide +kernel
theorem dX2_warmByLots_28 : decode cX2_warmByLots 28 = .ok (.iload 4, 2) := by decide +kernel
theorem dX2_warmByLots_30 : decode cX2_warmByLots 30 = .ok (.iload_n 3, 1) := by decide +kernel
theorem dX2_warmByLots_31 : decode cX2_warmByLots 31 = .ok (.bipush 16, 2) := by decide +kernel
theorem dX2_warmByLots_33 : decode cX2_warmByLots 33 = .ok (.iushr, 1) := by decide +kernel
theorem dX2_warmByLots_34 : decode cX2_warmByLots 34 = .ok (.bipush 10, 2) := by decide +kernel
theorem dX2_warmByLots_36 : decode cX2_warmByLots 36 = .ok (.irem, 1) := by decide +kernel
theorem dX2_warmByLots_37 : decode cX2_warmByLots 37 = .ok (.invokevirtual 126, 3) := by decide +kernel
theorem dX2_warmByLots_40 : decode cX2_warmByLots 40 = .ok (.goto 10, 3) := by decide +kernel
theorem dX2_warmByLots_43 : decode cX2_warmByLots 43 = .ok (.aload_n 0, 1) := by decide +kernel
theorem dX2_warmByLots_44 : decode cX2_warmByLots 44 = .ok (.iload 4, 2) := by decide +kernel
theorem dX2_warmByLots_46 : decode cX2_warmByLots 46 = .ok (.iconst 5, 1) := by decide +kernel
theorem dX2_warmByLots_47 : decode cX2_warmByLots 47 = .ok (.invokevirtual 126, 3) := by decide +kernel
theorem dX2_warmByLots_50 : decode cX2_warmByLots 50 = .ok (.iinc 4 1, 3) := by decide +kernel
theorem dX2_warmByLots_53 : decode cX2_warmByLots 53 = .ok (.goto (-48), 3) := by decide +kernel
theorem dX2_warmByLots_56 : decode cX2_warmByLots 56 = .ok (.return_, 1) := by decide +kernel
theorem dX3_init_0 : decode cX3_init 0 = .ok (.aload_n 0, 1) := by decide +kernel
theorem dX3_init_1 : decode cX3_init 1 = .ok (.invokespecial 3, 3) := by decide +kernel
theorem dX3_init_4 : decode cX3_init 4 = .ok (.aload_n 0, 1) := by decide +kernel
theorem dX3_init_5 : decode cX3_init 5 = .ok (.sipush 270, 3) := by decide +kernel
theorem dX3_init_8 : decode cX3_init 8 = .ok (.newarray .int, 2) := by decide +kernel
theorem dX3_init_10 : decode cX3_init 10 = .ok (.putfield 11, 3) := by decide +kernel
theorem dX3_init_13 : decode cX3_init 13 = .ok (.aload_n 0, 1) := by decide +kernel
theorem dX3_init_14 : decode cX3_init 14 = .ok (.aload_n 1, 1) := by decide +kernel
theorem dX3_init_15 : decode cX3_init 15 = .ok (.putfield 15, 3) := by decide +kernel
theorem dX3_init_18 : decode cX3_init 18 = .ok (.return_, 1) := by decide +kernel
theorem dX3_neverTurnings_0 : decode cX3_neverTurnings 0 = .ok (.iconst 0, 1) := by decide +kernel
theorem dX3_neverTurnings_1 : decode cX3_neverTurnings 1 = .ok (.istore_n 1, 1) := by decide +kernel
theorem dX3_neverTurnings_2 : decode cX3_neverTurnings 2 = .ok (.iconst 0, 1) := by decide +kernel
theorem dX3_neverTurnings_3 : decode cX3_neverTurnings 3 = .ok (.istore_n 2, 1) := by decide +kernel
theorem dX3_neverTurnings_4 : decode cX3_neverTurnings 4 = .ok (.iload_n 2, 1) := by decide +kernel
theorem dX3_neverTurnings_5 : decode cX3_neverTurnings 5 = .ok (.aload_n 0, 1) := by decide +kernel
theorem dX3_neverTurnings_6 : decode cX3_neverTurnings 6 = .ok (.getfield 15, 3) := by decide +kernel
theorem dX3_neverTurnings_9 : decode cX3_neverTurnings 9 = .ok (.getfield 19, 3) := by decide +kernel
theorem dX3_neverTurnings_12 : decode cX3_neverTurnings 12 = .ok (.getfield 25, 3) := by decide +kernel
theorem dX3_neverTurnings_15 : decode cX3_neverTurnings 15 = .ok (.if_icmp .ge 24, 3) := by decide +kernel
theorem dX3_neverTurnings_18 : decode cX3_neverTurnings 18 = .ok (.aload_n 0, 1) := by decide +kernel
theorem dX3_neverTurnings_19 : decode cX3_neverTurnings 19 = .ok (.iconst (-1), 1) := by decide +kernel
theorem dX3_neverTurnings_20 : decode cX3_neverTurnings 20 = .ok (.iload_n 2, 1) := by decide +kernel
theorem dX3_neverTurnings_21 : decode cX3_neverTurnings 21 = .ok (.invokevirtual 31, 3) := by decide +kernel
theorem dX3_neverTurnings_24 : decode cX3_neverTurnings 24 = .ok (.ifCond .eq 9, 3) := by decide +kernel
theorem dX3_neverTurnings_27 : decode cX3_neverTurnings 27 = .ok (.iload_n 1, 1) := by decide +kernel
theorem dX3_neverTurnings_28 : decode cX3_neverTurnings 28 = .ok (.iconst 1, 1) := by decide +kernel
theorem dX3_neverTurnings_29 : decode cX3_neverTurnings 29 = .ok (.iload_n 2, 1) := by decide +kernel
theorem dX3_neverTurnings_30 : decode cX3_neverTurnings 30 = .ok (.ishl, 1) := by decide +kernel
theorem dX3_neverTurnings_31 : decode cX3_neverTurnings 31 = .ok (.ior, 1) := by decide +kernel
theorem dX3_neverTurnings_32 : decode cX3_neverTurnings 32 = .ok (.istore_n 1, 1) := by decide +kernel
theorem dX3_neverTurnings_33 : decode cX3_neverTurnings 33 = .ok (.iinc 2 1, 3) := by decide +kernel
theorem dX3_neverTurnings_36 : decode cX3_neverTurnings 36 = .ok (.goto (-32), 3) := by decide +kernel
theorem dX3_neverTurnings_39 : decode cX3_neverTurnings 39 = .ok (.iload_n 1, 1) := by decide +kernel
theorem dX3_neverTurnings_40 : decode cX3_neverTurnings 40 = .ok (.ireturn, 1) := by decide +kernel
theorem dX3_fromNights_0 : decode cX3_fromNights 0 = .ok (.aload_n 0, 1) := by decide +kernel
theorem dX3_fromNights_1 : decode cX3_fromNights 1 = .ok (.iload_n 1, 1) := by decide +kernel
theorem dX3_fromNights_2 : decode cX3_fromNights 2 = .ok (.iconst (-1), 1) := by decide +kernel
theorem dX3_fromNights_3 : decode cX3_fromNights 3 = .ok (.invokevirtual 31, 3) := by decide +kernel
theorem dX3_fromNights_6 : decode cX3_fromNights 6 = .ok (.ifCond .ne 5, 3) := by decide +kernel
theorem dX3_fromNights_9 : decode cX3_fromNights 9 = .ok (.iconst 0, 1) := by decide +kernel
theorem dX3_fromNights_10 : decode cX3_fromNights 10 = .ok (.ireturn, 1) := by decide +kernel
theorem dX3_fromNights_11 : decode cX3_fromNights 11 = .ok (.aload_n 0, 1) := by decide +kernel
theorem dX3_fromNights_12 : decode cX3_fromNights 12 = .ok (.getfield 15, 3) := by decide +kernel
theorem dX3_fromNights_15 : decode cX3_fromNights 15 = .ok (.iload_n 1, 1) := by decide +kernel
theorem dX3_fromNights_16 : decode cX3_fromNights 16 = .ok (.invokevirtual 35, 3) := by decide +kernel
theorem dX3_fromNights_19 : decode cX3_fromNights 19 = .ok (.astore_n 2, 1) := by decide +kernel
theorem dX3_fromNights_20 : decode cX3_fromNights 20 = .ok (.iconst 0, 1) := by decide +kernel
theorem dX3_fromNights_21 : decode cX3_fromNights 21 = .ok (.istore_n 3, 1) := by decide +kernel
theorem dX3_fromNights_22 : decode cX3_fromNights 22 = .ok (.iconst 0, 1) := by decide +kernel
theorem dX3_fromNights_23 : decode cX3_fromNights 23 = .ok (.istore 4, 2) := by decide +kernel
theorem dX3_fromNights_25 : decode cX3_fromNights 25 = .ok (.iload 4, 2) := by decide +kernel
theorem dX3_fromNights_27 : decode cX3_fromNights 27 = .ok (.bipush 20, 2) := by decide +kernel
theorem dX3_fromNights_29 : decode cX3_fromNights 29 = .ok (.if_icmp .ge 35, 3) := by decide +kernel
theorem dX3_fromNights_32 : decode cX3_fromNights 32 = .ok (.aload_n 2, 1) := by decide +kernel
theorem dX3_fromNights_33 : decode cX3_fromNights 33 = .ok (.iload 4, 2) := by decide +kernel
theorem dX3_fromNights_35 : decode cX3_fromNights 35 = .ok (.putfield 39, 3) := by decide +kernel
theorem dX3_fromNights_38 : decode cX3_fromNights 38 = .ok (.aload_n 2, 1) := by decide +kernel
theorem dX3_fromNights_39 : decode cX3_fromNights 39 = .ok (.invokevirtual 44, 3) := by decide +kernel
theorem dX3_fromNights_42 : decode cX3_fromNights 42 = .ok (.aload_n 0, 1) := by decide +kernel
theorem dX3_fromNights_43 : decode cX3_fromNights 43 = .ok (.aload_n 2, 1) := by decide +kernel
theorem dX3_fromNights_44 : decode cX3_fromNights 44 = .ok (.iload_n 1, 1) := by decide +kernel
theorem dX3_fromNights_45 : decode cX3_fromNights 45 = .ok (.invokevirtual 47, 3) := by decide +kernel
theorem dX3_fromNights_48 : decode cX3_fromNights 48 = .ok (.ifCond .eq 10, 3) := by decide +kernel
theorem dX3_fromNights_51 : decode cX3_fromNights 51 = .ok (.iload_n 3, 1) := by decide +kernel
theorem dX3_fromNights_52 : decode cX3_fromNights 52 = .ok (.iconst 1, 1) := by decide +kernel
theorem dX3_fromNights_53 : decode cX3_fromNights 53 = .ok (.iload 4, 2) := by decide +kernel
theorem dX3_fromNights_55 : decode cX3_fromNights 55 = .ok (.ishl, 1) := by decide +kernel
theorem dX3_fromNights_56 : decode cX3_fromNights 56 = .ok (.ior, 1) := by decide +kernel
theorem dX3_fromNights_57 : decode cX3_fromNights 57 = .ok (.istore_n 3, 1) := by decide +kernel
theorem dX3_fromNights_58 : decode cX3_fromNights 58 = .ok (.iinc 4 1, 3) := by decide +kernel
theorem dX3_fromNights_61 : decode cX3_fromNights 61 = .ok (.goto (-36), 3) := by decide +kernel
theorem dX3_fromNights_64 : decode cX3_fromNights 64 = .ok (.iload_n 3, 1) := by decide +kernel
theorem dX3_fromNights_65 : decode cX3_fromNights 65 = .ok (.ireturn, 1) := by decide +kernel
theorem dX3_fittingSorts_0 : decode cX3_fittingSorts 0 = .ok (.aload_n 0, 1) := by decide +kernel
theorem dX3_fittingSorts_1 : decode cX3_fittingSorts 1 = .ok (.iload_n 1, 1) := by decide +kernel
theorem dX3_fittingSorts_2 : decode cX3_fittingSorts 2 = .ok (.iconst (-1), 1) := by decide +kernel
theorem dX3_fittingSorts_3 : decode cX3_fittingSorts 3 = .ok (.invokevirtual 31, 3) := by decide +kernel
theorem dX3_fittingSorts_6 : decode cX3_fittingSorts 6 = .ok (.ifCond .ne 5, 3) := by decide +kernel
theorem dX3_fittingSorts_9 : decode cX3_fittingSorts 9 = .ok (.iconst 0, 1) := by decide +kernel
theorem dX3_fittingSorts_10 : decode cX3_fittingSorts 10 = .ok (.ireturn, 1) := by decide +kernel
theorem dX3_fittingSorts_11 : decode cX3_fittingSorts 11 = .ok (.aload_n 0, 1) := by decide +kernel
theorem dX3_fittingSorts_12 : decode cX3_fittingSorts 12 = .ok (.getfield 15, 3) := by decide +kernel
theorem dX3_fittingSorts_15 : decode cX3_fittingSorts 15 = .ok (.iload_n 1, 1) := by decide +kernel
theorem dX3_fittingSorts_16 : decode cX3_fittingSorts 16 = .ok (.invokevirtual 35, 3) := by decide +kernel
theorem dX3_fittingSorts_19 : decode cX3_fittingSorts 19 = .ok (.astore_n 2, 1) := by decide +kernel
theorem dX3_fittingSorts_20 : decode cX3_fittingSorts 20 = .ok (.iconst 0, 1) := by decide +kernel
theorem dX3_fittingSorts_21 : decode cX3_fittingSorts 21 = .ok (.istore_n 3, 1) := by decide +kernel
theorem dX3_fittingSorts_22 : decode cX3_fittingSorts 22 = .ok (.iconst 0, 1) := by decide +kernel
theorem dX3_fittingSorts_23 : decode cX3_fittingSorts 23 = .ok (.istore 4, 2) := by decide +kernel
theorem dX3_fittingSorts_25 : decode cX3_fittingSorts 25 = .ok (.iload 4, 2) := by decide +kernel
theorem dX3_fittingSorts_27 : decode cX3_fittingSorts 27 = .ok (.iconst 2, 1) := by decide +kernel
theorem dX3_fittingSorts_28 : decode cX3_fittingSorts 28 = .ok (.if_icmp .gt 35, 3) := by decide +kernel
theorem dX3_fittingSorts_31 : decode cX3_fittingSorts 31 = .ok (.aload_n 2, 1) := by decide +kernel
theorem dX3_fittingSorts_32 : decode cX3_fittingSorts 32 = .ok (.iload 4, 2) := by decide +kernel
theorem dX3_fittingSorts_34 : decode cX3_fittingSorts 34 = .ok (.putfield 51, 3) := by decide +kernel
theorem dX3_fittingSorts_37 : decode cX3_fittingSorts 37 = .ok (.aload_n 2, 1) := by decide +kernel
theorem dX3_fittingSorts_38 : decode cX3_fittingSorts 38 = .ok (.invokevirtual 44, 3) := by decide +kernel
theorem dX3_fittingSorts_41 : decode cX3_fittingSorts 41 = .ok (.aload_n 0, 1) := by decide +kernel
theorem dX3_fittingSorts_42 : decode cX3_fittingSorts 42 = .ok (.aload_n 2, 1) := by decide +kernel
theorem dX3_fittingSorts_43 : decode cX3_fittingSorts 43 = .ok (.iload_n 1, 1) := by decide +kernel
theorem dX3_fittingSorts_44 : decode cX3_fittingSorts 44 = .ok (.invokevirtual 47, 3) := by decide +kernel
theorem dX3_fittingSorts_47 : decode cX3_fittingSorts 47 = .ok (.ifCond .eq 10, 3) := by decide +kernel
theorem dX3_fittingSorts_50 : decode cX3_fittingSorts 50 = .ok (.iload_n 3, 1) := by decide +kernel
theorem dX3_fittingSorts_51 : decode cX3_fittingSorts 51 = .ok (.iconst 1, 1) := by decide +kernel
theorem dX3_fittingSorts_52 : decode cX3_fittingSorts 52 = .ok (.iload 4, 2) := by decide +kernel
theorem dX3_fittingSorts_54 : decode cX3_fittingSorts 54 = .ok (.ishl, 1) := by decide +kernel
theorem dX3_fittingSorts_55 : decode cX3_fittingSorts 55 = .ok (.ior, 1) := by decide +kernel
theorem dX3_fittingSorts_56 : decode cX3_fittingSorts 56 = .ok (.istore_n 3, 1) := by decide +kernel
theorem dX3_fittingSorts_57 : decode cX3_fittingSorts 57 = .ok (.iinc 4 1, 3) := by decide +kernel
theorem dX3_fittingSorts_60 : decode cX3_fittingSorts 60 = .ok (.goto (-35), 3) := by decide +kernel
theorem dX3_fittingSorts_63 : decode cX3_fittingSorts 63 = .ok (.iload_n 3, 1) := by decide +kernel
theorem dX3_fittingSorts_64 : decode cX3_fittingSorts 64 = .ok (.ireturn, 1) := by decide +kernel
theorem dX3_nextNight_0 : decode cX3_nextNight 0 = .ok (.aload_n 0, 1) := by decide +kernel
theorem dX3_nextNight_1 : decode cX3_nextNight 1 = .ok (.iload_n 1, 1) := by decide +kernel
theorem dX3_nextNight_2 : decode cX3_nextNight 2 = .ok (.iload_n 2, 1) := by decide +kernel
theorem dX3_nextNight_3 : decode cX3_nextNight 3 = .ok (.invokevirtual 54, 3) := by decide +kernel
theorem dX3_nextNight_6 : decode cX3_nextNight 6 = .ok (.iconst 0, 1) := by decide +kernel
theorem dX3_nextNight_7 : decode cX3_nextNight 7 = .ok (.istore_n 3, 1) := by decide +kernel
theorem dX3_nextNight_8 : decode cX3_nextNight 8 = .ok (.aload_n 0, 1) := by decide +kernel
theorem dX3_nextNight_9 : decode cX3_nextNight 9 = .ok (.iconst 0, 1) := by decide +kernel
theorem dX3_nextNight_10 : decode cX3_nextNight 10 = .ok (.invokevirtual 58, 3) := by decide +kernel
theorem dX3_nextNight_13 : decode cX3_nextNight 13 = .ok (.istore 4, 2) := by decide +kernel
theorem dX3_nextNight_15 : decode cX3_nextNight 15 = .ok (.iconst 1, 1) := by decide +kernel
theorem dX3_nextNight_16 : decode cX3_nextNight 16 = .ok (.istore 5, 2) := by decide +kernel
theorem dX3_nextNight_18 : decode cX3_nextNight 18 = .ok (.iload 5, 2) := by decide +kernel
theorem dX3_nextNight_20 : decode cX3_nextNight 20 = .ok (.bipush 30, 2) := by decide +kernel
theorem dX3_nextNight_22 : decode cX3_nextNight 22 = .ok (.if_icmp .ge 31, 3) := by decide +kernel
theorem dX3_nextNight_25 : decode cX3_nextNight 25 = .ok (.aload_n 0, 1) := by decide +kernel
theorem dX3_nextNight_26 : decode cX3_nextNight 26 = .ok (.iload 5, 2) := by decide +kernel
theorem dX3_nextNight_28 : decode cX3_nextNight 28 = .ok (.invokevirtual 58, 3) := by decide +kernel
theorem dX3_nextNight_31 : decode cX3_nextNight 31 = .ok (.istore 6, 2) := by decide +kernel
theorem dX3_nextNight_33 : decode cX3_nextNight 33 = .ok (.iload 6, 2) := by decide +kernel
theorem dX3_nextNight_35 : decode cX3_nextNight 35 = .ok (.iload 4, 2) := by decide +kernel
theorem dX3_nextNight_37 : decode cX3_nextNight 37 = .ok (.if_icmp .ge 10, 3) := by decide +kernel
theorem dX3_nextNight_40 : decode cX3_nextNight 40 = .ok (.iload 5, 2) := by decide +kernel
theorem dX3_nextNight_42 : decode cX3_nextNight 42 = .ok (.istore_n 3, 1) := by decide +kernel
theorem dX3_nextNight_43 : decode cX3_nextNight 43 = .ok (.iload 6, 2) := by decide +kernel
theorem dX3_nextNight_45 : decode cX3_nextNight 45 = .ok (.istore 4, 2) := by decide +kernel
theorem dX3_nextNight_47 : decode cX3_nextNight 47 = .ok (.iinc 5 1, 3) := by decide +kernel
theorem dX3_nextNight_50 : decode cX3_nextNight 50 = .ok (.goto (-32), 3) := by decide +kernel
theorem dX3_nextNight_53 : decode cX3_nextNight 53 = .ok (.iload_n 3, 1) := by decide +kernel
theorem dX3_nextNight_54 : decode cX3_nextNight 54 = .ok (.ireturn, 1) := by decide +kernel
theorem dX3_tallyAlike_0 : decode cX3_tallyAlike 0 = .ok (.aload_n 0, 1) := by decide +kernel
theorem dX3_tallyAlike_1 : decode cX3_tallyAlike 1 = .ok (.getfield 11, 3) := by decide +kernel
theorem dX3_tallyAlike_4 : decode cX3_tallyAlike 4 = .ok (.iconst 0, 1) := by decide +kernel
theorem dX3_tallyAlike_5 : decode cX3_tallyAlike 5 = .ok (.invokestatic 62, 3) := by decide +kernel
theorem dX3_tallyAlike_8 : decode cX3_tallyAlike 8 = .ok (.aload_n 0, 1) := by decide +kernel
theorem dX3_tallyAlike_9 : decode cX3_tallyAlike 9 = .ok (.getfield 15, 3) := by decide +kernel
theorem dX3_tallyAlike_12 : decode cX3_tallyAlike 12 = .ok (.iload_n 1, 1) := by decide +kernel
theorem dX3_tallyAlike_13 : decode cX3_tallyAlike 13 = .ok (.invokevirtual 35, 3) := by decide +kernel
theorem dX3_tallyAlike_16 : decode cX3_tallyAlike 16 = .ok (.astore_n 3, 1) := by decide +kernel
theorem dX3_tallyAlike_17 : decode cX3_tallyAlike 17 = .ok (.iconst 0, 1) := by decide +kernel
theorem dX3_tallyAlike_18 : decode cX3_tallyAlike 18 = .ok (.istore 4, 2) := by decide +kernel
theorem dX3_tallyAlike_20 : decode cX3_tallyAlike 20 = .ok (.iload 4, 2) := by decide +kernel
theorem dX3_tallyAlike_22 : decode cX3_tallyAlike 22 = .ok (.bipush 20, 2) := by decide +kernel
theorem dX3_tallyAlike_24 : decode cX3_tallyAlike 24 = .ok (.if_icmp .ge 62, 3) := by decide +kernel
theorem dX3_tallyAlike_27 : decode cX3_tallyAlike 27 = .ok (.iload_n 2, 1) := by decide +kernel
theorem dX3_tallyAlike_28 : decode cX3_tallyAlike 28 = .ok (.iload 4, 2) := by decide +kernel
theorem dX3_tallyAlike_30 : decode cX3_tallyAlike 30 = .ok (.invokestatic 68, 3) := by decide +kernel
theorem dX3_tallyAlike_33 : decode cX3_tallyAlike 33 = .ok (.ifCond .eq 47, 3) := by decide +kernel
theorem dX3_tallyAlike_36 : decode cX3_tallyAlike 36 = .ok (.aload_n 3, 1) := by decide +kernel
theorem dX3_tallyAlike_37 : decode cX3_tallyAlike 37 = .ok (.iload 4, 2) := by decide +kernel
theorem dX3_tallyAlike_39 : decode cX3_tallyAlike 39 = .ok (.putfield 39, 3) := by decide +kernel
theorem dX3_tallyAlike_42 : decode cX3_tallyAlike 42 = .ok (.aload_n 3, 1) := by decide +kernel
theorem dX3_tallyAlike_43 : decode cX3_tallyAlike 43 = .ok (.invokevirtual 44, 3) := by decide +kernel
theorem dX3_tallyAlike_46 : decode cX3_tallyAlike 46 = .ok (.iconst 0, 1) := by decide +kernel
theorem dX3_tallyAlike_47 : decode cX3_tallyAlike 47 = .ok (.istore 5, 2) := by decide +kernel
theorem dX3_tallyAlike_49 : decode cX3_tallyAlike 49 = .ok (.iload 5, 2) := by decide +kernel
theorem dX3_tallyAlike_51 : decode cX3_tallyAlike 51 = .ok (.bipush 30, 2) := by decide +kernel
theorem dX3_tallyAlike_53 : decode cX3_tallyAlike 53 = .ok (.if_icmp .ge 27, 3) := by decide +kernel
theorem dX3_tallyAlike_56 : decode cX3_tallyAlike 56 = .ok (.aload_n 0, 1) := by decide +kernel
theorem dX3_tallyAlike_57 : decode cX3_tallyAlike 57 = .ok (.iload 5, 2) := by decide +kernel
theorem dX3_tallyAlike_59 : decode cX3_tallyAlike 59 = .ok (.bipush 9, 2) := by decide +kernel
theorem dX3_tallyAlike_61 : decode cX3_tallyAlike 61 = .ok (.imul, 1) := by decide +kernel
theorem dX3_tallyAlike_62 : decode cX3_tallyAlike 62 = .ok (.aload_n 3, 1) := by decide +kernel
theorem dX3_tallyAlike_63 : decode cX3_tallyAlike 63 = .ok (.iload 5, 2) := by decide +kernel
theorem dX3_tallyAlike_65 : decode cX3_tallyAlike 65 = .ok (.invokevirtual 71, 3) := by decide +kernel
theorem dX3_tallyAlike_68 : decode cX3_tallyAlike 68 = .ok (.iadd, 1) := by decide +kernel
theorem dX3_tallyAlike_69 : decode cX3_tallyAlike 69 = .ok (.iconst 1, 1) := by decide +kernel
theorem dX3_tallyAlike_70 : decode cX3_tallyAlike 70 = .ok (.iadd, 1) := by decide +kernel
theorem dX3_tallyAlike_71 : decode cX3_tallyAlike 71 = .ok (.invokevirtual 74, 3) := by decide +kernel
theorem dX3_tallyAlike_74 : decode cX3_tallyAlike 74 = .ok (.iinc 5 1, 3) := by decide +kernel
theorem dX3_tallyAlike_77 : decode cX3_tallyAlike 77 = .ok (.goto (-28), 3) := by decide +kernel
theorem dX3_tallyAlike_80 : decode cX3_tallyAlike 80 = .ok (.iinc 4 1, 3) := by decide +kernel
theorem dX3_tallyAlike_83 : decode cX3_tallyAlike 83 = .ok (.goto (-63), 3) := by decide +kernel
theorem dX3_tallyAlike_86 : decode cX3_tallyAlike 86 = .ok (.return_, 1) := by decide +kernel
theorem dX3_tallyOne_0 : decode cX3_tallyOne 0 = .ok (.iload_n 1, 1) := by decide +kernel
theorem dX3_tallyOne_1 : decode cX3_tallyOne 1 = .ok (.ifCond .lt 22, 3) := by decide +kernel
theorem dX3_tallyOne_4 : decode cX3_tallyOne 4 = .ok (.iload_n 1, 1) := by decide +kernel
theorem dX3_tallyOne_5 : decode cX3_tallyOne 5 = .ok (.aload_n 0, 1) := by decide +kernel
theorem dX3_tallyOne_6 : decode cX3_tallyOne 6 = .ok (.getfield 11, 3) := by decide +kernel
theorem dX3_tallyOne_9 : decode cX3_tallyOne 9 = .ok (.arraylength, 1) := by decide +kernel
theorem dX3_tallyOne_10 : decode cX3_tallyOne 10 = .ok (.if_icmp .ge 13, 3) := by decide +kernel
theorem dX3_tallyOne_13 : decode cX3_tallyOne 13 = .ok (.aload_n 0, 1) := by decide +kernel
theorem dX3_tallyOne_14 : decode cX3_tallyOne 14 = .ok (.getfield 11, 3) := by decide +kernel
theorem dX3_tallyOne_17 : decode cX3_tallyOne 17 = .ok (.iload_n 1, 1) := by decide +kernel
theorem dX3_tallyOne_18 : decode cX3_tallyOne 18 = .ok (.dup2, 1) := by decide +kernel
theorem dX3_tallyOne_19 : decode cX3_tallyOne 19 = .ok (.iaload, 1) := by decide +kernel
theorem dX3_tallyOne_20 : decode cX3_tallyOne 20 = .ok (.iconst 1, 1) := by decide +kernel
theorem dX3_tallyOne_21 : decode cX3_tallyOne 21 = .ok (.iadd, 1) := by decide +kernel
theorem dX3_tallyOne_22 : decode cX3_tallyOne 22 = .ok (.iastore, 1) := by decide +kernel
theorem dX3_tallyOne_23 : decode cX3_tallyOne 23 = .ok (.return_, 1) := by decide +kernel
theorem dX3_mostAlike_0 : decode cX3_mostAlike 0 = .ok (.iconst 0, 1) := by decide +kernel
theorem dX3_mostAlike_1 : decode cX3_mostAlike 1 = .ok (.istore_n 2, 1) := by decide +kernel
theorem dX3_mostAlike_2 : decode cX3_mostAlike 2 = .ok (.iconst 0, 1) := by decide +kernel
theorem dX3_mostAlike_3 : decode cX3_mostAlike 3 = .ok (.istore_n 3, 1) := by decide +kernel
theorem dX3_mostAlike_4 : decode cX3_mostAlike 4 = .ok (.iload_n 3, 1) := by decide +kernel
theorem dX3_mostAlike_5 : decode cX3_mostAlike 5 = .ok (.bipush 9, 2) := by decide +kernel
theorem dX3_mostAlike_7 : decode cX3_mostAlike 7 = .ok (.if_icmp .ge 28, 3) := by decide +kernel
theorem dX3_mostAlike_10 : decode cX3_mostAlike 10 = .ok (.iload_n 2, 1) := by decide +kernel
theorem dX3_mostAlike_11 : decode cX3_mostAlike 11 = .ok (.aload_n 0, 1) := by decide +kernel
theorem dX3_mostAlike_12 : decode cX3_mostAlike 12 = .ok (.getfield 11, 3) := by decide +kernel
theorem dX3_mostAlike_15 : decode cX3_mostAlike 15 = .ok (.iload_n 1, 1) := by decide +kernel
theorem dX3_mostAlike_16 : decode cX3_mostAlike 16 = .ok (.bipush 9, 2) := by decide +kernel
theorem dX3_mostAlike_18 : decode cX3_mostAlike 18 = .ok (.imul, 1) := by decide +kernel
theorem dX3_mostAlike_19 : decode cX3_mostAlike 19 = .ok (.iload_n 3, 1) := by decide +kernel
theorem dX3_mostAlike_20 : decode cX3_mostAlike 20 = .ok (.iadd, 1) := by decide +kernel
theorem dX3_mostAlike_21 : decode cX3_mostAlike 21 = .ok (.iconst 0, 1) := by decide +kernel
theorem dX3_mostAlike_22 : decode cX3_mostAlike 22 = .ok (.invokestatic 78, 3) := by decide +kernel
theorem dX3_mostAlike_25 : decode cX3_mostAlike 25 = .ok (.invokestatic 82, 3) := by decide +kernel
theorem dX3_mostAlike_28 : decode cX3_mostAlike 28 = .ok (.istore_n 2, 1) := by decide +kernel
theorem dX3_mostAlike_29 : decode cX3_mostAlike 29 = .ok (.iinc 3 1, 3) := by decide +kernel
theorem dX3_mostAlike_32 : decode cX3_mostAlike 32 = .ok (.goto (-28), 3) := by decide +kernel
theorem dX3_mostAlike_35 : decode cX3_mostAlike 35 = .ok (.iload_n 2, 1) := by decide +kernel
theorem dX3_mostAlike_36 : decode cX3_mostAlike 36 = .ok (.ireturn, 1) := by decide +kernel
theorem dX3_othersFit_0 : decode cX3_othersFit 0 = .ok (.iconst 0, 1) := by decide +kernel
theorem dX3_othersFit_1 : decode cX3_othersFit 1 = .ok (.istore_n 3, 1) := by decide +kernel
theorem dX3_othersFit_2 : decode cX3_othersFit 2 = .ok (.iload_n 3, 1) := by decide +kernel
theorem dX3_othersFit_3 : decode cX3_othersFit 3 = .ok (.bipush 8, 2) := by decide +kernel
theorem dX3_othersFit_5 : decode cX3_othersFit 5 = .ok (.if_icmp .ge 86, 3) := by decide +kernel
theorem dX3_othersFit_8 : decode cX3_othersFit 8 = .ok (.iload_n 3, 1) := by decide +kernel
theorem dX3_othersFit_9 : decode cX3_othersFit 9 = .ok (.iload_n 1, 1) := by decide +kernel
theorem dX3_othersFit_10 : decode cX3_othersFit 10 = .ok (.if_icmp .eq 75, 3) := by decide +kernel
theorem dX3_othersFit_13 : decode cX3_othersFit 13 = .ok (.aload_n 0, 1) := by decide +kernel
theorem dX3_othersFit_14 : decode cX3_othersFit 14 = .ok (.getfield 15, 3) := by decide +kernel
theorem dX3_othersFit_17 : decode cX3_othersFit 17 = .ok (.getfield 88, 3) := by decide +kernel
theorem dX3_othersFit_20 : decode cX3_othersFit 20 = .ok (.iload_n 3, 1) := by decide +kernel
theorem dX3_othersFit_21 : decode cX3_othersFit 21 = .ok (.iconst (-1), 1) := by decide +kernel
theorem dX3_othersFit_22 : decode cX3_othersFit 22 = .ok (.invokevirtual 91, 3) := by decide +kernel
theorem dX3_othersFit_25 : decode cX3_othersFit 25 = .ok (.ifCond .eq 60, 3) := by decide +kernel
theorem dX3_othersFit_28 : decode cX3_othersFit 28 = .ok (.aload_n 0, 1) := by decide +kernel
theorem dX3_othersFit_29 : decode cX3_othersFit 29 = .ok (.getfield 15, 3) := by decide +kernel
theorem dX3_othersFit_32 : decode cX3_othersFit 32 = .ok (.iload_n 3, 1) := by decide +kernel
theorem dX3_othersFit_33 : decode cX3_othersFit 33 = .ok (.invokevirtual 94, 3) := by decide +kernel
theorem dX3_othersFit_36 : decode cX3_othersFit 36 = .ok (.ifCond .ne 5, 3) := by decide +kernel
theorem dX3_othersFit_39 : decode cX3_othersFit 39 = .ok (.iconst 0, 1) := by decide +kernel
theorem dX3_othersFit_40 : decode cX3_othersFit 40 = .ok (.ireturn, 1) := by decide +kernel
theorem dX3_othersFit_41 : decode cX3_othersFit 41 = .ok (.aload_n 0, 1) := by decide +kernel
theorem dX3_othersFit_42 : decode cX3_othersFit 42 = .ok (.getfield 15, 3) := by decide +kernel
theorem dX3_othersFit_45 : decode cX3_othersFit 45 = .ok (.iload_n 3, 1) := by decide +kernel
theorem dX3_othersFit_46 : decode cX3_othersFit 46 = .ok (.invokevirtual 35, 3) := by decide +kernel
theorem dX3_othersFit_49 : decode cX3_othersFit 49 = .ok (.astore 4, 2) := by decide +kernel
theorem dX3_othersFit_51 : decode cX3_othersFit 51 = .ok (.aload 4, 2) := by decide +kernel
theorem dX3_othersFit_53 : decode cX3_othersFit 53 = .ok (.aload_n 0, 1) := by decide +kernel
theorem dX3_othersFit_54 : decode cX3_othersFit 54 = .ok (.getfield 15, 3) := by decide +kernel
theorem dX3_othersFit_57 : decode cX3_othersFit 57 = .ok (.getfield 19, 3) := by decide +kernel
theorem dX3_othersFit_60 : decode cX3_othersFit 60 = .ok (.iload_n 3, 1) := by decide +kernel
theorem dX3_othersFit_61 : decode cX3_othersFit 61 = .ok (.iload_n 2, 1) := by decide +kernel
theorem dX3_othersFit_62 : decode cX3_othersFit 62 = .ok (.invokevirtual 91, 3) := by decide +kernel
theorem dX3_othersFit_65 : decode cX3_othersFit 65 = .ok (.putfield 98, 3) := by decide +kernel
theorem dX3_othersFit_68 : decode cX3_othersFit 68 = .ok (.aload 4, 2) := by decide +kernel
theorem dX3_othersFit_70 : decode cX3_othersFit 70 = .ok (.invokevirtual 44, 3) := by decide +kernel
theorem dX3_othersFit_73 : decode cX3_othersFit 73 = .ok (.aload_n 0, 1) := by decide +kernel
theorem dX3_othersFit_74 : decode cX3_othersFit 74 = .ok (.aload 4, 2) := by decide +kernel
theorem dX3_othersFit_76 : decode cX3_othersFit 76 = .ok (.iload_n 3, 1) := by decide +kernel
theorem dX3_othersFit_77 : decode cX3_othersFit 77 = .ok (.invokevirtual 47, 3) := by decide +kernel
theorem dX3_othersFit_80 : decode cX3_othersFit 80 = .ok (.ifCond .ne 5, 3) := by decide +kernel
theorem dX3_othersFit_83 : decode cX3_othersFit 83 = .ok (.iconst 0, 1) := by decide +kernel
theorem dX3_othersFit_84 : decode cX3_othersFit 84 = .ok (.ireturn, 1) := by decide +kernel
theorem dX3_othersFit_85 : decode cX3_othersFit 85 = .ok (.iinc 3 1, 3) := by decide +kernel
theorem dX3_othersFit_88 : decode cX3_othersFit 88 = .ok (.goto (-86), 3) := by decide +kernel
theorem dX3_othersFit_91 : decode cX3_othersFit 91 = .ok (.iconst 1, 1) := by decide +kernel
theorem dX3_othersFit_92 : decode cX3_othersFit 92 = .ok (.ireturn, 1) := by decide +kernel
theorem dX3_fits_0 : decode cX3_fits 0 = .ok (.aload_n 0, 1) := by decide +kernel
theorem dX3_fits_1 : decode cX3_fits 1 = .ok (.getfield 15, 3) := by decide +kernel
theorem dX3_fits_4 : decode cX3_fits 4 = .ok (.getfield 88, 3) := by decide +kernel
theorem dX3_fits_7 : decode cX3_fits 7 = .ok (.astore_n 3, 1) := by decide +kernel
theorem dX3_fits_8 : decode cX3_fits 8 = .ok (.iconst 0, 1) := by decide +kernel
theorem dX3_fits_9 : decode cX3_fits 9 = .ok (.istore 4, 2) := by decide +kernel
theorem dX3_fits_11 : decode cX3_fits 11 = .ok (.iload 4, 2) := by decide +kernel
theorem dX3_fits_13 : decode cX3_fits 13 = .ok (.aload_n 3, 1) := by decide +kernel
theorem dX3_fits_14 : decode cX3_fits 14 = .ok (.getfield 25, 3) := by decide +kernel
theorem dX3_fits_17 : decode cX3_fits 17 = .ok (.if_icmp .ge 68, 3) := by decide +kernel
theorem dX3_fits_20 : decode cX3_fits 20 = .ok (.aload_n 3, 1) := by decide +kernel
theorem dX3_fits_21 : decode cX3_fits 21 = .ok (.getfield 101, 3) := by decide +kernel
theorem dX3_fits_24 : decode cX3_fits 24 = .ok (.iload 4, 2) := by decide +kernel
theorem dX3_fits_26 : decode cX3_fits 26 = .ok (.iconst (-1), 1) := by decide +kernel
theorem dX3_fits_27 : decode cX3_fits 27 = .ok (.invokestatic 78, 3) := by decide +kernel
theorem dX3_fits_30 : decode cX3_fits 30 = .ok (.iload_n 2, 1) := by decide +kernel
theorem dX3_fits_31 : decode cX3_fits 31 = .ok (.if_icmp .ne 48, 3) := by decide +kernel
theorem dX3_fits_34 : decode cX3_fits 34 = .ok (.aload_n 1, 1) := by decide +kernel
theorem dX3_fits_35 : decode cX3_fits 35 = .ok (.aload_n 3, 1) := by decide +kernel
theorem dX3_fits_36 : decode cX3_fits 36 = .ok (.getfield 104, 3) := by decide +kernel
theorem dX3_fits_39 : decode cX3_fits 39 = .ok (.iload 4, 2) := by decide +kernel
theorem dX3_fits_41 : decode cX3_fits 41 = .ok (.iconst (-1), 1) := by decide +kernel
theorem dX3_fits_42 : decode cX3_fits 42 = .ok (.invokestatic 78, 3) := by decide +kernel
theorem dX3_fits_45 : decode cX3_fits 45 = .ok (.invokevirtual 71, 3) := by decide +kernel
theorem dX3_fits_48 : decode cX3_fits 48 = .ok (.istore 5, 2) := by decide +kernel
theorem dX3_fits_50 : decode cX3_fits 50 = .ok (.aload_n 3, 1) := by decide +kernel
theorem dX3_fits_51 : decode cX3_fits 51 = .ok (.getfield 107, 3) := by decide +kernel
theorem dX3_fits_54 : decode cX3_fits 54 = .ok (.iload 4, 2) := by decide +kernel
theorem dX3_fits_56 : decode cX3_fits 56 = .ok (.bipush 8, 2) := by decide +kernel
theorem dX3_fits_58 : decode cX3_fits 58 = .ok (.invokestatic 78, 3) := by decide +kernel
theorem dX3_fits_61 : decode cX3_fits 61 = .ok (.iload 5, 2) := by decide +kernel
theorem dX3_fits_63 : decode cX3_fits 63 = .ok (.iconst (-1), 1) := by decide +kernel
theorem dX3_fits_64 : decode cX3_fits 64 = .ok (.if_icmp .ne 8, 3) := by decide +kernel
theorem dX3_fits_67 : decode cX3_fits 67 = .ok (.bipush 8, 2) := by decide +kernel
theorem dX3_fits_69 : decode cX3_fits 69 = .ok (.goto 5, 3) := by decide +kernel
theorem dX3_fits_72 : decode cX3_fits 72 = .ok (.iload 5, 2) := by decide +kernel
theorem dX3_fits_74 : decode cX3_fits 74 = .ok (.if_icmp .eq 5, 3) := by decide +kernel
theorem dX3_fits_77 : decode cX3_fits 77 = .ok (.iconst 0, 1) := by decide +kernel
theorem dX3_fits_78 : decode cX3_fits 78 = .ok (.ireturn, 1) := by decide +kernel
theorem dX3_fits_79 : decode cX3_fits 79 = .ok (.iinc 4 1, 3) := by decide +kernel
theorem dX3_fits_82 : decode cX3_fits 82 = .ok (.goto (-71), 3) := by decide +kernel
theorem dX3_fits_85 : decode cX3_fits 85 = .ok (.iconst 1, 1) := by decide +kernel
theorem dX3_fits_86 : decode cX3_fits 86 = .ok (.ireturn, 1) := by decide +kernel
theorem dX4_init_0 : decode cX4_init 0 = .ok (.aload_n 0, 1) := by decide +kernel
theorem dX4_init_1 : decode cX4_init 1 = .ok (.invokespecial 3, 3) := by decide +kernel
theorem dX4_init_4 : decode cX4_init 4 = .ok (.iload_n 1, 1) := by decide +kernel
theorem dX4_init_5 : decode cX4_init 5 = .ok (.iconst 0, 1) := by decide +kernel
theorem dX4_init_6 : decode cX4_init 6 = .ok (.invokestatic 9, 3) := by decide +kernel
theorem dX4_init_9 : decode cX4_init 9 = .ok (.istore_n 2, 1) := by decide +kernel
theorem dX4_init_10 : decode cX4_init 10 = .ok (.aload_n 0, 1) := by decide +kernel
theorem dX4_init_11 : decode cX4_init 11 = .ok (.iload_n 2, 1) := by decide +kernel
theorem dX4_init_12 : decode cX4_init 12 = .ok (.newarray .int, 2) := by decide +kernel
theorem dX4_init_14 : decode cX4_init 14 = .ok (.putfield 15, 3) := by decide +kernel
theorem dX4_init_17 : decode cX4_init 17 = .ok (.aload_n 0, 1) := by decide +kernel
theorem dX4_init_18 : decode cX4_init 18 = .ok (.iload_n 2, 1) := by decide +kernel
theorem dX4_init_19 : decode cX4_init 19 = .ok (.newarray .int, 2) := by decide +kernel
theorem dX4_init_21 : decode cX4_init 21 = .ok (.putfield 21, 3) := by decide +kernel
theorem dX4_init_24 : decode cX4_init 24 = .ok (.aload_n 0, 1) := by decide +kernel
theorem dX4_init_25 : decode cX4_init 25 = .ok (.iload_n 2, 1) := by decide +kernel
theorem dX4_init_26 : decode cX4_init 26 = .ok (.newarray .int, 2) := by decide +kernel
theorem dX4_init_28 : decode cX4_init 28 = .ok (.putfield 24, 3) := by decide +kernel
theorem dX4_init_31 : decode cX4_init 31 = .ok (.return_, 1) := by decide +kernel
theorem dX4_isFull_0 : decode cX4_isFull 0 = .ok (.aload_n 0, 1) := by decide +kernel
theorem dX4_isFull_1 : decode cX4_isFull 1 = .ok (.getfield 27, 3) := by decide +kernel
theorem dX4_isFull_4 : decode cX4_isFull 4 = .ok (.aload_n 0, 1) := by decide +kernel
theorem dX4_isFull_5 : decode cX4_isFull 5 = .ok (.getfield 15, 3) := by decide +kernel
theorem dX4_isFull_8 : decode cX4_isFull 8 = .ok (.arraylength, 1) := by decide +kernel
theorem dX4_isFull_9 : decode cX4_isFull 9 = .ok (.if_icmp .lt 7, 3) := by decide +kernel
theorem dX4_isFull_12 : decode cX4_isFull 12 = .ok (.iconst 1, 1) := by decide +kernel
theorem dX4_isFull_13 : decode cX4_isFull 13 = .ok (.goto 4, 3) := by decide +kernel
theorem dX4_isFull_16 : decode cX4_isFull 16 = .ok (.iconst 0, 1) := by decide +kernel
theorem dX4_isFull_17 : decode cX4_isFull 17 = .ok (.ireturn, 1) := by decide +kernel
theorem dX4_append_0 : decode cX4_append 0 = .ok (.aload_n 0, 1) := by decide +kernel
theorem dX4_append_1 : decode cX4_append 1 = .ok (.getfield 27, 3) := by decide +kernel
theorem dX4_append_4 : decode cX4_append 4 = .ok (.istore 4, 2) := by decide +kernel
theorem dX4_append_6 : decode cX4_append 6 = .ok (.iload 4, 2) := by decide +kernel
theorem dX4_append_8 : decode cX4_append 8 = .ok (.ifCond .lt 67, 3) := by decide +kernel
theorem dX4_append_11 : decode cX4_append 11 = .ok (.iload 4, 2) := by decide +kernel
theorem dX4_append_13 : decode cX4_append 13 = .ok (.aload_n 0, 1) := by decide +kernel
theorem dX4_append_14 : decode cX4_append 14 = .ok (.getfield 15, 3) := by decide +kernel
theorem dX4_append_17 : decode cX4_append 17 = .ok (.arraylength, 1) := by decide +kernel
theorem dX4_append_18 : decode cX4_append 18 = .ok (.if_icmp .ge 57, 3) := by decide +kernel
theorem dX4_append_21 : decode cX4_append 21 = .ok (.iload 4, 2) := by decide +kernel
theorem dX4_append_23 : decode cX4_append 23 = .ok (.aload_n 0, 1) := by decide +kernel
theorem dX4_append_24 : decode cX4_append 24 = .ok (.getfield 21, 3) := by decide +kernel
theorem dX4_append_27 : decode cX4_append 27 = .ok (.arraylength, 1) := by decide +kernel
theorem dX4_append_28 : decode cX4_append 28 = .ok (.if_icmp .ge 47, 3) := by decide +kernel
theorem dX4_append_31 : decode cX4_append 31 = .ok (.iload 4, 2) := by decide +kernel
theorem dX4_append_33 : decode cX4_append 33 = .ok (.aload_n 0, 1) := by decide +kernel
theorem dX4_append_34 : decode cX4_append 34 = .ok (.getfield 24, 3) := by decide +kernel
theorem dX4_append_37 : decode cX4_append 37 = .ok (.arraylength, 1) := by decide +kernel
theorem dX4_append_38 : decode cX4_append 38 = .ok (.if_icmp .ge 37, 3) := by decide +kernel
theorem dX4_append_41 : decode cX4_append 41 = .ok (.aload_n 0, 1) := by decide +kernel
theorem dX4_append_42 : decode cX4_append 42 = .ok (.getfield 15, 3) := by decide +kernel
theorem dX4_append_45 : decode cX4_append 45 = .ok (.iload 4, 2) := by decide +kernel
theorem dX4_append_47 : decode cX4_append 47 = .ok (.iload_n 1, 1) := by decide +kernel
theorem dX4_append_48 : decode cX4_append 48 = .ok (.iastore, 1) := by decide +kernel
theorem dX4_append_49 : decode cX4_append 49 = .ok (.aload_n 0, 1) := by decide +kernel
theorem dX4_append_50 : decode cX4_append 50 = .ok (.getfield 21, 3) := by decide +kernel
theorem dX4_append_53 : decode cX4_append 53 = .ok (.iload 4, 2) := by decide +kernel
theorem dX4_append_55 : decode cX4_append 55 = .ok (.iload_n 2, 1) := by decide +kernel
theorem dX4_append_56 : decode cX4_append 56 = .ok (.iastore, 1) := by decide +kernel
theorem dX4_append_57 : decode cX4_append 57 = .ok (.aload_n 0, 1) := by decide +kernel
theorem dX4_append_58 : decode cX4_append 58 = .ok (.getfield 24, 3) := by decide +kernel
theorem dX4_append_61 : decode cX4_append 61 = .ok (.iload 4, 2) := by decide +kernel
theorem dX4_append_63 : decode cX4_append 63 = .ok (.iload_n 3, 1) := by decide +kernel
theorem dX4_append_64 : decode cX4_append 64 = .ok (.iastore, 1) := by decide +kernel
theorem dX4_append_65 : decode cX4_append 65 = .ok (.aload_n 0, 1) := by decide +kernel
theorem dX4_append_66 : decode cX4_append 66 = .ok (.dup, 1) := by decide +kernel
theorem dX4_append_67 : decode cX4_append 67 = .ok (.getfield 27, 3) := by decide +kernel
theorem dX4_append_70 : decode cX4_append 70 = .ok (.iconst 1, 1) := by decide +kernel
theorem dX4_append_71 : decode cX4_append 71 = .ok (.iadd, 1) := by decide +kernel
theorem dX4_append_72 : decode cX4_append 72 = .ok (.putfield 27, 3) := by decide +kernel
theorem dX4_append_75 : decode cX4_append 75 = .ok (.return_, 1) := by decide +kernel
theorem dX4_nightsOf_0 : decode cX4_nightsOf 0 = .ok (.iconst 0, 1) := by decide +kernel
theorem dX4_nightsOf_1 : decode cX4_nightsOf 1 = .ok (.istore_n 3, 1) := by decide +kernel
theorem dX4_nightsOf_2 : decode cX4_nightsOf 2 = .ok (.iconst 0, 1) := by decide +kernel
theorem dX4_nightsOf_3 : decode cX4_nightsOf 3 = .ok (.istore 4, 2) := by decide +kernel
theorem dX4_nightsOf_5 : decode cX4_nightsOf 5 = .ok (.iload 4, 2) := by decide +kernel
theorem dX4_nightsOf_7 : decode cX4_nightsOf 7 = .ok (.aload_n 0, 1) := by decide +kernel
theorem dX4_nightsOf_8 : decode cX4_nightsOf 8 = .ok (.getfield 27, 3) := by decide +kernel
theorem dX4_nightsOf_11 : decode cX4_nightsOf 11 = .ok (.if_icmp .ge 56, 3) := by decide +kernel
theorem dX4_nightsOf_14 : decode cX4_nightsOf 14 = .ok (.aload_n 0, 1) := by decide +kernel
theorem dX4_nightsOf_15 : decode cX4_nightsOf 15 = .ok (.getfield 15, 3) := by decide +kernel
theorem dX4_nightsOf_18 : decode cX4_nightsOf 18 = .ok (.iload 4, 2) := by decide +kernel
theorem dX4_nightsOf_20 : decode cX4_nightsOf 20 = .ok (.iconst (-1), 1) := by decide +kernel
theorem dX4_nightsOf_21 : decode cX4_nightsOf 21 = .ok (.invokestatic 31, 3) := by decide +kernel
theorem dX4_nightsOf_24 : decode cX4_nightsOf 24 = .ok (.istore 5, 2) := by decide +kernel
theorem dX4_nightsOf_26 : decode cX4_nightsOf 26 = .ok (.iload 4, 2) := by decide +kernel
theorem dX4_nightsOf_28 : decode cX4_nightsOf 28 = .ok (.iload_n 2, 1) := by decide +kernel
theorem dX4_nightsOf_29 : decode cX4_nightsOf 29 = .ok (.if_icmp .eq 32, 3) := by decide +kernel
theorem dX4_nightsOf_32 : decode cX4_nightsOf 32 = .ok (.aload_n 0, 1) := by decide +kernel
theorem dX4_nightsOf_33 : decode cX4_nightsOf 33 = .ok (.getfield 21, 3) := by decide +kernel
theorem dX4_nightsOf_36 : decode cX4_nightsOf 36 = .ok (.iload 4, 2) := by decide +kernel
theorem dX4_nightsOf_38 : decode cX4_nightsOf 38 = .ok (.iconst (-1), 1) := by decide +kernel
theorem dX4_nightsOf_39 : decode cX4_nightsOf 39 = .ok (.invokestatic 31, 3) := by decide +kernel
theorem dX4_nightsOf_42 : decode cX4_nightsOf 42 = .ok (.iload_n 1, 1) := by decide +kernel
theorem dX4_nightsOf_43 : decode cX4_nightsOf 43 = .ok (.if_icmp .ne 18, 3) := by decide +kernel
theorem dX4_nightsOf_46 : decode cX4_nightsOf 46 = .ok (.iload 5, 2) := by decide +kernel
theorem dX4_nightsOf_48 : decode cX4_nightsOf 48 = .ok (.invokestatic 35, 3) := by decide +kernel
theorem dX4_nightsOf_51 : decode cX4_nightsOf 51 = .ok (.ifCond .eq 10, 3) := by decide +kernel
theorem dX4_nightsOf_54 : decode cX4_nightsOf 54 = .ok (.iload_n 3, 1) := by decide +kernel
theorem dX4_nightsOf_55 : decode cX4_nightsOf 55 = .ok (.iconst 1, 1) := by decide +kernel
theorem dX4_nightsOf_56 : decode cX4_nightsOf 56 = .ok (.iload 5, 2) := by decide +kernel
theorem dX4_nightsOf_58 : decode cX4_nightsOf 58 = .ok (.ishl, 1) := by decide +kernel
theorem dX4_nightsOf_59 : decode cX4_nightsOf 59 = .ok (.ior, 1) := by decide +kernel
theorem dX4_nightsOf_60 : decode cX4_nightsOf 60 = .ok (.istore_n 3, 1) := by decide +kernel
theorem dX4_nightsOf_61 : decode cX4_nightsOf 61 = .ok (.iinc 4 1, 3) := by decide +kernel
theorem dX4_nightsOf_64 : decode cX4_nightsOf 64 = .ok (.goto (-59), 3) := by decide +kernel
theorem dX4_nightsOf_67 : decode cX4_nightsOf 67 = .ok (.iload_n 3, 1) := by decide +kernel
theorem dX4_nightsOf_68 : decode cX4_nightsOf 68 = .ok (.ireturn, 1) := by decide +kernel
theorem dX5_init_0 : decode cX5_init 0 = .ok (.aload_n 0, 1) := by decide +kernel
theorem dX5_init_1 : decode cX5_init 1 = .ok (.invokespecial 3, 3) := by decide +kernel
theorem dX5_init_4 : decode cX5_init 4 = .ok (.aload_n 0, 1) := by decide +kernel
theorem dX5_init_5 : decode cX5_init 5 = .ok (.sipush 240, 3) := by decide +kernel
theorem dX5_init_8 : decode cX5_init 8 = .ok (.newarray .int, 2) := by decide +kernel
theorem dX5_init_10 : decode cX5_init 10 = .ok (.putfield 9, 3) := by decide +kernel
theorem dX5_init_13 : decode cX5_init 13 = .ok (.aload_n 0, 1) := by decide +kernel
theorem dX5_init_14 : decode cX5_init 14 = .ok (.sipush 256, 3) := by decide +kernel
theorem dX5_init_17 : decode cX5_init 17 = .ok (.newarray .int, 2) := by decide +kernel
theorem dX5_init_19 : decode cX5_init 19 = .ok (.putfield 15, 3) := by decide +kernel
theorem dX5_init_22 : decode cX5_init 22 = .ok (.aload_n 0, 1) := by decide +kernel
theorem dX5_init_23 : decode cX5_init 23 = .ok (.sipush 256, 3) := by decide +kernel
theorem dX5_init_26 : decode cX5_init 26 = .ok (.newarray .int, 2) := by decide +kernel
theorem dX5_init_28 : decode cX5_init 28 = .ok (.putfield 18, 3) := by decide +kernel
theorem dX5_init_31 : decode cX5_init 31 = .ok (.aload_n 0, 1) := by decide +kernel
theorem dX5_init_32 : decode cX5_init 32 = .ok (.aload_n 1, 1) := by decide +kernel
theorem dX5_init_33 : decode cX5_init 33 = .ok (.putfield 21, 3) := by decide +kernel
theorem dX5_init_36 : decode cX5_init 36 = .ok (.return_, 1) := by decide +kernel
theorem dX5_findRipe_0 : decode cX5_findRipe 0 = .ok (.aload_n 0, 1) := by decide +kernel
theorem dX5_findRipe_1 : decode cX5_findRipe 1 = .ok (.getfield 21, 3) := by decide +kernel
theorem dX5_findRipe_4 : decode cX5_findRipe 4 = .ok (.iload_n 1, 1) := by decide +kernel
theorem dX5_findRipe_5 : decode cX5_findRipe 5 = .ok (.invokevirtual 25, 3) := by decide +kernel
theorem dX5_findRipe_8 : decode cX5_findRipe 8 = .ok (.astore_n 3, 1) := by decide +kernel
theorem dX5_findRipe_9 : decode cX5_findRipe 9 = .ok (.aload_n 0, 1) := by decide +kernel
theorem dX5_findRipe_10 : decode cX5_findRipe 10 = .ok (.iconst (-1), 1) := by decide +kernel
theorem dX5_findRipe_11 : decode cX5_findRipe 11 = .ok (.putfield 31, 3) := by decide +kernel
theorem dX5_findRipe_14 : decode cX5_findRipe 14 = .ok (.aload_n 0, 1) := by decide +kernel
theorem dX5_findRipe_15 : decode cX5_findRipe 15 = .ok (.iconst (-1), 1) := by decide +kernel
theorem dX5_findRipe_16 : decode cX5_findRipe 16 = .ok (.putfield 35, 3) := by decide +kernel
theorem dX5_findRipe_19 : decode cX5_findRipe 19 = .ok (.aload_n 0, 1) := by decide +kernel
theorem dX5_findRipe_20 : decode cX5_findRipe 20 = .ok (.iconst (-1), 1) := by decide +kernel
theorem dX5_findRipe_21 : decode cX5_findRipe 21 = .ok (.putfield 38, 3) := by decide +kernel
theorem dX5_findRipe_24 : decode cX5_findRipe 24 = .ok (.aload_n 3, 1) := by decide +kernel
theorem dX5_findRipe_25 : decode cX5_findRipe 25 = .ok (.iload_n 2, 1) := by decide +kernel
theorem dX5_findRipe_26 : decode cX5_findRipe 26 = .ok (.invokevirtual 41, 3) := by decide +kernel
theorem dX5_findRipe_29 : decode cX5_findRipe 29 = .ok (.aload_n 3, 1) := by decide +kernel
theorem dX5_findRipe_30 : decode cX5_findRipe 30 = .ok (.getfield 47, 3) := by decide +kernel
theorem dX5_findRipe_33 : decode cX5_findRipe 33 = .ok (.iconst 1, 1) := by decide +kernel
theorem dX5_findRipe_34 : decode cX5_findRipe 34 = .ok (.isub, 1) := by decide +kernel
theorem dX5_findRipe_35 : decode cX5_findRipe 35 = .ok (.if_icmp .ne 11, 3) := by decide +kernel
theorem dX5_findRipe_38 : decode cX5_findRipe 38 = .ok (.aload_n 0, 1) := by decide +kernel
theorem dX5_findRipe_39 : decode cX5_findRipe 39 = .ok (.iconst 0, 1) := by decide +kernel
theorem dX5_findRipe_40 : decode cX5_findRipe 40 = .ok (.putfield 31, 3) := by decide +kernel
theorem dX5_findRipe_43 : decode cX5_findRipe 43 = .ok (.goto 26, 3) := by decide +kernel
theorem dX5_findRipe_46 : decode cX5_findRipe 46 = .ok (.aload_n 3, 1) := by decide +kernel
theorem dX5_findRipe_47 : decode cX5_findRipe 47 = .ok (.getfield 50, 3) := by decide +kernel
theorem dX5_findRipe_50 : decode cX5_findRipe 50 = .ok (.iconst 2, 1) := by decide +kernel
theorem dX5_findRipe_51 : decode cX5_findRipe 51 = .ok (.if_icmp .eq 18, 3) := by decide +kernel
theorem dX5_findRipe_54 : decode cX5_findRipe 54 = .ok (.aload_n 0, 1) := by decide +kernel
theorem dX5_findRipe_55 : decode cX5_findRipe 55 = .ok (.aload_n 3, 1) := by decide +kernel
theorem dX5_findRipe_56 : decode cX5_findRipe 56 = .ok (.iload_n 2, 1) := by decide +kernel
theorem dX5_findRipe_57 : decode cX5_findRipe 57 = .ok (.invokevirtual 53, 3) := by decide +kernel
theorem dX5_findRipe_60 : decode cX5_findRipe 60 = .ok (.ifCond .ne 9, 3) := by decide +kernel
theorem dX5_findRipe_63 : decode cX5_findRipe 63 = .ok (.aload_n 0, 1) := by decide +kernel
theorem dX5_findRipe_64 : decode cX5_findRipe 64 = .ok (.aload_n 3, 1) := by decide +kernel
theorem dX5_findRipe_65 : decode cX5_findRipe 65 = .ok (.iload_n 2, 1) := by decide +kernel
theorem dX5_findRipe_66 : decode cX5_findRipe 66 = .ok (.invokevirtual 57, 3) := by decide +kernel
theorem dX5_findRipe_69 : decode cX5_findRipe 69 = .ok (.return_, 1) := by decide +kernel
theorem dX5_firstOfUse_0 : decode cX5_firstOfUse 0 = .ok (.aload_n 0, 1) := by decide +kernel
theorem dX5_firstOfUse_1 : decode cX5_firstOfUse 1 = .ok (.getfield 61, 3) := by decide +kernel
theorem dX5_firstOfUse_4 : decode cX5_firstOfUse 4 = .ok (.iconst 1, 1) := by decide +kernel
theorem dX5_firstOfUse_5 : decode cX5_firstOfUse 5 = .ok (.isub, 1) := by decide +kernel
theorem dX5_firstOfUse_6 : decode cX5_firstOfUse 6 = .ok (.iconst 0, 1) := by decide +kernel
theorem dX5_firstOfUse_7 : decode cX5_firstOfUse 7 = .ok (.invokestatic 64, 3) := by decide +kernel
theorem dX5_firstOfUse_10 : decode cX5_firstOfUse 10 = .ok (.ireturn, 1) := by decide +kernel
theorem dX5_findRipeByOne_0 : decode cX5_findRipeByOne 0 = .ok (.aload_n 1, 1) := by decide +kernel
theorem dX5_findRipeByOne_1 : decode cX5_findRipeByOne 1 = .ok (.getfield 70, 3) := by decide +kernel
theorem dX5_findRipeByOne_4 : decode cX5_findRipeByOne 4 = .ok (.istore_n 3, 1) := by decide +kernel
theorem dX5_findRipeByOne_5 : decode cX5_findRipeByOne 5 = .ok (.aload_n 1, 1) := by decide +kernel
theorem dX5_findRipeByOne_6 : decode cX5_findRipeByOne 6 = .ok (.invokestatic 73, 3) := by decide +kernel
theorem dX5_findRipeByOne_9 : decode cX5_findRipeByOne 9 = .ok (.istore 4, 2) := by decide +kernel
theorem dX5_findRipeByOne_11 : decode cX5_findRipeByOne 11 = .ok (.iload 4, 2) := by decide +kernel
theorem dX5_findRipeByOne_13 : decode cX5_findRipeByOne 13 = .ok (.iload_n 2, 1) := by decide +kernel
theorem dX5_findRipeByOne_14 : decode cX5_findRipeByOne 14 = .ok (.if_icmp .gt 46, 3) := by decide +kernel
theorem dX5_findRipeByOne_17 : decode cX5_findRipeByOne 17 = .ok (.aload_n 1, 1) := by decide +kernel
theorem dX5_findRipeByOne_18 : decode cX5_findRipeByOne 18 = .ok (.iload_n 3, 1) := by decide +kernel
theorem dX5_findRipeByOne_19 : decode cX5_findRipeByOne 19 = .ok (.iconst 1, 1) := by decide +kernel
theorem dX5_findRipeByOne_20 : decode cX5_findRipeByOne 20 = .ok (.iload 4, 2) := by decide +kernel
theorem dX5_findRipeByOne_22 : decode cX5_findRipeByOne 22 = .ok (.ishl, 1) := by decide +kernel
theorem dX5_findRipeByOne_23 : decode cX5_findRipeByOne 23 = .ok (.ior, 1) := by decide +kernel
theorem dX5_findRipeByOne_24 : decode cX5_findRipeByOne 24 = .ok (.putfield 70, 3) := by decide +kernel
theorem dX5_findRipeByOne_27 : decode cX5_findRipeByOne 27 = .ok (.aload_n 1, 1) := by decide +kernel
theorem dX5_findRipeByOne_28 : decode cX5_findRipeByOne 28 = .ok (.iload_n 2, 1) := by decide +kernel
theorem dX5_findRipeByOne_29 : decode cX5_findRipeByOne 29 = .ok (.invokevirtual 41, 3) := by decide +kernel
theorem dX5_findRipeByOne_32 : decode cX5_findRipeByOne 32 = .ok (.aload_n 1, 1) := by decide +kernel
theorem dX5_findRipeByOne_33 : decode cX5_findRipeByOne 33 = .ok (.getfield 47, 3) := by decide +kernel
theorem dX5_findRipeByOne_36 : decode cX5_findRipeByOne 36 = .ok (.iconst 1, 1) := by decide +kernel
theorem dX5_findRipeByOne_37 : decode cX5_findRipeByOne 37 = .ok (.isub, 1) := by decide +kernel
theorem dX5_findRipeByOne_38 : decode cX5_findRipeByOne 38 = .ok (.if_icmp .ne 16, 3) := by decide +kernel
theorem dX5_findRipeByOne_41 : decode cX5_findRipeByOne 41 = .ok (.aload_n 0, 1) := by decide +kernel
theorem dX5_findRipeByOne_42 : decode cX5_findRipeByOne 42 = .ok (.iconst 1, 1) := by decide +kernel
theorem dX5_findRipeByOne_43 : decode cX5_findRipeByOne 43 = .ok (.putfield 31, 3) := by decide +kernel
theorem dX5_findRipeByOne_46 : decode cX5_findRipeByOne 46 = .ok (.aload_n 0, 1) := by decide +kernel
theorem dX5_findRipeByOne_47 : decode cX5_findRipeByOne 47 = .ok (.iload 4, 2) := by decide +kernel
theorem dX5_findRipeByOne_49 : decode cX5_findRipeByOne 49 = .ok (.putfield 35, 3) := by decide +kernel
theorem dX5_findRipeByOne_52 : decode cX5_findRipeByOne 52 = .ok (.iconst 1, 1) := by decide +kernel
theorem dX5_findRipeByOne_53 : decode cX5_findRipeByOne 53 = .ok (.ireturn, 1) := by decide +kernel
theorem dX5_findRipeByOne_54 : decode cX5_findRipeByOne 54 = .ok (.iinc 4 1, 3) := by decide +kernel
theorem dX5_findRipeByOne_57 : decode cX5_findRipeByOne 57 = .ok (.goto (-46), 3) := by decide +kernel
theorem dX5_findRipeByOne_60 : decode cX5_findRipeByOne 60 = .ok (.aload_n 1, 1) := by decide +kernel
theorem dX5_findRipeByOne_61 : decode cX5_findRipeByOne 61 = .ok (.iload_n 3, 1) := by decide +kernel
theorem dX5_findRipeByOne_62 : decode cX5_findRipeByOne 62 = .ok (.putfield 70, 3) := by decide +kernel
theorem dX5_findRipeByOne_65 : decode cX5_findRipeByOne 65 = .ok (.iconst 0, 1) := by decide +kernel
theorem dX5_findRipeByOne_66 : decode cX5_findRipeByOne 66 = .ok (.ireturn, 1) := by decide +kernel
theorem dX5_findRipeByTwo_0 : decode cX5_findRipeByTwo 0 = .ok (.aload_n 1, 1) := by decide +kernel
theorem dX5_findRipeByTwo_1 : decode cX5_findRipeByTwo 1 = .ok (.getfield 70, 3) := by decide +kernel
theorem dX5_findRipeByTwo_4 : decode cX5_findRipeByTwo 4 = .ok (.istore_n 3, 1) := by decide +kernel
theorem dX5_findRipeByTwo_5 : decode cX5_findRipeByTwo 5 = .ok (.aload_n 1, 1) := by decide +kernel
theorem dX5_findRipeByTwo_6 : decode cX5_findRipeByTwo 6 = .ok (.invokestatic 73, 3) := by decide +kernel
theorem dX5_findRipeByTwo_9 : decode cX5_findRipeByTwo 9 = .ok (.istore 4, 2) := by decide +kernel
theorem dX5_findRipeByTwo_11 : decode cX5_findRipeByTwo 11 = .ok (.iload 4, 2) := by decide +kernel
theorem dX5_findRipeByTwo_13 : decode cX5_findRipeByTwo 13 = .ok (.iload_n 2, 1) := by decide +kernel
theorem dX5_findRipeByTwo_14 : decode cX5_findRipeByTwo 14 = .ok (.if_icmp .gt 74, 3) := by decide +kernel
theorem dX5_findRipeByTwo_17 : decode cX5_findRipeByTwo 17 = .ok (.iload 4, 2) := by decide +kernel
theorem dX5_findRipeByTwo_19 : decode cX5_findRipeByTwo 19 = .ok (.iconst 1, 1) := by decide +kernel
theorem dX5_findRipeByTwo_20 : decode cX5_findRipeByTwo 20 = .ok (.iadd, 1) := by decide +kernel
theorem dX5_findRipeByTwo_21 : decode cX5_findRipeByTwo 21 = .ok (.istore 5, 2) := by decide +kernel
theorem dX5_findRipeByTwo_23 : decode cX5_findRipeByTwo 23 = .ok (.iload 5, 2) := by decide +kernel
theorem dX5_findRipeByTwo_25 : decode cX5_findRipeByTwo 25 = .ok (.iload_n 2, 1) := by decide +kernel
theorem dX5_findRipeByTwo_26 : decode cX5_findRipeByTwo 26 = .ok (.if_icmp .gt 56, 3) := by decide +kernel
theorem dX5_findRipeByTwo_29 : decode cX5_findRipeByTwo 29 = .ok (.aload_n 1, 1) := by decide +kernel
theorem dX5_findRipeByTwo_30 : decode cX5_findRipeByTwo 30 = .ok (.iload_n 3, 1) := by decide +kernel
theorem dX5_findRipeByTwo_31 : decode cX5_findRipeByTwo 31 = .ok (.iconst 1, 1) := by decide +kernel
theorem dX5_findRipeByTwo_32 : decode cX5_findRipeByTwo 32 = .ok (.iload 4, 2) := by decide +kernel
theorem dX5_findRipeByTwo_34 : decode cX5_findRipeByTwo 34 = .ok (.ishl, 1) := by decide +kernel
theorem dX5_findRipeByTwo_35 : decode cX5_findRipeByTwo 35 = .ok (.ior, 1) := by decide +kernel
theorem dX5_findRipeByTwo_36 : decode cX5_findRipeByTwo 36 = .ok (.iconst 1, 1) := by decide +kernel
theorem dX5_findRipeByTwo_37 : decode cX5_findRipeByTwo 37 = .ok (.iload 5, 2) := by decide +kernel
theorem dX5_findRipeByTwo_39 : decode cX5_findRipeByTwo 39 = .ok (.ishl, 1) := by decide +kernel
theorem dX5_findRipeByTwo_40 : decode cX5_findRipeByTwo 40 = .ok (.ior, 1) := by decide +kernel
theorem dX5_findRipeByTwo_41 : decode cX5_findRipeByTwo 41 = .ok (.putfield 70, 3) := by decide +kernel
theorem dX5_findRipeByTwo_44 : decode cX5_findRipeByTwo 44 = .ok (.aload_n 1, 1) := by decide +kernel
theorem dX5_findRipeByTwo_45 : decode cX5_findRipeByTwo 45 = .ok (.iload_n 2, 1) := by decide +kernel
theorem dX5_findRipeByTwo_46 : decode cX5_findRipeByTwo 46 = .ok (.invokevirtual 41, 3) := by decide +kernel
theorem dX5_findRipeByTwo_49 : decode cX5_findRipeByTwo 49 = .ok (.aload_n 1, 1) := by decide +kernel
theorem dX5_findRipeByTwo_50 : decode cX5_findRipeByTwo 50 = .ok (.getfield 47, 3) := by decide +kernel
theorem dX5_findRipeByTwo_53 : decode cX5_findRipeByTwo 53 = .ok (.iconst 1, 1) := by decide +kernel
theorem dX5_findRipeByTwo_54 : decode cX5_findRipeByTwo 54 = .ok (.isub, 1) := by decide +kernel
theorem dX5_findRipeByTwo_55 : decode cX5_findRipeByTwo 55 = .ok (.if_icmp .ne 21, 3) := by decide +kernel
theorem dX5_findRipeByTwo_58 : decode cX5_findRipeByTwo 58 = .ok (.aload_n 0, 1) := by decide +kernel
theorem dX5_findRipeByTwo_59 : decode cX5_findRipeByTwo 59 = .ok (.iconst 2, 1) := by decide +kernel
theorem dX5_findRipeByTwo_60 : decode cX5_findRipeByTwo 60 = .ok (.putfield 31, 3) := by decide +kernel
theorem dX5_findRipeByTwo_63 : decode cX5_findRipeByTwo 63 = .ok (.aload_n 0, 1) := by decide +kernel
theorem dX5_findRipeByTwo_64 : decode cX5_findRipeByTwo 64 = .ok (.iload 4, 2) := by decide +kernel
theorem dX5_findRipeByTwo_66 : decode cX5_findRipeByTwo 66 = .ok (.putfield 35, 3) := by decide +kernel
theorem dX5_findRipeByTwo_69 : decode cX5_findRipeByTwo 69 = .ok (.aload_n 0, 1) := by decide +kernel
theorem dX5_findRipeByTwo_70 : decode cX5_findRipeByTwo 70 = .ok (.iload 5, 2) := by decide +kernel
theorem dX5_findRipeByTwo_72 : decode cX5_findRipeByTwo 72 = .ok (.putfield 38, 3) := by decide +kernel
theorem dX5_findRipeByTwo_75 : decode cX5_findRipeByTwo 75 = .ok (.return_, 1) := by decide +kernel
theorem dX5_findRipeByTwo_76 : decode cX5_findRipeByTwo 76 = .ok (.iinc 5 1, 3) := by decide +kernel
theorem dX5_findRipeByTwo_79 : decode cX5_findRipeByTwo 79 = .ok (.goto (-56), 3) := by decide +kernel
theorem dX5_findRipeByTwo_82 : decode cX5_findRipeByTwo 82 = .ok (.iinc 4 1, 3) := by decide +kernel
theorem dX5_findRipeByTwo_85 : decode cX5_findRipeByTwo 85 = .ok (.goto (-74), 3) := by decide +kernel
theorem dX5_findRipeByTwo_88 : decode cX5_findRipeByTwo 88 = .ok (.return_, 1) := by decide +kernel
theorem dX5_findCold_0 : decode cX5_findCold 0 = .ok (.aload_n 0, 1) := by decide +kernel
theorem dX5_findCold_1 : decode cX5_findCold 1 = .ok (.getfield 21, 3) := by decide +kernel
theorem dX5_findCold_4 : decode cX5_findCold 4 = .ok (.iload_n 1, 1) := by decide +kernel
theorem dX5_findCold_5 : decode cX5_findCold 5 = .ok (.invokevirtual 25, 3) := by decide +kernel
theorem dX5_findCold_8 : decode cX5_findCold 8 = .ok (.astore_n 2, 1) := by decide +kernel
theorem dX5_findCold_9 : decode cX5_findCold 9 = .ok (.aload_n 0, 1) := by decide +kernel
theorem dX5_findCold_10 : decode cX5_findCold 10 = .ok (.iconst (-1), 1) := by decide +kernel
theorem dX5_findCold_11 : decode cX5_findCold 11 = .ok (.putfield 77, 3) := by decide +kernel
theorem dX5_findCold_14 : decode cX5_findCold 14 = .ok (.aload_n 0, 1) := by decide +kernel
theorem dX5_findCold_15 : decode cX5_findCold 15 = .ok (.iconst (-1), 1) := by decide +kernel
theorem dX5_findCold_16 : decode cX5_findCold 16 = .ok (.putfield 80, 3) := by decide +kernel
theorem dX5_findCold_19 : decode cX5_findCold 19 = .ok (.iconst 0, 1) := by decide +kernel
theorem dX5_findCold_20 : decode cX5_findCold 20 = .ok (.istore_n 3, 1) := by decide +kernel
theorem dX5_findCold_21 : decode cX5_findCold 21 = .ok (.iload_n 3, 1) := by decide +kernel
theorem dX5_findCold_22 : decode cX5_findCold 22 = .ok (.bipush 30, 2) := by decide +kernel
theorem dX5_findCold_24 : decode cX5_findCold 24 = .ok (.if_icmp .ge 55, 3) := by decide +kernel
theorem dX5_findCold_27 : decode cX5_findCold 27 = .ok (.aload_n 2, 1) := by decide +kernel
theorem dX5_findCold_28 : decode cX5_findCold 28 = .ok (.iload_n 3, 1) := by decide +kernel
theorem dX5_findCold_29 : decode cX5_findCold 29 = .ok (.invokevirtual 83, 3) := by decide +kernel
theorem dX5_findCold_32 : decode cX5_findCold 32 = .ok (.istore 4, 2) := by decide +kernel
theorem dX5_findCold_34 : decode cX5_findCold 34 = .ok (.aload_n 2, 1) := by decide +kernel
theorem dX5_findCold_35 : decode cX5_findCold 35 = .ok (.iload_n 3, 1) := by decide +kernel
theorem dX5_findCold_36 : decode cX5_findCold 36 = .ok (.iconst 0, 1) := by decide +kernel
theorem dX5_findCold_37 : decode cX5_findCold 37 = .ok (.invokevirtual 86, 3) := by decide +kernel
theorem dX5_findCold_40 : decode cX5_findCold 40 = .ok (.aload_n 2, 1) := by decide +kernel
theorem dX5_findCold_41 : decode cX5_findCold 41 = .ok (.invokevirtual 90, 3) := by decide +kernel
theorem dX5_findCold_44 : decode cX5_findCold 44 = .ok (.istore 5, 2) := by decide +kernel
theorem dX5_findCold_46 : decode cX5_findCold 46 = .ok (.aload_n 2, 1) := by decide +kernel
theorem dX5_findCold_47 : decode cX5_findCold 47 = .ok (.iload_n 3, 1) := by decide +kernel
theorem dX5_findCold_48 : decode cX5_findCold 48 = .ok (.iload 4, 2) := by decide +kernel
theorem dX5_findCold_50 : decode cX5_findCold 50 = .ok (.invokevirtual 86, 3) := by decide +kernel
theorem dX5_findCold_53 : decode cX5_findCold 53 = .ok (.iload 5, 2) := by decide +kernel
theorem dX5_findCold_55 : decode cX5_findCold 55 = .ok (.aload_n 0, 1) := by decide +kernel
theorem dX5_findCold_56 : decode cX5_findCold 56 = .ok (.getfield 80, 3) := by decide +kernel
theorem dX5_findCold_59 : decode cX5_findCold 59 = .ok (.if_icmp .le 14, 3) := by decide +kernel
theorem dX5_findCold_62 : decode cX5_findCold 62 = .ok (.aload_n 0, 1) := by decide +kernel
theorem dX5_findCold_63 : decode cX5_findCold 63 = .ok (.iload_n 3, 1) := by decide +kernel
theorem dX5_findCold_64 : decode cX5_findCold 64 = .ok (.putfield 77, 3) := by decide +kernel
theorem dX5_findCold_67 : decode cX5_findCold 67 = .ok (.aload_n 0, 1) := by decide +kernel
theorem dX5_findCold_68 : decode cX5_findCold 68 = .ok (.iload 5, 2) := by decide +kernel
theorem dX5_findCold_70 : decode cX5_findCold 70 = .ok (.putfield 80, 3) := by decide +kernel
theorem dX5_findCold_73 : decode cX5_findCold 73 = .ok (.iinc 3 1, 3) := by decide +kernel
theorem dX5_findCold_76 : decode cX5_findCold 76 = .ok (.goto (-55), 3) := by decide +kernel
theorem dX5_findCold_79 : decode cX5_findCold 79 = .ok (.return_, 1) := by decide +kernel
theorem dX5_findCome_0 : decode cX5_findCome 0 = .ok (.aload_n 0, 1) := by decide +kernel
theorem dX5_findCome_1 : decode cX5_findCome 1 = .ok (.getfield 21, 3) := by decide +kernel
theorem dX5_findCome_4 : decode cX5_findCome 4 = .ok (.iload_n 1, 1) := by decide +kernel
theorem dX5_findCome_5 : decode cX5_findCome 5 = .ok (.invokevirtual 25, 3) := by decide +kernel
theorem dX5_findCome_8 : decode cX5_findCome 8 = .ok (.astore_n 2, 1) := by decide +kernel
theorem dX5_findCome_9 : decode cX5_findCome 9 = .ok (.aload_n 0, 1) := by decide +kernel
theorem dX5_findCome_10 : decode cX5_findCome 10 = .ok (.iconst (-1), 1) := by decide +kernel
theorem dX5_findCome_11 : decode cX5_findCome 11 = .ok (.putfield 94, 3) := by decide +kernel
theorem dX5_findCome_14 : decode cX5_findCome 14 = .ok (.aload_n 0, 1) := by decide +kernel
theorem dX5_findCome_15 : decode cX5_findCome 15 = .ok (.iconst (-1), 1) := by decide +kernel
theorem dX5_findCome_16 : decode cX5_findCome 16 = .ok (.putfield 97, 3) := by decide +kernel
theorem dX5_findCome_19 : decode cX5_findCome 19 = .ok (.iconst 0, 1) := by decide +kernel
theorem dX5_findCome_20 : decode cX5_findCome 20 = .ok (.istore_n 3, 1) := by decide +kernel
theorem dX5_findCome_21 : decode cX5_findCome 21 = .ok (.iload_n 3, 1) := by decide +kernel
theorem dX5_findCome_22 : decode cX5_findCome 22 = .ok (.bipush 20, 2) := by decide +kernel
theorem dX5_findCome_24 : decode cX5_findCome 24 = .ok (.if_icmp .ge 42, 3) := by decide +kernel
theorem dX5_findCome_27 : decode cX5_findCome 27 = .ok (.aload_n 2, 1) := by decide +kernel
theorem dX5_findCome_28 : decode cX5_findCome 28 = .ok (.iload_n 3, 1) := by decide +kernel
theorem dX5_findCome_29 : decode cX5_findCome 29 = .ok (.putfield 61, 3) := by decide +kernel
theorem dX5_findCome_32 : decode cX5_findCome 32 = .ok (.aload_n 2, 1) := by decide +kernel
theorem dX5_findCome_33 : decode cX5_findCome 33 = .ok (.bipush 29, 2) := by decide +kernel
theorem dX5_findCome_35 : decode cX5_findCome 35 = .ok (.invokevirtual 41, 3) := by decide +kernel
theorem dX5_findCome_38 : decode cX5_findCome 38 = .ok (.istore 4, 2) := by decide +kernel
theorem dX5_findCome_40 : decode cX5_findCome 40 = .ok (.iload 4, 2) := by decide +kernel
theorem dX5_findCome_42 : decode cX5_findCome 42 = .ok (.aload_n 0, 1) := by decide +kernel
theorem dX5_findCome_43 : decode cX5_findCome 43 = .ok (.getfield 97, 3) := by decide +kernel
theorem dX5_findCome_46 : decode cX5_findCome 46 = .ok (.if_icmp .le 14, 3) := by decide +kernel
theorem dX5_findCome_49 : decode cX5_findCome 49 = .ok (.aload_n 0, 1) := by decide +kernel
theorem dX5_findCome_50 : decode cX5_findCome 50 = .ok (.iload_n 3, 1) := by decide +kernel
theorem dX5_findCome_51 : decode cX5_findCome 51 = .ok (.putfield 94, 3) := by decide +kernel
theorem dX5_findCome_54 : decode cX5_findCome 54 = .ok (.aload_n 0, 1) := by decide +kernel
theorem dX5_findCome_55 : decode cX5_findCome 55 = .ok (.iload 4, 2) := by decide +kernel
theorem dX5_findCome_57 : decode cX5_findCome 57 = .ok (.putfield 97, 3) := by decide +kernel
theorem dX5_findCome_60 : decode cX5_findCome 60 = .ok (.iinc 3 1, 3) := by decide +kernel
theorem dX5_findCome_63 : decode cX5_findCome 63 = .ok (.goto (-42), 3) := by decide +kernel
theorem dX5_findCome_66 : decode cX5_findCome 66 = .ok (.return_, 1) := by decide +kernel
theorem dX5_bestSale_0 : decode cX5_bestSale 0 = .ok (.aload_n 0, 1) := by decide +kernel
theorem dX5_bestSale_1 : decode cX5_bestSale 1 = .ok (.getfield 21, 3) := by decide +kernel
theorem dX5_bestSale_4 : decode cX5_bestSale 4 = .ok (.getfield 100, 3) := by decide +kernel
theorem dX5_bestSale_7 : decode cX5_bestSale 7 = .ok (.getfield 104, 3) := by decide +kernel
theorem dX5_bestSale_10 : decode cX5_bestSale 10 = .ok (.bipush 8, 2) := by decide +kernel
theorem dX5_bestSale_12 : decode cX5_bestSale 12 = .ok (.invokestatic 109, 3) := by decide +kernel
theorem dX5_bestSale_15 : decode cX5_bestSale 15 = .ok (.istore_n 1, 1) := by decide +kernel
theorem dX5_bestSale_16 : decode cX5_bestSale 16 = .ok (.aload_n 0, 1) := by decide +kernel
theorem dX5_bestSale_17 : decode cX5_bestSale 17 = .ok (.getfield 9, 3) := by decide +kernel
theorem dX5_bestSale_20 : decode cX5_bestSale 20 = .ok (.iconst 0, 1) := by decide +kernel
theorem dX5_bestSale_21 : decode cX5_bestSale 21 = .ok (.invokestatic 112, 3) := by decide +kernel
theorem dX5_bestSale_24 : decode cX5_bestSale 24 = .ok (.iconst 0, 1) := by decide +kernel
theorem dX5_bestSale_25 : decode cX5_bestSale 25 = .ok (.istore_n 2, 1) := by decide +kernel
theorem dX5_bestSale_26 : decode cX5_bestSale 26 = .ok (.iload_n 2, 1) := by decide +kernel
theorem dX5_bestSale_27 : decode cX5_bestSale 27 = .ok (.iload_n 1, 1) := by decide +kernel
theorem dX5_bestSale_28 : decode cX5_bestSale 28 = .ok (.if_icmp .ge 14, 3) := by decide +kernel
theorem dX5_bestSale_31 : decode cX5_bestSale 31 = .ok (.aload_n 0, 1) := by decide +kernel
theorem dX5_bestSale_32 : decode cX5_bestSale 32 = .ok (.iload_n 2, 1) := by decide +kernel
theorem dX5_bestSale_33 : decode cX5_bestSale 33 = .ok (.invokevirtual 118, 3) := by decide +kernel
theorem dX5_bestSale_36 : decode cX5_bestSale 36 = .ok (.iinc 2 1, 3) := by decide +kernel
theorem dX5_bestSale_39 : decode cX5_bestSale 39 = .ok (.goto (-13), 3) := by decide +kernel
theorem dX5_bestSale_42 : decode cX5_bestSale 42 = .ok (.aload_n 0, 1) := by decide +kernel
theorem dX5_bestSale_43 : decode cX5_bestSale 43 = .ok (.getfield 15, 3) := by decide +kernel
theorem dX5_bestSale_46 : decode cX5_bestSale 46 = .ok (.iconst 0, 1) := by decide +kernel
theorem dX5_bestSale_47 : decode cX5_bestSale 47 = .ok (.invokestatic 112, 3) := by decide +kernel
theorem dX5_bestSale_50 : decode cX5_bestSale 50 = .ok (.iconst 0, 1) := by decide +kernel
theorem dX5_bestSale_51 : decode cX5_bestSale 51 = .ok (.istore_n 2, 1) := by decide +kernel
theorem dX5_bestSale_52 : decode cX5_bestSale 52 = .ok (.iload_n 2, 1) := by decide +kernel
theorem dX5_bestSale_53 : decode cX5_bestSale 53 = .ok (.bipush 30, 2) := by decide +kernel
theorem dX5_bestSale_55 : decode cX5_bestSale 55 = .ok (.if_icmp .ge 60, 3) := by decide +kernel
theorem dX5_bestSale_58 : decode cX5_bestSale 58 = .ok (.aload_n 0, 1) := by decide +kernel
theorem dX5_bestSale_59 : decode cX5_bestSale 59 = .ok (.getfield 15, 3) := by decide +kernel
theorem dX5_bestSale_62 : decode cX5_bestSale 62 = .ok (.iconst 0, 1) := by decide +kernel
theorem dX5_bestSale_63 : decode cX5_bestSale 63 = .ok (.aload_n 0, 1) := by decide +kernel
theorem dX5_bestSale_64 : decode cX5_bestSale 64 = .ok (.getfield 18, 3) := by decide +kernel
theorem dX5_bestSale_67 : decode cX5_bestSale 67 = .ok (.iconst 0, 1) := by decide +kernel
theorem dX5_bestSale_68 : decode cX5_bestSale 68 = .ok (.sipush 256, 3) := by decide +kernel
theorem dX5_bestSale_71 : decode cX5_bestSale 71 = .ok (.invokestatic 122, 3) := by decide +kernel
theorem dX5_bestSale_74 : decode cX5_bestSale 74 = .ok (.iconst 0, 1) := by decide +kernel
theorem dX5_bestSale_75 : decode cX5_bestSale 75 = .ok (.istore_n 3, 1) := by decide +kernel
theorem dX5_bestSale_76 : decode cX5_bestSale 76 = .ok (.iload_n 3, 1) := by decide +kernel
theorem dX5_bestSale_77 : decode cX5_bestSale 77 = .ok (.iload_n 1, 1) := by decide +kernel
theorem dX5_bestSale_78 : decode cX5_bestSale 78 = .ok (.if_icmp .ge 31, 3) := by decide +kernel
theorem dX5_bestSale_81 : decode cX5_bestSale 81 = .ok (.aload_n 0, 1) := by decide +kernel
theorem dX5_bestSale_82 : decode cX5_bestSale 82 = .ok (.iload_n 3, 1) := by decide +kernel
theorem dX5_bestSale_83 : decode cX5_bestSale 83 = .ok (.aload_n 0, 1) := by decide +kernel
theorem dX5_bestSale_84 : decode cX5_bestSale 84 = .ok (.getfield 9, 3) := by decide +kernel
theorem dX5_bestSale_87 : decode cX5_bestSale 87 = .ok (.iload_n 3, 1) := by decide +kernel
theorem dX5_bestSale_88 : decode cX5_bestSale 88 = .ok (.bipush 30, 2) := by decide +kernel
theorem dX5_bestSale_90 : decode cX5_bestSale 90 = .ok (.imul, 1) := by decide +kernel
theorem dX5_bestSale_91 : decode cX5_bestSale 91 = .ok (.iload_n 2, 1) := by decide +kernel
theorem dX5_bestSale_92 : decode cX5_bestSale 92 = .ok (.iadd, 1) := by decide +kernel
theorem dX5_bestSale_93 : decode cX5_bestSale 93 = .ok (.iconst 0, 1) := by decide +kernel
theorem dX5_bestSale_94 : decode cX5_bestSale 94 = .ok (.invokestatic 128, 3) := by decide +kernel
theorem dX5_bestSale_97 : decode cX5_bestSale 97 = .ok (.iconst 1, 1) := by decide +kernel
theorem dX5_bestSale_98 : decode cX5_bestSale 98 = .ok (.iload_n 1, 1) := by decide +kernel
theorem dX5_bestSale_99 : decode cX5_bestSale 99 = .ok (.ishl, 1) := by decide +kernel
theorem dX5_bestSale_100 : decode cX5_bestSale 100 = .ok (.invokevirtual 132, 3) := by decide +kernel
theorem dX5_bestSale_103 : decode cX5_bestSale 103 = .ok (.iinc 3 1, 3) := by decide +kernel
theorem dX5_bestSale_106 : decode cX5_bestSale 106 = .ok (.goto (-30), 3) := by decide +kernel
theorem dX5_bestSale_109 : decode cX5_bestSale 109 = .ok (.iinc 2 1, 3) := by decide +kernel
theorem dX5_bestSale_112 : decode cX5_bestSale 112 = .ok (.goto (-60), 3) := by decide +kernel
theorem dX5_bestSale_115 : decode cX5_bestSale 115 = .ok (.aload_n 0, 1) := by decide +kernel
theorem dX5_bestSale_116 : decode cX5_bestSale 116 = .ok (.getfield 15, 3) := by decide +kernel
theorem dX5_bestSale_119 : decode cX5_bestSale 119 = .ok (.iconst 1, 1) := by decide +kernel
theorem dX5_bestSale_120 : decode cX5_bestSale 120 = .ok (.iload_n 1, 1) := by decide +kernel
theorem dX5_bestSale_121 : decode cX5_bestSale 121 = .ok (.ishl, 1) := by decide +kernel
theorem dX5_bestSale_122 : decode cX5_bestSale 122 = .ok (.iconst 1, 1) := by decide +kernel
theorem dX5_bestSale_123 : decode cX5_bestSale 123 = .ok (.isub, 1) := by decide +kernel
theorem dX5_bestSale_124 : decode cX5_bestSale 124 = .ok (.iconst 0, 1) := by decide +kernel
theorem dX5_bestSale_125 : decode cX5_bestSale 125 = .ok (.invokestatic 128, 3) := by decide +kernel
theorem dX5_bestSale_128 : decode cX5_bestSale 128 = .ok (.ireturn, 1) := by decide +kernel
theorem dX5_priceLast_0 : decode cX5_priceLast 0 = .ok (.aload_n 0, 1) := by decide +kernel
theorem dX5_priceLast_1 : decode cX5_priceLast 1 = .ok (.getfield 21, 3) := by decide +kernel
theorem dX5_priceLast_4 : decode cX5_priceLast 4 = .ok (.iload_n 1, 1) := by decide +kernel
theorem dX5_priceLast_5 : decode cX5_priceLast 5 = .ok (.invokevirtual 25, 3) := by decide +kernel
theorem dX5_priceLast_8 : decode cX5_priceLast 8 = .ok (.astore_n 2, 1) := by decide +kernel
theorem dX5_priceLast_9 : decode cX5_priceLast 9 = .ok (.aload_n 2, 1) := by decide +kernel
theorem dX5_priceLast_10 : decode cX5_priceLast 10 = .ok (.invokevirtual 136, 3) := by decide +kernel
theorem dX5_priceLast_13 : decode cX5_priceLast 13 = .ok (.bipush 8, 2) := by decide +kernel
theorem dX5_priceLast_15 : decode cX5_priceLast 15 = .ok (.istore_n 3, 1) := by decide +kernel
theorem dX5_priceLast_16 : decode cX5_priceLast 16 = .ok (.bipush 29, 2) := by decide +kernel
theorem dX5_priceLast_18 : decode cX5_priceLast 18 = .ok (.istore 4, 2) := by decide +kernel
theorem dX5_priceLast_20 : decode cX5_priceLast 20 = .ok (.iload 4, 2) := by decide +kernel
theorem dX5_priceLast_22 : decode cX5_priceLast 22 = .ok (.ifCond .lt 65, 3) := by decide +kernel
theorem dX5_priceLast_25 : decode cX5_priceLast 25 = .ok (.iload_n 3, 1) := by decide +kernel
theorem dX5_priceLast_26 : decode cX5_priceLast 26 = .ok (.ifCond .le 61, 3) := by decide +kernel
theorem dX5_priceLast_29 : decode cX5_priceLast 29 = .ok (.iload_n 1, 1) := by decide +kernel
theorem dX5_priceLast_30 : decode cX5_priceLast 30 = .ok (.bipush 30, 2) := by decide +kernel
theorem dX5_priceLast_32 : decode cX5_priceLast 32 = .ok (.imul, 1) := by decide +kernel
theorem dX5_priceLast_33 : decode cX5_priceLast 33 = .ok (.iload 4, 2) := by decide +kernel
theorem dX5_priceLast_35 : decode cX5_priceLast 35 = .ok (.iadd, 1) := by decide +kernel
theorem dX5_priceLast_36 : decode cX5_priceLast 36 = .ok (.istore 5, 2) := by decide +kernel
theorem dX5_priceLast_38 : decode cX5_priceLast 38 = .ok (.aload_n 2, 1) := by decide +kernel
theorem dX5_priceLast_39 : decode cX5_priceLast 39 = .ok (.iload 4, 2) := by decide +kernel
theorem dX5_priceLast_41 : decode cX5_priceLast 41 = .ok (.invokevirtual 139, 3) := by decide +kernel
theorem dX5_priceLast_44 : decode cX5_priceLast 44 = .ok (.iconst (-1), 1) := by decide +kernel
theorem dX5_priceLast_45 : decode cX5_priceLast 45 = .ok (.if_icmp .eq 36, 3) := by decide +kernel
theorem dX5_priceLast_48 : decode cX5_priceLast 48 = .ok (.iload 5, 2) := by decide +kernel
theorem dX5_priceLast_50 : decode cX5_priceLast 50 = .ok (.ifCond .lt 31, 3) := by decide +kernel
theorem dX5_priceLast_53 : decode cX5_priceLast 53 = .ok (.iload 5, 2) := by decide +kernel
theorem dX5_priceLast_55 : decode cX5_priceLast 55 = .ok (.aload_n 0, 1) := by decide +kernel
theorem dX5_priceLast_56 : decode cX5_priceLast 56 = .ok (.getfield 9, 3) := by decide +kernel
theorem dX5_priceLast_59 : decode cX5_priceLast 59 = .ok (.arraylength, 1) := by decide +kernel
theorem dX5_priceLast_60 : decode cX5_priceLast 60 = .ok (.if_icmp .ge 21, 3) := by decide +kernel
theorem dX5_priceLast_63 : decode cX5_priceLast 63 = .ok (.aload_n 0, 1) := by decide +kernel
theorem dX5_priceLast_64 : decode cX5_priceLast 64 = .ok (.getfield 9, 3) := by decide +kernel
theorem dX5_priceLast_67 : decode cX5_priceLast 67 = .ok (.iload 5, 2) := by decide +kernel
theorem dX5_priceLast_69 : decode cX5_priceLast 69 = .ok (.aload_n 2, 1) := by decide +kernel
theorem dX5_priceLast_70 : decode cX5_priceLast 70 = .ok (.iload 4, 2) := by decide +kernel
theorem dX5_priceLast_72 : decode cX5_priceLast 72 = .ok (.invokevirtual 139, 3) := by decide +kernel
theorem dX5_priceLast_75 : decode cX5_priceLast 75 = .ok (.iconst 1, 1) := by decide +kernel
theorem dX5_priceLast_76 : decode cX5_priceLast 76 = .ok (.iadd, 1) := by decide +kernel
theorem dX5_priceLast_77 : decode cX5_priceLast 77 = .ok (.iastore, 1) := by decide +kernel
theorem dX5_priceLast_78 : decode cX5_priceLast 78 = .ok (.iinc 3 (-1), 3) := by decide +kernel
theorem dX5_priceLast_81 : decode cX5_priceLast 81 = .ok (.iinc 4 (-1), 3) := by decide +kernel
theorem dX5_priceLast_84 : decode cX5_priceLast 84 = .ok (.goto (-64), 3) := by decide +kernel
theorem dX5_priceLast_87 : decode cX5_priceLast 87 = .ok (.return_, 1) := by decide +kernel
theorem dX5_sell_0 : decode cX5_sell 0 = .ok (.iload_n 2, 1) := by decide +kernel
theorem dX5_sell_1 : decode cX5_sell 1 = .ok (.ifCond .gt 4, 3) := by decide +kernel
theorem dX5_sell_4 : decode cX5_sell 4 = .ok (.return_, 1) := by decide +kernel
theorem dX5_sell_5 : decode cX5_sell 5 = .ok (.iconst 1, 1) := by decide +kernel
theorem dX5_sell_6 : decode cX5_sell 6 = .ok (.iload_n 1, 1) := by decide +kernel
theorem dX5_sell_7 : decode cX5_sell 7 = .ok (.ishl, 1) := by decide +kernel
theorem dX5_sell_8 : decode cX5_sell 8 = .ok (.istore 4, 2) := by decide +kernel
theorem dX5_sell_10 : decode cX5_sell 10 = .ok (.iload 4, 2) := by decide +kernel
theorem dX5_sell_12 : decode cX5_sell 12 = .ok (.istore 5, 2) := by decide +kernel
theorem dX5_sell_14 : decode cX5_sell 14 = .ok (.iload 5, 2) := by decide +kernel
theorem dX5_sell_16 : decode cX5_sell 16 = .ok (.iload_n 3, 1) := by decide +kernel
theorem dX5_sell_17 : decode cX5_sell 17 = .ok (.if_icmp .ge 56, 3) := by decide +kernel
theorem dX5_sell_20 : decode cX5_sell 20 = .ok (.iload 5, 2) := by decide +kernel
theorem dX5_sell_22 : decode cX5_sell 22 = .ok (.aload_n 0, 1) := by decide +kernel
theorem dX5_sell_23 : decode cX5_sell 23 = .ok (.getfield 15, 3) := by decide +kernel
theorem dX5_sell_26 : decode cX5_sell 26 = .ok (.arraylength, 1) := by decide +kernel
theorem dX5_sell_27 : decode cX5_sell 27 = .ok (.if_icmp .ge 46, 3) := by decide +kernel
theorem dX5_sell_30 : decode cX5_sell 30 = .ok (.iload 5, 2) := by decide +kernel
theorem dX5_sell_32 : decode cX5_sell 32 = .ok (.iload 4, 2) := by decide +kernel
theorem dX5_sell_34 : decode cX5_sell 34 = .ok (.iand, 1) := by decide +kernel
theorem dX5_sell_35 : decode cX5_sell 35 = .ok (.ifCond .eq 32, 3) := by decide +kernel
theorem dX5_sell_38 : decode cX5_sell 38 = .ok (.aload_n 0, 1) := by decide +kernel
theorem dX5_sell_39 : decode cX5_sell 39 = .ok (.getfield 15, 3) := by decide +kernel
theorem dX5_sell_42 : decode cX5_sell 42 = .ok (.iload 5, 2) := by decide +kernel
theorem dX5_sell_44 : decode cX5_sell 44 = .ok (.aload_n 0, 1) := by decide +kernel
theorem dX5_sell_45 : decode cX5_sell 45 = .ok (.getfield 15, 3) := by decide +kernel
theorem dX5_sell_48 : decode cX5_sell 48 = .ok (.iload 5, 2) := by decide +kernel
theorem dX5_sell_50 : decode cX5_sell 50 = .ok (.iaload, 1) := by decide +kernel
theorem dX5_sell_51 : decode cX5_sell 51 = .ok (.aload_n 0, 1) := by decide +kernel
theorem dX5_sell_52 : decode cX5_sell 52 = .ok (.getfield 18, 3) := by decide +kernel
theorem dX5_sell_55 : decode cX5_sell 55 = .ok (.iload 5, 2) := by decide +kernel
theorem dX5_sell_57 : decode cX5_sell 57 = .ok (.iload 4, 2) := by decide +kernel
theorem dX5_sell_59 : decode cX5_sell 59 = .ok (.ixor, 1) := by decide +kernel
theorem dX5_sell_60 : decode cX5_sell 60 = .ok (.iaload, 1) := by decide +kernel
theorem dX5_sell_61 : decode cX5_sell 61 = .ok (.iload_n 2, 1) := by decide +kernel
theorem dX5_sell_62 : decode cX5_sell 62 = .ok (.iadd, 1) := by decide +kernel
theorem dX5_sell_63 : decode cX5_sell 63 = .ok (.invokestatic 64, 3) := by decide +kernel
theorem dX5_sell_66 : decode cX5_sell 66 = .ok (.iastore, 1) := by decide +kernel
theorem dX5_sell_67 : decode cX5_sell 67 = .ok (.iinc 5 1, 3) := by decide +kernel
theorem dX5_sell_70 : decode cX5_sell 70 = .ok (.goto (-56), 3) := by decide +kernel
theorem dX5_sell_73 : decode cX5_sell 73 = .ok (.return_, 1) := by decide +kernel
theorem dX6_init_0 : decode cX6_init 0 = .ok (.aload_n 0, 1) := by decide +kernel
theorem dX6_init_1 : decode cX6_init 1 = .ok (.invokespecial 3, 3) := by decide +kernel
theorem dX6_init_4 : decode cX6_init 4 = .ok (.aload_n 0, 1) := by decide +kernel
theorem dX6_init_5 : decode cX6_init 5 = .ok (.bipush 60, 2) := by decide +kernel
theorem dX6_init_7 : decode cX6_init 7 = .ok (.newarray .int, 2) := by decide +kernel
theorem dX6_init_9 : decode cX6_init 9 = .ok (.putfield 9, 3) := by decide +kernel
theorem dX6_init_12 : decode cX6_init 12 = .ok (.aload_n 0, 1) := by decide +kernel
theorem dX6_init_13 : decode cX6_init 13 = .ok (.iconst 1, 1) := by decide +kernel
theorem dX6_init_14 : decode cX6_init 14 = .ok (.putfield 15, 3) := by decide +kernel
theorem dX6_init_17 : decode cX6_init 17 = .ok (.return_, 1) := by decide +kernel
theorem dX6_renew_0 : decode cX6_renew 0 = .ok (.aload_n 0, 1) := by decide +kernel
theorem dX6_renew_1 : decode cX6_renew 1 = .ok (.getfield 9, 3) := by decide +kernel
theorem dX6_renew_4 : decode cX6_renew 4 = .ok (.iconst 0, 1) := by decide +kernel
theorem dX6_renew_5 : decode cX6_renew 5 = .ok (.invokestatic 19, 3) := by decide +kernel
theorem dX6_renew_8 : decode cX6_renew 8 = .ok (.aload_n 0, 1) := by decide +kernel
theorem dX6_renew_9 : decode cX6_renew 9 = .ok (.iconst 0, 1) := by decide +kernel
theorem dX6_renew_10 : decode cX6_renew 10 = .ok (.putfield 15, 3) := by decide +kernel
theorem dX6_renew_13 : decode cX6_renew 13 = .ok (.aload_n 0, 1) := by decide +kernel
theorem dX6_renew_14 : decode cX6_renew 14 = .ok (.iload_n 1, 1) := by decide +kernel
theorem dX6_renew_15 : decode cX6_renew 15 = .ok (.putfield 25, 3) := by decide +kernel
theorem dX6_renew_18 : decode cX6_renew 18 = .ok (.aload_n 0, 1) := by decide +kernel
theorem dX6_renew_19 : decode cX6_renew 19 = .ok (.iload_n 2, 1) := by decide +kernel
theorem dX6_renew_20 : decode cX6_renew 20 = .ok (.putfield 29, 3) := by decide +kernel
theorem dX6_renew_23 : decode cX6_renew 23 = .ok (.return_, 1) := by decide +kernel
theorem dX6_holds_0 : decode cX6_holds 0 = .ok (.iload_n 1, 1) := by decide +kernel
theorem dX6_holds_1 : decode cX6_holds 1 = .ok (.ifCond .lt 41, 3) := by decide +kernel
theorem dX6_holds_4 : decode cX6_holds 4 = .ok (.iload_n 2, 1) := by decide +kernel
theorem dX6_holds_5 : decode cX6_holds 5 = .ok (.ifCond .lt 37, 3) := by decide +kernel
theorem dX6_holds_8 : decode cX6_holds 8 = .ok (.iload_n 1, 1) := by decide +kernel
theorem dX6_holds_9 : decode cX6_holds 9 = .ok (.aload_n 0, 1) := by decide +kernel
theorem dX6_holds_10 : decode cX6_holds 10 = .ok (.getfield 29, 3) := by decide +kernel
theorem dX6_holds_13 : decode cX6_holds 13 = .ok (.if_icmp .gt 29, 3) := by decide +kernel
theorem dX6_holds_16 : decode cX6_holds 16 = .ok (.iload_n 2, 1) := by decide +kernel
theorem dX6_holds_17 : decode cX6_holds 17 = .ok (.aload_n 0, 1) := by decide +kernel
theorem dX6_holds_18 : decode cX6_holds 18 = .ok (.getfield 29, 3) := by decide +kernel
theorem dX6_holds_21 : decode cX6_holds 21 = .ok (.iload_n 1, 1) := by decide +kernel
theorem dX6_holds_22 : decode cX6_holds 22 = .ok (.isub, 1) := by decide +kernel
theorem dX6_holds_23 : decode cX6_holds 23 = .ok (.if_icmp .gt 19, 3) := by decide +kernel
theorem dX6_holds_26 : decode cX6_holds 26 = .ok (.aload_n 0, 1) := by decide +kernel
theorem dX6_holds_27 : decode cX6_holds 27 = .ok (.getfield 29, 3) := by decide +kernel
theorem dX6_holds_30 : decode cX6_holds 30 = .ok (.aload_n 0, 1) := by decide +kernel
theorem dX6_holds_31 : decode cX6_holds 31 = .ok (.getfield 9, 3) := by decide +kernel
theorem dX6_holds_34 : decode cX6_holds 34 = .ok (.arraylength, 1) := by decide +kernel
theorem dX6_holds_35 : decode cX6_holds 35 = .ok (.if_icmp .gt 7, 3) := by decide +kernel
theorem dX6_holds_38 : decode cX6_holds 38 = .ok (.iconst 1, 1) := by decide +kernel
theorem dX6_holds_39 : decode cX6_holds 39 = .ok (.goto 4, 3) := by decide +kernel
theorem dX6_holds_42 : decode cX6_holds 42 = .ok (.iconst 0, 1) := by decide +kernel
theorem dX6_holds_43 : decode cX6_holds 43 = .ok (.ireturn, 1) := by decide +kernel
theorem dX6_itemAt_0 : decode cX6_itemAt 0 = .ok (.aload_n 0, 1) := by decide +kernel
theorem dX6_itemAt_1 : decode cX6_itemAt 1 = .ok (.getfield 9, 3) := by decide +kernel
theorem dX6_itemAt_4 : decode cX6_itemAt 4 = .ok (.iload_n 1, 1) := by decide +kernel
theorem dX6_itemAt_5 : decode cX6_itemAt 5 = .ok (.iconst 0, 1) := by decide +kernel
theorem dX6_itemAt_6 : decode cX6_itemAt 6 = .ok (.invokestatic 32, 3) := by decide +kernel
theorem dX6_itemAt_9 : decode cX6_itemAt 9 = .ok (.ireturn, 1) := by decide +kernel
theorem dX6_place_0 : decode cX6_place 0 = .ok (.iload_n 1, 1) := by decide +kernel
theorem dX6_place_1 : decode cX6_place 1 = .ok (.ifCond .lt 44, 3) := by decide +kernel
theorem dX6_place_4 : decode cX6_place 4 = .ok (.iload_n 1, 1) := by decide +kernel
theorem dX6_place_5 : decode cX6_place 5 = .ok (.aload_n 0, 1) := by decide +kernel
theorem dX6_place_6 : decode cX6_place 6 = .ok (.getfield 9, 3) := by decide +kernel
theorem dX6_place_9 : decode cX6_place 9 = .ok (.arraylength, 1) := by decide +kernel
theorem dX6_place_10 : decode cX6_place 10 = .ok (.if_icmp .ge 35, 3) := by decide +kernel
theorem dX6_place_13 : decode cX6_place 13 = .ok (.aload_n 0, 1) := by decide +kernel
theorem dX6_place_14 : decode cX6_place 14 = .ok (.getfield 9, 3) := by decide +kernel
theorem dX6_place_17 : decode cX6_place 17 = .ok (.iload_n 1, 1) := by decide +kernel
theorem dX6_place_18 : decode cX6_place 18 = .ok (.aload_n 0, 1) := by decide +kernel
theorem dX6_place_19 : decode cX6_place 19 = .ok (.getfield 25, 3) := by decide +kernel
theorem dX6_place_22 : decode cX6_place 22 = .ok (.ifCond .ne 8, 3) := by decide +kernel
theorem dX6_place_25 : decode cX6_place 25 = .ok (.iload_n 2, 1) := by decide +kernel
theorem dX6_place_26 : decode cX6_place 26 = .ok (.i2b, 1) := by decide +kernel
theorem dX6_place_27 : decode cX6_place 27 = .ok (.goto 17, 3) := by decide +kernel
theorem dX6_place_30 : decode cX6_place 30 = .ok (.aload_n 0, 1) := by decide +kernel
theorem dX6_place_31 : decode cX6_place 31 = .ok (.getfield 25, 3) := by decide +kernel
theorem dX6_place_34 : decode cX6_place 34 = .ok (.iconst 1, 1) := by decide +kernel
theorem dX6_place_35 : decode cX6_place 35 = .ok (.if_icmp .ne 8, 3) := by decide +kernel
theorem dX6_place_38 : decode cX6_place 38 = .ok (.iload_n 2, 1) := by decide +kernel
theorem dX6_place_39 : decode cX6_place 39 = .ok (.i2s, 1) := by decide +kernel
theorem dX6_place_40 : decode cX6_place 40 = .ok (.goto 4, 3) := by decide +kernel
theorem dX6_place_43 : decode cX6_place 43 = .ok (.iload_n 2, 1) := by decide +kernel
theorem dX6_place_44 : decode cX6_place 44 = .ok (.iastore, 1) := by decide +kernel
theorem dX6_place_45 : decode cX6_place 45 = .ok (.return_, 1) := by decide +kernel
theorem dX7_init_0 : decode cX7_init 0 = .ok (.aload_n 0, 1) := by decide +kernel
theorem dX7_init_1 : decode cX7_init 1 = .ok (.invokespecial 3, 3) := by decide +kernel
theorem dX7_init_4 : decode cX7_init 4 = .ok (.aload_n 0, 1) := by decide +kernel
theorem dX7_init_5 : decode cX7_init 5 = .ok (.sipush 240, 3) := by decide +kernel
theorem dX7_init_8 : decode cX7_init 8 = .ok (.newarray .int, 2) := by decide +kernel
theorem dX7_init_10 : decode cX7_init 10 = .ok (.putfield 9, 3) := by decide +kernel
theorem dX7_init_13 : decode cX7_init 13 = .ok (.aload_n 0, 1) := by decide +kernel
theorem dX7_init_14 : decode cX7_init 14 = .ok (.aload_n 1, 1) := by decide +kernel
theorem dX7_init_15 : decode cX7_init 15 = .ok (.putfield 15, 3) := by decide +kernel
theorem dX7_init_18 : decode cX7_init 18 = .ok (.return_, 1) := by decide +kernel
theorem dX7_findScream_0 : decode cX7_findScream 0 = .ok (.aload_n 0, 1) := by decide +kernel
theorem dX7_findScream_1 : decode cX7_findScream 1 = .ok (.iconst (-1), 1) := by decide +kernel
theorem dX7_findScream_2 : decode cX7_findScream 2 = .ok (.putfield 19, 3) := by decide +kernel
theorem dX7_findScream_5 : decode cX7_findScream 5 = .ok (.aload_n 0, 1) := by decide +kernel
theorem dX7_findScream_6 : decode cX7_findScream 6 = .ok (.iconst (-1), 1) := by decide +kernel
theorem dX7_findScream_7 : decode cX7_findScream 7 = .ok (.putfield 23, 3) := by decide +kernel
theorem dX7_findScream_10 : decode cX7_findScream 10 = .ok (.iconst 0, 1) := by decide +kernel
theorem dX7_findScream_11 : decode cX7_findScream 11 = .ok (.istore_n 1, 1) := by decide +kernel
theorem dX7_findScream_12 : decode cX7_findScream 12 = .ok (.iload_n 1, 1) := by decide +kernel
theorem dX7_findScream_13 : decode cX7_findScream 13 = .ok (.aload_n 0, 1) := by decide +kernel
theorem dX7_findScream_14 : decode cX7_findScream 14 = .ok (.getfield 15, 3) := by decide +kernel
theorem dX7_findScream_17 : decode cX7_findScream 17 = .ok (.getfield 26, 3) := by decide +kernel
theorem dX7_findScream_20 : decode cX7_findScream 20 = .ok (.getfield 32, 3) := by decide +kernel
theorem dX7_findScream_23 : decode cX7_findScream 23 = .ok (.if_icmp .ge 58, 3) := by decide +kernel
theorem dX7_findScream_26 : decode cX7_findScream 26 = .ok (.aload_n 0, 1) := by decide +kernel
theorem dX7_findScream_27 : decode cX7_findScream 27 = .ok (.getfield 15, 3) := by decide +kernel
theorem dX7_findScream_30 : decode cX7_findScream 30 = .ok (.iload_n 1, 1) := by decide +kernel
theorem dX7_findScream_31 : decode cX7_findScream 31 = .ok (.invokevirtual 37, 3) := by decide +kernel
theorem dX7_findScream_34 : decode cX7_findScream 34 = .ok (.astore_n 2, 1) := by decide +kernel
theorem dX7_findScream_35 : decode cX7_findScream 35 = .ok (.aload_n 2, 1) := by decide +kernel
theorem dX7_findScream_36 : decode cX7_findScream 36 = .ok (.invokevirtual 41, 3) := by decide +kernel
theorem dX7_findScream_39 : decode cX7_findScream 39 = .ok (.aload_n 2, 1) := by decide +kernel
theorem dX7_findScream_40 : decode cX7_findScream 40 = .ok (.invokevirtual 46, 3) := by decide +kernel
theorem dX7_findScream_43 : decode cX7_findScream 43 = .ok (.istore_n 3, 1) := by decide +kernel
theorem dX7_findScream_44 : decode cX7_findScream 44 = .ok (.iload_n 3, 1) := by decide +kernel
theorem dX7_findScream_45 : decode cX7_findScream 45 = .ok (.iconst (-1), 1) := by decide +kernel
theorem dX7_findScream_46 : decode cX7_findScream 46 = .ok (.if_icmp .eq 29, 3) := by decide +kernel
theorem dX7_findScream_49 : decode cX7_findScream 49 = .ok (.aload_n 0, 1) := by decide +kernel
theorem dX7_findScream_50 : decode cX7_findScream 50 = .ok (.getfield 19, 3) := by decide +kernel
theorem dX7_findScream_53 : decode cX7_findScream 53 = .ok (.iconst (-1), 1) := by decide +kernel
theorem dX7_findScream_54 : decode cX7_findScream 54 = .ok (.if_icmp .eq 11, 3) := by decide +kernel
theorem dX7_findScream_57 : decode cX7_findScream 57 = .ok (.iload_n 3, 1) := by decide +kernel
theorem dX7_findScream_58 : decode cX7_findScream 58 = .ok (.aload_n 0, 1) := by decide +kernel
theorem dX7_findScream_59 : decode cX7_findScream 59 = .ok (.getfield 19, 3) := by decide +kernel
theorem dX7_findScream_62 : decode cX7_findScream 62 = .ok (.if_icmp .ge 13, 3) := by decide +kernel
theorem dX7_findScream_65 : decode cX7_findScream 65 = .ok (.aload_n 0, 1) := by decide +kernel
theorem dX7_findScream_66 : decode cX7_findScream 66 = .ok (.iload_n 3, 1) := by decide +kernel
theorem dX7_findScream_67 : decode cX7_findScream 67 = .ok (.putfield 19, 3) := by decide +kernel
theorem dX7_findScream_70 : decode cX7_findScream 70 = .ok (.aload_n 0, 1) := by decide +kernel
theorem dX7_findScream_71 : decode cX7_findScream 71 = .ok (.iload_n 1, 1) := by decide +kernel
theorem dX7_findScream_72 : decode cX7_findScream 72 = .ok (.putfield 23, 3) := by decide +kernel
theorem dX7_findScream_75 : decode cX7_findScream 75 = .ok (.iinc 1 1, 3) := by decide +kernel
theorem dX7_findScream_78 : decode cX7_findScream 78 = .ok (.goto (-66), 3) := by decide +kernel
theorem dX7_findScream_81 : decode cX7_findScream 81 = .ok (.return_, 1) := by decide +kernel
theorem dX7_tallyLetters_0 : decode cX7_tallyLetters 0 = .ok (.aload_n 0, 1) := by decide +kernel
theorem dX7_tallyLetters_1 : decode cX7_tallyLetters 1 = .ok (.getfield 9, 3) := by decide +kernel
theorem dX7_tallyLetters_4 : decode cX7_tallyLetters 4 = .ok (.iconst 0, 1) := by decide +kernel
theorem dX7_tallyLetters_5 : decode cX7_tallyLetters 5 = .ok (.invokestatic 50, 3) := by decide +kernel
theorem dX7_tallyLetters_8 : decode cX7_tallyLetters 8 = .ok (.iconst 0, 1) := by decide +kernel
theorem dX7_tallyLetters_9 : decode cX7_tallyLetters 9 = .ok (.istore_n 1, 1) := by decide +kernel
theorem dX7_tallyLetters_10 : decode cX7_tallyLetters 10 = .ok (.iload_n 1, 1) := by decide +kernel
theorem dX7_tallyLetters_11 : decode cX7_tallyLetters 11 = .ok (.aload_n 0, 1) := by decide +kernel
theorem dX7_tallyLetters_12 : decode cX7_tallyLetters 12 = .ok (.getfield 15, 3) := by decide +kernel
theorem dX7_tallyLetters_15 : decode cX7_tallyLetters 15 = .ok (.getfield 26, 3) := by decide +kernel
theorem dX7_tallyLetters_18 : decode cX7_tallyLetters 18 = .ok (.getfield 32, 3) := by decide +kernel
theorem dX7_tallyLetters_21 : decode cX7_tallyLetters 21 = .ok (.if_icmp .ge 78, 3) := by decide +kernel
theorem dX7_tallyLetters_24 : decode cX7_tallyLetters 24 = .ok (.aload_n 0, 1) := by decide +kernel
theorem dX7_tallyLetters_25 : decode cX7_tallyLetters 25 = .ok (.getfield 15, 3) := by decide +kernel
theorem dX7_tallyLetters_28 : decode cX7_tallyLetters 28 = .ok (.iload_n 1, 1) := by decide +kernel
theorem dX7_tallyLetters_29 : decode cX7_tallyLetters 29 = .ok (.invokevirtual 37, 3) := by decide +kernel
theorem dX7_tallyLetters_32 : decode cX7_tallyLetters 32 = .ok (.astore_n 2, 1) := by decide +kernel
theorem dX7_tallyLetters_33 : decode cX7_tallyLetters 33 = .ok (.aload_n 2, 1) := by decide +kernel
theorem dX7_tallyLetters_34 : decode cX7_tallyLetters 34 = .ok (.invokevirtual 41, 3) := by decide +kernel
theorem dX7_tallyLetters_37 : decode cX7_tallyLetters 37 = .ok (.iconst 0, 1) := by decide +kernel
theorem dX7_tallyLetters_38 : decode cX7_tallyLetters 38 = .ok (.istore_n 3, 1) := by decide +kernel
theorem dX7_tallyLetters_39 : decode cX7_tallyLetters 39 = .ok (.iload_n 3, 1) := by decide +kernel
theorem dX7_tallyLetters_40 : decode cX7_tallyLetters 40 = .ok (.bipush 30, 2) := by decide +kernel
theorem dX7_tallyLetters_42 : decode cX7_tallyLetters 42 = .ok (.if_icmp .ge 51, 3) := by decide +kernel
theorem dX7_tallyLetters_45 : decode cX7_tallyLetters 45 = .ok (.aload_n 2, 1) := by decide +kernel
theorem dX7_tallyLetters_46 : decode cX7_tallyLetters 46 = .ok (.iload_n 3, 1) := by decide +kernel
theorem dX7_tallyLetters_47 : decode cX7_tallyLetters 47 = .ok (.invokevirtual 56, 3) := by decide +kernel
theorem dX7_tallyLetters_50 : decode cX7_tallyLetters 50 = .ok (.istore 4, 2) := by decide +kernel
theorem dX7_tallyLetters_52 : decode cX7_tallyLetters 52 = .ok (.iload 4, 2) := by decide +kernel
theorem dX7_tallyLetters_54 : decode cX7_tallyLetters 54 = .ok (.bipush 30, 2) := by decide +kernel
theorem dX7_tallyLetters_56 : decode cX7_tallyLetters 56 = .ok (.imul, 1) := by decide +kernel
theorem dX7_tallyLetters_57 : decode cX7_tallyLetters 57 = .ok (.iload_n 3, 1) := by decide +kernel
theorem dX7_tallyLetters_58 : decode cX7_tallyLetters 58 = .ok (.iadd, 1) := by decide +kernel
theorem dX7_tallyLetters_59 : decode cX7_tallyLetters 59 = .ok (.istore 5, 2) := by decide +kernel
theorem dX7_tallyLetters_61 : decode cX7_tallyLetters 61 = .ok (.iload 4, 2) := by decide +kernel
theorem dX7_tallyLetters_63 : decode cX7_tallyLetters 63 = .ok (.ifCond .lt 24, 3) := by decide +kernel
theorem dX7_tallyLetters_66 : decode cX7_tallyLetters 66 = .ok (.iload 5, 2) := by decide +kernel
theorem dX7_tallyLetters_68 : decode cX7_tallyLetters 68 = .ok (.aload_n 0, 1) := by decide +kernel
theorem dX7_tallyLetters_69 : decode cX7_tallyLetters 69 = .ok (.getfield 9, 3) := by decide +kernel
theorem dX7_tallyLetters_72 : decode cX7_tallyLetters 72 = .ok (.arraylength, 1) := by decide +kernel
theorem dX7_tallyLetters_73 : decode cX7_tallyLetters 73 = .ok (.if_icmp .ge 14, 3) := by decide +kernel
theorem dX7_tallyLetters_76 : decode cX7_tallyLetters 76 = .ok (.aload_n 0, 1) := by decide +kernel
theorem dX7_tallyLetters_77 : decode cX7_tallyLetters 77 = .ok (.getfield 9, 3) := by decide +kernel
theorem dX7_tallyLetters_80 : decode cX7_tallyLetters 80 = .ok (.iload 5, 2) := by decide +kernel
theorem dX7_tallyLetters_82 : decode cX7_tallyLetters 82 = .ok (.dup2, 1) := by decide +kernel
theorem dX7_tallyLetters_83 : decode cX7_tallyLetters 83 = .ok (.iaload, 1) := by decide +kernel
theorem dX7_tallyLetters_84 : decode cX7_tallyLetters 84 = .ok (.iconst 1, 1) := by decide +kernel
theorem dX7_tallyLetters_85 : decode cX7_tallyLetters 85 = .ok (.iadd, 1) := by decide +kernel
theorem dX7_tallyLetters_86 : decode cX7_tallyLetters 86 = .ok (.iastore, 1) := by decide +kernel
theorem dX7_tallyLetters_87 : decode cX7_tallyLetters 87 = .ok (.iinc 3 1, 3) := by decide +kernel
theorem dX7_tallyLetters_90 : decode cX7_tallyLetters 90 = .ok (.goto (-51), 3) := by decide +kernel
theorem dX7_tallyLetters_93 : decode cX7_tallyLetters 93 = .ok (.iinc 1 1, 3) := by decide +kernel
theorem dX7_tallyLetters_96 : decode cX7_tallyLetters 96 = .ok (.goto (-86), 3) := by decide +kernel
theorem dX7_tallyLetters_99 : decode cX7_tallyLetters 99 = .ok (.return_, 1) := by decide +kernel
theorem dX7_findChord_0 : decode cX7_findChord 0 = .ok (.aload_n 0, 1) := by decide +kernel
theorem dX7_findChord_1 : decode cX7_findChord 1 = .ok (.iconst (-1), 1) := by decide +kernel
theorem dX7_findChord_2 : decode cX7_findChord 2 = .ok (.putfield 60, 3) := by decide +kernel
theorem dX7_findChord_5 : decode cX7_findChord 5 = .ok (.aload_n 0, 1) := by decide +kernel
theorem dX7_findChord_6 : decode cX7_findChord 6 = .ok (.iconst (-1), 1) := by decide +kernel
theorem dX7_findChord_7 : decode cX7_findChord 7 = .ok (.putfield 63, 3) := by decide +kernel
theorem dX7_findChord_10 : decode cX7_findChord 10 = .ok (.iconst 0, 1) := by decide +kernel
theorem dX7_findChord_11 : decode cX7_findChord 11 = .ok (.istore_n 2, 1) := by decide +kernel
theorem dX7_findChord_12 : decode cX7_findChord 12 = .ok (.iload_n 2, 1) := by decide +kernel
theorem dX7_findChord_13 : decode cX7_findChord 13 = .ok (.bipush 30, 2) := by decide +kernel
theorem dX7_findChord_15 : decode cX7_findChord 15 = .ok (.if_icmp .ge 46, 3) := by decide +kernel
theorem dX7_findChord_18 : decode cX7_findChord 18 = .ok (.aload_n 0, 1) := by decide +kernel
theorem dX7_findChord_19 : decode cX7_findChord 19 = .ok (.getfield 9, 3) := by decide +kernel
theorem dX7_findChord_22 : decode cX7_findChord 22 = .ok (.iload_n 1, 1) := by decide +kernel
theorem dX7_findChord_23 : decode cX7_findChord 23 = .ok (.bipush 30, 2) := by decide +kernel
theorem dX7_findChord_25 : decode cX7_findChord 25 = .ok (.imul, 1) := by decide +kernel
theorem dX7_findChord_26 : decode cX7_findChord 26 = .ok (.iload_n 2, 1) := by decide +kernel
theorem dX7_findChord_27 : decode cX7_findChord 27 = .ok (.iadd, 1) := by decide +kernel
theorem dX7_findChord_28 : decode cX7_findChord 28 = .ok (.iconst 0, 1) := by decide +kernel
theorem dX7_findChord_29 : decode cX7_findChord 29 = .ok (.invokestatic 66, 3) := by decide +kernel
theorem dX7_findChord_32 : decode cX7_findChord 32 = .ok (.istore_n 3, 1) := by decide +kernel
theorem dX7_findChord_33 : decode cX7_findChord 33 = .ok (.iload_n 3, 1) := by decide +kernel
theorem dX7_findChord_34 : decode cX7_findChord 34 = .ok (.aload_n 0, 1) := by decide +kernel
theorem dX7_findChord_35 : decode cX7_findChord 35 = .ok (.getfield 63, 3) := by decide +kernel
theorem dX7_findChord_38 : decode cX7_findChord 38 = .ok (.iconst 0, 1) := by decide +kernel
theorem dX7_findChord_39 : decode cX7_findChord 39 = .ok (.invokestatic 70, 3) := by decide +kernel
theorem dX7_findChord_42 : decode cX7_findChord 42 = .ok (.if_icmp .le 13, 3) := by decide +kernel
theorem dX7_findChord_45 : decode cX7_findChord 45 = .ok (.aload_n 0, 1) := by decide +kernel
theorem dX7_findChord_46 : decode cX7_findChord 46 = .ok (.iload_n 2, 1) := by decide +kernel
theorem dX7_findChord_47 : decode cX7_findChord 47 = .ok (.putfield 60, 3) := by decide +kernel
theorem dX7_findChord_50 : decode cX7_findChord 50 = .ok (.aload_n 0, 1) := by decide +kernel
theorem dX7_findChord_51 : decode cX7_findChord 51 = .ok (.iload_n 3, 1) := by decide +kernel
theorem dX7_findChord_52 : decode cX7_findChord 52 = .ok (.putfield 63, 3) := by decide +kernel
theorem dX7_findChord_55 : decode cX7_findChord 55 = .ok (.iinc 2 1, 3) := by decide +kernel
theorem dX7_findChord_58 : decode cX7_findChord 58 = .ok (.goto (-46), 3) := by decide +kernel
theorem dX7_findChord_61 : decode cX7_findChord 61 = .ok (.return_, 1) := by decide +kernel
theorem dX7_silentNights_0 : decode cX7_silentNights 0 = .ok (.iconst 0, 1) := by decide +kernel
theorem dX7_silentNights_1 : decode cX7_silentNights 1 = .ok (.istore_n 1, 1) := by decide +kernel
theorem dX7_silentNights_2 : decode cX7_silentNights 2 = .ok (.iconst 0, 1) := by decide +kernel
theorem dX7_silentNights_3 : decode cX7_silentNights 3 = .ok (.istore_n 2, 1) := by decide +kernel
theorem dX7_silentNights_4 : decode cX7_silentNights 4 = .ok (.iload_n 2, 1) := by decide +kernel
theorem dX7_silentNights_5 : decode cX7_silentNights 5 = .ok (.aload_n 0, 1) := by decide +kernel
theorem dX7_silentNights_6 : decode cX7_silentNights 6 = .ok (.getfield 15, 3) := by decide +kernel
theorem dX7_silentNights_9 : decode cX7_silentNights 9 = .ok (.getfield 26, 3) := by decide +kernel
theorem dX7_silentNights_12 : decode cX7_silentNights 12 = .ok (.getfield 32, 3) := by decide +kernel
theorem dX7_silentNights_15 : decode cX7_silentNights 15 = .ok (.if_icmp .ge 29, 3) := by decide +kernel
theorem dX7_silentNights_18 : decode cX7_silentNights 18 = .ok (.aload_n 0, 1) := by decide +kernel
theorem dX7_silentNights_19 : decode cX7_silentNights 19 = .ok (.getfield 15, 3) := by decide +kernel
theorem dX7_silentNights_22 : decode cX7_silentNights 22 = .ok (.iload_n 2, 1) := by decide +kernel
theorem dX7_silentNights_23 : decode cX7_silentNights 23 = .ok (.invokevirtual 37, 3) := by decide +kernel
theorem dX7_silentNights_26 : decode cX7_silentNights 26 = .ok (.astore_n 3, 1) := by decide +kernel
theorem dX7_silentNights_27 : decode cX7_silentNights 27 = .ok (.aload_n 3, 1) := by decide +kernel
theorem dX7_silentNights_28 : decode cX7_silentNights 28 = .ok (.invokevirtual 41, 3) := by decide +kernel
theorem dX7_silentNights_31 : decode cX7_silentNights 31 = .ok (.iload_n 1, 1) := by decide +kernel
theorem dX7_silentNights_32 : decode cX7_silentNights 32 = .ok (.aload_n 3, 1) := by decide +kernel
theorem dX7_silentNights_33 : decode cX7_silentNights 33 = .ok (.getfield 76, 3) := by decide +kernel
theorem dX7_silentNights_36 : decode cX7_silentNights 36 = .ok (.ior, 1) := by decide +kernel
theorem dX7_silentNights_37 : decode cX7_silentNights 37 = .ok (.istore_n 1, 1) := by decide +kernel
theorem dX7_silentNights_38 : decode cX7_silentNights 38 = .ok (.iinc 2 1, 3) := by decide +kernel
theorem dX7_silentNights_41 : decode cX7_silentNights 41 = .ok (.goto (-37), 3) := by decide +kernel
theorem dX7_silentNights_44 : decode cX7_silentNights 44 = .ok (.ldc 79, 2) := by decide +kernel
theorem dX7_silentNights_46 : decode cX7_silentNights 46 = .ok (.iload_n 1, 1) := by decide +kernel
theorem dX7_silentNights_47 : decode cX7_silentNights 47 = .ok (.iconst (-1), 1) := by decide +kernel
theorem dX7_silentNights_48 : decode cX7_silentNights 48 = .ok (.ixor, 1) := by decide +kernel
theorem dX7_silentNights_49 : decode cX7_silentNights 49 = .ok (.iand, 1) := by decide +kernel
theorem dX7_silentNights_50 : decode cX7_silentNights 50 = .ok (.ireturn, 1) := by decide +kernel
theorem dX7_eatenWheels_0 : decode cX7_eatenWheels 0 = .ok (.iconst 0, 1) := by decide +kernel
theorem dX7_eatenWheels_1 : decode cX7_eatenWheels 1 = .ok (.istore_n 1, 1) := by decide +kernel
theorem dX7_eatenWheels_2 : decode cX7_eatenWheels 2 = .ok (.iconst 0, 1) := by decide +kernel
theorem dX7_eatenWheels_3 : decode cX7_eatenWheels 3 = .ok (.istore_n 2, 1) := by decide +kernel
theorem dX7_eatenWheels_4 : decode cX7_eatenWheels 4 = .ok (.iload_n 2, 1) := by decide +kernel
theorem dX7_eatenWheels_5 : decode cX7_eatenWheels 5 = .ok (.aload_n 0, 1) := by decide +kernel
theorem dX7_eatenWheels_6 : decode cX7_eatenWheels 6 = .ok (.getfield 15, 3) := by decide +kernel
theorem dX7_eatenWheels_9 : decode cX7_eatenWheels 9 = .ok (.getfield 26, 3) := by decide +kernel
theorem dX7_eatenWheels_12 : decode cX7_eatenWheels 12 = .ok (.getfield 32, 3) := by decide +kernel
theorem dX7_eatenWheels_15 : decode cX7_eatenWheels 15 = .ok (.if_icmp .ge 37, 3) := by decide +kernel
theorem dX7_eatenWheels_18 : decode cX7_eatenWheels 18 = .ok (.aload_n 0, 1) := by decide +kernel
theorem dX7_eatenWheels_19 : decode cX7_eatenWheels 19 = .ok (.getfield 15, 3) := by decide +kernel
theorem dX7_eatenWheels_22 : decode cX7_eatenWheels 22 = .ok (.iload_n 2, 1) := by decide +kernel
theorem dX7_eatenWheels_23 : decode cX7_eatenWheels 23 = .ok (.invokevirtual 37, 3) := by decide +kernel
theorem dX7_eatenWheels_26 : decode cX7_eatenWheels 26 = .ok (.astore_n 3, 1) := by decide +kernel
theorem dX7_eatenWheels_27 : decode cX7_eatenWheels 27 = .ok (.aload_n 3, 1) := by decide +kernel
theorem dX7_eatenWheels_28 : decode cX7_eatenWheels 28 = .ok (.invokevirtual 41, 3) := by decide +kernel
theorem dX7_eatenWheels_31 : decode cX7_eatenWheels 31 = .ok (.iload_n 1, 1) := by decide +kernel
theorem dX7_eatenWheels_32 : decode cX7_eatenWheels 32 = .ok (.aload_n 3, 1) := by decide +kernel
theorem dX7_eatenWheels_33 : decode cX7_eatenWheels 33 = .ok (.getfield 80, 3) := by decide +kernel
theorem dX7_eatenWheels_36 : decode cX7_eatenWheels 36 = .ok (.ifCond .eq 7, 3) := by decide +kernel
theorem dX7_eatenWheels_39 : decode cX7_eatenWheels 39 = .ok (.iconst 1, 1) := by decide +kernel
theorem dX7_eatenWheels_40 : decode cX7_eatenWheels 40 = .ok (.goto 4, 3) := by decide +kernel
theorem dX7_eatenWheels_43 : decode cX7_eatenWheels 43 = .ok (.iconst 0, 1) := by decide +kernel
theorem dX7_eatenWheels_44 : decode cX7_eatenWheels 44 = .ok (.iadd, 1) := by decide +kernel
theorem dX7_eatenWheels_45 : decode cX7_eatenWheels 45 = .ok (.istore_n 1, 1) := by decide +kernel
theorem dX7_eatenWheels_46 : decode cX7_eatenWheels 46 = .ok (.iinc 2 1, 3) := by decide +kernel
theorem dX7_eatenWheels_49 : decode cX7_eatenWheels 49 = .ok (.goto (-45), 3) := by decide +kernel
theorem dX7_eatenWheels_52 : decode cX7_eatenWheels 52 = .ok (.iload_n 1, 1) := by decide +kernel
theorem dX7_eatenWheels_53 : decode cX7_eatenWheels 53 = .ok (.ireturn, 1) := by decide +kernel
theorem dX8_init_0 : decode cX8_init 0 = .ok (.aload_n 0, 1) := by decide +kernel
theorem dX8_init_1 : decode cX8_init 1 = .ok (.invokespecial 3, 3) := by decide +kernel
theorem dX8_init_4 : decode cX8_init 4 = .ok (.aload_n 0, 1) := by decide +kernel
theorem dX8_init_5 : decode cX8_init 5 = .ok (.iload_n 1, 1) := by decide +kernel
theorem dX8_init_6 : decode cX8_init 6 = .ok (.iconst 0, 1) := by decide +kernel
theorem dX8_init_7 : decode cX8_init 7 = .ok (.invokestatic 9, 3) := by decide +kernel
theorem dX8_init_10 : decode cX8_init 10 = .ok (.newarray .int, 2) := by decide +kernel
theorem dX8_init_12 : decode cX8_init 12 = .ok (.putfield 15, 3) := by decide +kernel
theorem dX8_init_15 : decode cX8_init 15 = .ok (.return_, 1) := by decide +kernel
theorem dX8_isFull_0 : decode cX8_isFull 0 = .ok (.aload_n 0, 1) := by decide +kernel
theorem dX8_isFull_1 : decode cX8_isFull 1 = .ok (.getfield 21, 3) := by decide +kernel
theorem dX8_isFull_4 : decode cX8_isFull 4 = .ok (.aload_n 0, 1) := by decide +kernel
theorem dX8_isFull_5 : decode cX8_isFull 5 = .ok (.getfield 15, 3) := by decide +kernel
theorem dX8_isFull_8 : decode cX8_isFull 8 = .ok (.arraylength, 1) := by decide +kernel
theorem dX8_isFull_9 : decode cX8_isFull 9 = .ok (.if_icmp .lt 7, 3) := by decide +kernel
theorem dX8_isFull_12 : decode cX8_isFull 12 = .ok (.iconst 1, 1) := by decide +kernel
theorem dX8_isFull_13 : decode cX8_isFull 13 = .ok (.goto 4, 3) := by decide +kernel
theorem dX8_isFull_16 : decode cX8_isFull 16 = .ok (.iconst 0, 1) := by decide +kernel
theorem dX8_isFull_17 : decode cX8_isFull 17 = .ok (.ireturn, 1) := by decide +kernel
theorem dX8_append_0 : decode cX8_append 0 = .ok (.aload_n 0, 1) := by decide +kernel
theorem dX8_append_1 : decode cX8_append 1 = .ok (.getfield 21, 3) := by decide +kernel
theorem dX8_append_4 : decode cX8_append 4 = .ok (.ifCond .lt 35, 3) := by decide +kernel
theorem dX8_append_7 : decode cX8_append 7 = .ok (.aload_n 0, 1) := by decide +kernel
theorem dX8_append_8 : decode cX8_append 8 = .ok (.getfield 21, 3) := by decide +kernel
theorem dX8_append_11 : decode cX8_append 11 = .ok (.aload_n 0, 1) := by decide +kernel
theorem dX8_append_12 : decode cX8_append 12 = .ok (.getfield 15, 3) := by decide +kernel
theorem dX8_append_15 : decode cX8_append 15 = .ok (.arraylength, 1) := by decide +kernel
theorem dX8_append_16 : decode cX8_append 16 = .ok (.if_icmp .ge 23, 3) := by decide +kernel
theorem dX8_append_19 : decode cX8_append 19 = .ok (.aload_n 0, 1) := by decide +kernel
theorem dX8_append_20 : decode cX8_append 20 = .ok (.getfield 15, 3) := by decide +kernel
theorem dX8_append_23 : decode cX8_append 23 = .ok (.aload_n 0, 1) := by decide +kernel
theorem dX8_append_24 : decode cX8_append 24 = .ok (.getfield 21, 3) := by decide +kernel
theorem dX8_append_27 : decode cX8_append 27 = .ok (.iload_n 1, 1) := by decide +kernel
theorem dX8_append_28 : decode cX8_append 28 = .ok (.iastore, 1) := by decide +kernel
theorem dX8_append_29 : decode cX8_append 29 = .ok (.aload_n 0, 1) := by decide +kernel
theorem dX8_append_30 : decode cX8_append 30 = .ok (.dup, 1) := by decide +kernel
theorem dX8_append_31 : decode cX8_append 31 = .ok (.getfield 21, 3) := by decide +kernel
theorem dX8_append_34 : decode cX8_append 34 = .ok (.iconst 1, 1) := by decide +kernel
theorem dX8_append_35 : decode cX8_append 35 = .ok (.iadd, 1) := by decide +kernel
theorem dX8_append_36 : decode cX8_append 36 = .ok (.putfield 21, 3) := by decide +kernel
theorem dX8_append_39 : decode cX8_append 39 = .ok (.return_, 1) := by decide +kernel
theorem dX8_byteAt_0 : decode cX8_byteAt 0 = .ok (.aload_n 0, 1) := by decide +kernel
theorem dX8_byteAt_1 : decode cX8_byteAt 1 = .ok (.getfield 15, 3) := by decide +kernel
theorem dX8_byteAt_4 : decode cX8_byteAt 4 = .ok (.iload_n 1, 1) := by decide +kernel
theorem dX8_byteAt_5 : decode cX8_byteAt 5 = .ok (.iconst (-1), 1) := by decide +kernel
theorem dX8_byteAt_6 : decode cX8_byteAt 6 = .ok (.invokestatic 25, 3) := by decide +kernel
theorem dX8_byteAt_9 : decode cX8_byteAt 9 = .ok (.ireturn, 1) := by decide +kernel
theorem dJ6_bitCount_0f7a4_0 : decode cJ6_bitCount_0f7a4 0 = .ok (.iload_n 0, 1) := by decide +kernel
theorem dJ6_bitCount_0f7a4_1 : decode cJ6_bitCount_0f7a4 1 = .ok (.iload_n 0, 1) := by decide +kernel
theorem dJ6_bitCount_0f7a4_2 : decode cJ6_bitCount_0f7a4 2 = .ok (.iconst 1, 1) := by decide +kernel
theorem dJ6_bitCount_0f7a4_3 : decode cJ6_bitCount_0f7a4 3 = .ok (.iushr, 1) := by decide +kernel
theorem dJ6_bitCount_0f7a4_4 : decode cJ6_bitCount_0f7a4 4 = .ok (.ldc_w 265, 3) := by decide +kernel
theorem dJ6_bitCount_0f7a4_7 : decode cJ6_bitCount_0f7a4 7 = .ok (.iand, 1) := by decide +kernel
theorem dJ6_bitCount_0f7a4_8 : decode cJ6_bitCount_0f7a4 8 = .ok (.isub, 1) := by decide +kernel
theorem dJ6_bitCount_0f7a4_9 : decode cJ6_bitCount_0f7a4 9 = .ok (.istore_n 0, 1) := by decide +kernel
theorem dJ6_bitCount_0f7a4_10 : decode cJ6_bitCount_0f7a4 10 = .ok (.iload_n 0, 1) := by decide +kernel
theorem dJ6_bitCount_0f7a4_11 : decode cJ6_bitCount_0f7a4 11 = .ok (.ldc_w 266, 3) := by decide +kernel
theorem dJ6_bitCount_0f7a4_14 : decode cJ6_bitCount_0f7a4 14 = .ok (.iand, 1) := by decide +kernel
theorem dJ6_bitCount_0f7a4_15 : decode cJ6_bitCount_0f7a4 15 = .ok (.iload_n 0, 1) := by decide +kernel
theorem dJ6_bitCount_0f7a4_16 : decode cJ6_bitCount_0f7a4 16 = .ok (.iconst 2, 1) := by decide +kernel
theorem dJ6_bitCount_0f7a4_17 : decode cJ6_bitCount_0f7a4 17 = .ok (.iushr, 1) := by decide +kernel
theorem dJ6_bitCount_0f7a4_18 : decode cJ6_bitCount_0f7a4 18 = .ok (.ldc_w 266, 3) := by decide +kernel
theorem dJ6_bitCount_0f7a4_21 : decode cJ6_bitCount_0f7a4 21 = .ok (.iand, 1) := by decide +kernel
theorem dJ6_bitCount_0f7a4_22 : decode cJ6_bitCount_0f7a4 22 = .ok (.iadd, 1) := by decide +kernel
theorem dJ6_bitCount_0f7a4_23 : decode cJ6_bitCount_0f7a4 23 = .ok (.istore_n 0, 1) := by decide +kernel
theorem dJ6_bitCount_0f7a4_24 : decode cJ6_bitCount_0f7a4 24 = .ok (.iload_n 0, 1) := by decide +kernel
theorem dJ6_bitCount_0f7a4_25 : decode cJ6_bitCount_0f7a4 25 = .ok (.iload_n 0, 1) := by decide +kernel
theorem dJ6_bitCount_0f7a4_26 : decode cJ6_bitCount_0f7a4 26 = .ok (.iconst 4, 1) := by decide +kernel
theorem dJ6_bitCount_0f7a4_27 : decode cJ6_bitCount_0f7a4 27 = .ok (.iushr, 1) := by decide +kernel
theorem dJ6_bitCount_0f7a4_28 : decode cJ6_bitCount_0f7a4 28 = .ok (.iadd, 1) := by decide +kernel
theorem dJ6_bitCount_0f7a4_29 : decode cJ6_bitCount_0f7a4 29 = .ok (.ldc_w 267, 3) := by decide +kernel
theorem dJ6_bitCount_0f7a4_32 : decode cJ6_bitCount_0f7a4 32 = .ok (.iand, 1) := by decide +kernel
theorem dJ6_bitCount_0f7a4_33 : decode cJ6_bitCount_0f7a4 33 = .ok (.istore_n 0, 1) := by decide +kernel
theorem dJ6_bitCount_0f7a4_34 : decode cJ6_bitCount_0f7a4 34 = .ok (.iload_n 0, 1) := by decide +kernel
theorem dJ6_bitCount_0f7a4_35 : decode cJ6_bitCount_0f7a4 35 = .ok (.iload_n 0, 1) := by decide +kernel
theorem dJ6_bitCount_0f7a4_36 : decode cJ6_bitCount_0f7a4 36 = .ok (.bipush 8, 2) := by decide +kernel
theorem dJ6_bitCount_0f7a4_38 : decode cJ6_bitCount_0f7a4 38 = .ok (.iushr, 1) := by decide +kernel
theorem dJ6_bitCount_0f7a4_39 : decode cJ6_bitCount_0f7a4 39 = .ok (.iadd, 1) := by decide +kernel
theorem dJ6_bitCount_0f7a4_40 : decode cJ6_bitCount_0f7a4 40 = .ok (.istore_n 0, 1) := by decide +kernel
theorem dJ6_bitCount_0f7a4_41 : decode cJ6_bitCount_0f7a4 41 = .ok (.iload_n 0, 1) := by decide +kernel
theorem dJ6_bitCount_0f7a4_42 : decode cJ6_bitCount_0f7a4 42 = .ok (.iload_n 0, 1) := by decide +kernel
theorem dJ6_bitCount_0f7a4_43 : decode cJ6_bitCount_0f7a4 43 = .ok (.bipush 16, 2) := by decide +kernel
theorem dJ6_bitCount_0f7a4_45 : decode cJ6_bitCount_0f7a4 45 = .ok (.iushr, 1) := by decide +kernel
theorem dJ6_bitCount_0f7a4_46 : decode cJ6_bitCount_0f7a4 46 = .ok (.iadd, 1) := by decide +kernel
theorem dJ6_bitCount_0f7a4_47 : decode cJ6_bitCount_0f7a4 47 = .ok (.istore_n 0, 1) := by decide +kernel
theorem dJ6_bitCount_0f7a4_48 : decode cJ6_bitCount_0f7a4 48 = .ok (.iload_n 0, 1) := by decide +kernel
theorem dJ6_bitCount_0f7a4_49 : decode cJ6_bitCount_0f7a4 49 = .ok (.bipush 63, 2) := by decide +kernel
theorem dJ6_bitCount_0f7a4_51 : decode cJ6_bitCount_0f7a4 51 = .ok (.iand, 1) := by decide +kernel
theorem dJ6_bitCount_0f7a4_52 : decode cJ6_bitCount_0f7a4 52 = .ok (.ireturn, 1) := by decide +kernel
theorem dJ9_max_7cf53_0 : decode cJ9_max_7cf53 0 = .ok (.iload_n 0, 1) := by decide +kernel
theorem dJ9_max_7cf53_1 : decode cJ9_max_7cf53 1 = .ok (.iload_n 1, 1) := by decide +kernel
theorem dJ9_max_7cf53_2 : decode cJ9_max_7cf53 2 = .ok (.if_icmp .lt 7, 3) := by decide +kernel
theorem dJ9_max_7cf53_5 : decode cJ9_max_7cf53 5 = .ok (.iload_n 0, 1) := by decide +kernel
theorem dJ9_max_7cf53_6 : decode cJ9_max_7cf53 6 = .ok (.goto 4, 3) := by decide +kernel
theorem dJ9_max_7cf53_9 : decode cJ9_max_7cf53 9 = .ok (.iload_n 1, 1) := by decide +kernel
theorem dJ9_max_7cf53_10 : decode cJ9_max_7cf53 10 = .ok (.ireturn, 1) := by decide +kernel
theorem dJ9_min_7cf53_0 : decode cJ9_min_7cf53 0 = .ok (.iload_n 0, 1) := by decide +kernel
end
section
theorem dJ9_min_7cf53_1 : decode cJ9_min_7cf53 1 = .ok (.iload_n 1, 1) := by decide +kernel
theorem dJ9_min_7cf53_2 : decode cJ9_min_7cf53 2 = .ok (.if_icmp .gt 7, 3) := by decide +kernel
theorem dJ9_min_7cf53_5 : decode cJ9_min_7cf53 5 = .ok (.iload_n 0, 1) := by decide +kernel
theorem dJ9_min_7cf53_6 : decode cJ9_min_7cf53 6 = .ok (.goto 4, 3) := by decide +kernel
theorem dJ9_min_7cf53_9 : decode cJ9_min_7cf53 9 = .ok (.iload_n 1, 1) := by decide +kernel
theorem dJ9_min_7cf53_10 : decode cJ9_min_7cf53 10 = .ok (.ireturn, 1) := by decide +kernel
theorem dJ7_fill_d0a16_0 : decode cJ7_fill_d0a16 0 = .ok (.iconst 0, 1) := by decide +kernel
theorem dJ7_fill_d0a16_1 : decode cJ7_fill_d0a16 1 = .ok (.istore_n 3, 1) := by decide +kernel
theorem dJ7_fill_d0a16_2 : decode cJ7_fill_d0a16 2 = .ok (.aload_n 0, 1) := by decide +kernel
theorem dJ7_fill_d0a16_3 : decode cJ7_fill_d0a16 3 = .ok (.arraylength, 1) := by decide +kernel
theorem dJ7_fill_d0a16_4 : decode cJ7_fill_d0a16 4 = .ok (.istore 4, 2) := by decide +kernel
theorem dJ7_fill_d0a16_6 : decode cJ7_fill_d0a16 6 = .ok (.iload_n 3, 1) := by decide +kernel
theorem dJ7_fill_d0a16_7 : decode cJ7_fill_d0a16 7 = .ok (.iload 4, 2) := by decide +kernel
theorem dJ7_fill_d0a16_9 : decode cJ7_fill_d0a16 9 = .ok (.if_icmp .ge 13, 3) := by decide +kernel
theorem dJ7_fill_d0a16_12 : decode cJ7_fill_d0a16 12 = .ok (.aload_n 0, 1) := by decide +kernel
theorem dJ7_fill_d0a16_13 : decode cJ7_fill_d0a16 13 = .ok (.iload_n 3, 1) := by decide +kernel
theorem dJ7_fill_d0a16_14 : decode cJ7_fill_d0a16 14 = .ok (.lload_n 1, 1) := by decide +kernel
theorem dJ7_fill_d0a16_15 : decode cJ7_fill_d0a16 15 = .ok (.lastore, 1) := by decide +kernel
theorem dJ7_fill_d0a16_16 : decode cJ7_fill_d0a16 16 = .ok (.iinc 3 1, 3) := by decide +kernel
theorem dJ7_fill_d0a16_19 : decode cJ7_fill_d0a16 19 = .ok (.goto (-13), 3) := by decide +kernel
theorem dJ7_fill_d0a16_22 : decode cJ7_fill_d0a16 22 = .ok (.return_, 1) := by decide +kernel
theorem dJ7_fill_53178_0 : decode cJ7_fill_53178 0 = .ok (.iconst 0, 1) := by decide +kernel
theorem dJ7_fill_53178_1 : decode cJ7_fill_53178 1 = .ok (.istore_n 2, 1) := by decide +kernel
theorem dJ7_fill_53178_2 : decode cJ7_fill_53178 2 = .ok (.aload_n 0, 1) := by decide +kernel
theorem dJ7_fill_53178_3 : decode cJ7_fill_53178 3 = .ok (.arraylength, 1) := by decide +kernel
theorem dJ7_fill_53178_4 : decode cJ7_fill_53178 4 = .ok (.istore_n 3, 1) := by decide +kernel
theorem dJ7_fill_53178_5 : decode cJ7_fill_53178 5 = .ok (.iload_n 2, 1) := by decide +kernel
theorem dJ7_fill_53178_6 : decode cJ7_fill_53178 6 = .ok (.iload_n 3, 1) := by decide +kernel
theorem dJ7_fill_53178_7 : decode cJ7_fill_53178 7 = .ok (.if_icmp .ge 13, 3) := by decide +kernel
theorem dJ7_fill_53178_10 : decode cJ7_fill_53178 10 = .ok (.aload_n 0, 1) := by decide +kernel
theorem dJ7_fill_53178_11 : decode cJ7_fill_53178 11 = .ok (.iload_n 2, 1) := by decide +kernel
theorem dJ7_fill_53178_12 : decode cJ7_fill_53178 12 = .ok (.iload_n 1, 1) := by decide +kernel
theorem dJ7_fill_53178_13 : decode cJ7_fill_53178 13 = .ok (.iastore, 1) := by decide +kernel
theorem dJ7_fill_53178_14 : decode cJ7_fill_53178 14 = .ok (.iinc 2 1, 3) := by decide +kernel
theorem dJ7_fill_53178_17 : decode cJ7_fill_53178 17 = .ok (.goto (-12), 3) := by decide +kernel
theorem dJ7_fill_53178_20 : decode cJ7_fill_53178 20 = .ok (.return_, 1) := by decide +kernel
end
section
theorem dX9_init_0 : decode cX9_init 0 = .ok (.aload_n 0, 1) := by decide +kernel
theorem dX9_init_1 : decode cX9_init 1 = .ok (.invokespecial 3, 3) := by decide +kernel
theorem dX9_init_4 : decode cX9_init 4 = .ok (.aload_n 0, 1) := by decide +kernel
theorem dX9_init_5 : decode cX9_init 5 = .ok (.iconst 5, 1) := by decide +kernel
theorem dX9_init_6 : decode cX9_init 6 = .ok (.newarray .int, 2) := by decide +kernel
theorem dX9_init_8 : decode cX9_init 8 = .ok (.putfield 9, 3) := by decide +kernel
theorem dX9_init_11 : decode cX9_init 11 = .ok (.aload_n 0, 1) := by decide +kernel
theorem dX9_init_12 : decode cX9_init 12 = .ok (.bipush 30, 2) := by decide +kernel
theorem dX9_init_14 : decode cX9_init 14 = .ok (.newarray .int, 2) := by decide +kernel
theorem dX9_init_16 : decode cX9_init 16 = .ok (.putfield 15, 3) := by decide +kernel
theorem dX9_init_19 : decode cX9_init 19 = .ok (.aload_n 0, 1) := by decide +kernel
theorem dX9_init_20 : decode cX9_init 20 = .ok (.bipush 30, 2) := by decide +kernel
theorem dX9_init_22 : decode cX9_init 22 = .ok (.newarray .int, 2) := by decide +kernel
theorem dX9_init_24 : decode cX9_init 24 = .ok (.putfield 18, 3) := by decide +kernel
theorem dX9_init_27 : decode cX9_init 27 = .ok (.aload_n 0, 1) := by decide +kernel
theorem dX9_init_28 : decode cX9_init 28 = .ok (.bipush 30, 2) := by decide +kernel
theorem dX9_init_30 : decode cX9_init 30 = .ok (.newarray .int, 2) := by decide +kernel
theorem dX9_init_32 : decode cX9_init 32 = .ok (.putfield 21, 3) := by decide +kernel
theorem dX9_init_35 : decode cX9_init 35 = .ok (.aload_n 0, 1) := by decide +kernel
theorem dX9_init_36 : decode cX9_init 36 = .ok (.bipush 30, 2) := by decide +kernel
theorem dX9_init_38 : decode cX9_init 38 = .ok (.newarray .int, 2) := by decide +kernel
theorem dX9_init_40 : decode cX9_init 40 = .ok (.putfield 24, 3) := by decide +kernel
theorem dX9_init_43 : decode cX9_init 43 = .ok (.aload_n 0, 1) := by decide +kernel
theorem dX9_init_44 : decode cX9_init 44 = .ok (.bipush 30, 2) := by decide +kernel
theorem dX9_init_46 : decode cX9_init 46 = .ok (.newarray .int, 2) := by decide +kernel
theorem dX9_init_48 : decode cX9_init 48 = .ok (.putfield 27, 3) := by decide +kernel
theorem dX9_init_51 : decode cX9_init 51 = .ok (.return_, 1) := by decide +kernel
theorem dX9_learn_0 : decode cX9_learn 0 = .ok (.iload_n 1, 1) := by decide +kernel
theorem dX9_learn_1 : decode cX9_learn 1 = .ok (.ifCond .lt 48, 3) := by decide +kernel
theorem dX9_learn_4 : decode cX9_learn 4 = .ok (.iload_n 1, 1) := by decide +kernel
theorem dX9_learn_5 : decode cX9_learn 5 = .ok (.aload_n 0, 1) := by decide +kernel
theorem dX9_learn_6 : decode cX9_learn 6 = .ok (.getfield 9, 3) := by decide +kernel
theorem dX9_learn_9 : decode cX9_learn 9 = .ok (.arraylength, 1) := by decide +kernel
theorem dX9_learn_10 : decode cX9_learn 10 = .ok (.if_icmp .ge 39, 3) := by decide +kernel
theorem dX9_learn_13 : decode cX9_learn 13 = .ok (.aload_n 0, 1) := by decide +kernel
theorem dX9_learn_14 : decode cX9_learn 14 = .ok (.getfield 9, 3) := by decide +kernel
theorem dX9_learn_17 : decode cX9_learn 17 = .ok (.iload_n 1, 1) := by decide +kernel
theorem dX9_learn_18 : decode cX9_learn 18 = .ok (.iload_n 2, 1) := by decide +kernel
theorem dX9_learn_19 : decode cX9_learn 19 = .ok (.iastore, 1) := by decide +kernel
theorem dX9_learn_20 : decode cX9_learn 20 = .ok (.aload_n 0, 1) := by decide +kernel
theorem dX9_learn_21 : decode cX9_learn 21 = .ok (.iload_n 3, 1) := by decide +kernel
theorem dX9_learn_22 : decode cX9_learn 22 = .ok (.ifCond .eq 14, 3) := by decide +kernel
theorem dX9_learn_25 : decode cX9_learn 25 = .ok (.aload_n 0, 1) := by decide +kernel
theorem dX9_learn_26 : decode cX9_learn 26 = .ok (.getfield 30, 3) := by decide +kernel
theorem dX9_learn_29 : decode cX9_learn 29 = .ok (.iconst 1, 1) := by decide +kernel
theorem dX9_learn_30 : decode cX9_learn 30 = .ok (.iload_n 1, 1) := by decide +kernel
theorem dX9_learn_31 : decode cX9_learn 31 = .ok (.ishl, 1) := by decide +kernel
theorem dX9_learn_32 : decode cX9_learn 32 = .ok (.ior, 1) := by decide +kernel
theorem dX9_learn_33 : decode cX9_learn 33 = .ok (.goto 13, 3) := by decide +kernel
theorem dX9_learn_36 : decode cX9_learn 36 = .ok (.aload_n 0, 1) := by decide +kernel
theorem dX9_learn_37 : decode cX9_learn 37 = .ok (.getfield 30, 3) := by decide +kernel
theorem dX9_learn_40 : decode cX9_learn 40 = .ok (.iconst 1, 1) := by decide +kernel
theorem dX9_learn_41 : decode cX9_learn 41 = .ok (.iload_n 1, 1) := by decide +kernel
theorem dX9_learn_42 : decode cX9_learn 42 = .ok (.ishl, 1) := by decide +kernel
theorem dX9_learn_43 : decode cX9_learn 43 = .ok (.iconst (-1), 1) := by decide +kernel
theorem dX9_learn_44 : decode cX9_learn 44 = .ok (.ixor, 1) := by decide +kernel
theorem dX9_learn_45 : decode cX9_learn 45 = .ok (.iand, 1) := by decide +kernel
theorem dX9_learn_46 : decode cX9_learn 46 = .ok (.putfield 30, 3) := by decide +kernel
theorem dX9_learn_49 : decode cX9_learn 49 = .ok (.return_, 1) := by decide +kernel
theorem dX9_warmTo_0 : decode cX9_warmTo 0 = .ok (.iload_n 1, 1) := by decide +kernel
theorem dX9_warmTo_1 : decode cX9_warmTo 1 = .ok (.ifCond .lt 19, 3) := by decide +kernel
theorem dX9_warmTo_4 : decode cX9_warmTo 4 = .ok (.iload_n 1, 1) := by decide +kernel
theorem dX9_warmTo_5 : decode cX9_warmTo 5 = .ok (.aload_n 0, 1) := by decide +kernel
theorem dX9_warmTo_6 : decode cX9_warmTo 6 = .ok (.getfield 15, 3) := by decide +kernel
theorem dX9_warmTo_9 : decode cX9_warmTo 9 = .ok (.arraylength, 1) := by decide +kernel
theorem dX9_warmTo_10 : decode cX9_warmTo 10 = .ok (.if_icmp .ge 10, 3) := by decide +kernel
theorem dX9_warmTo_13 : decode cX9_warmTo 13 = .ok (.aload_n 0, 1) := by decide +kernel
theorem dX9_warmTo_14 : decode cX9_warmTo 14 = .ok (.getfield 15, 3) := by decide +kernel
theorem dX9_warmTo_17 : decode cX9_warmTo 17 = .ok (.iload_n 1, 1) := by decide +kernel
theorem dX9_warmTo_18 : decode cX9_warmTo 18 = .ok (.iload_n 2, 1) := by decide +kernel
theorem dX9_warmTo_19 : decode cX9_warmTo 19 = .ok (.iastore, 1) := by decide +kernel
theorem dX9_warmTo_20 : decode cX9_warmTo 20 = .ok (.return_, 1) := by decide +kernel
theorem dX9_warmthOn_0 : decode cX9_warmthOn 0 = .ok (.aload_n 0, 1) := by decide +kernel
theorem dX9_warmthOn_1 : decode cX9_warmthOn 1 = .ok (.getfield 15, 3) := by decide +kernel
theorem dX9_warmthOn_4 : decode cX9_warmthOn 4 = .ok (.iload_n 1, 1) := by decide +kernel
theorem dX9_warmthOn_5 : decode cX9_warmthOn 5 = .ok (.iconst 5, 1) := by decide +kernel
theorem dX9_warmthOn_6 : decode cX9_warmthOn 6 = .ok (.invokestatic 34, 3) := by decide +kernel
theorem dX9_warmthOn_9 : decode cX9_warmthOn 9 = .ok (.ireturn, 1) := by decide +kernel
theorem dX9_ageOn_0 : decode cX9_ageOn 0 = .ok (.aload_n 0, 1) := by decide +kernel
theorem dX9_ageOn_1 : decode cX9_ageOn 1 = .ok (.getfield 18, 3) := by decide +kernel
theorem dX9_ageOn_4 : decode cX9_ageOn 4 = .ok (.iload_n 1, 1) := by decide +kernel
theorem dX9_ageOn_5 : decode cX9_ageOn 5 = .ok (.iconst 0, 1) := by decide +kernel
theorem dX9_ageOn_6 : decode cX9_ageOn 6 = .ok (.invokestatic 34, 3) := by decide +kernel
theorem dX9_ageOn_9 : decode cX9_ageOn 9 = .ok (.ireturn, 1) := by decide +kernel
theorem dX9_momentOn_0 : decode cX9_momentOn 0 = .ok (.aload_n 0, 1) := by decide +kernel
theorem dX9_momentOn_1 : decode cX9_momentOn 1 = .ok (.getfield 21, 3) := by decide +kernel
theorem dX9_momentOn_4 : decode cX9_momentOn 4 = .ok (.iload_n 1, 1) := by decide +kernel
theorem dX9_momentOn_5 : decode cX9_momentOn 5 = .ok (.iconst (-1), 1) := by decide +kernel
theorem dX9_momentOn_6 : decode cX9_momentOn 6 = .ok (.invokestatic 34, 3) := by decide +kernel
theorem dX9_momentOn_9 : decode cX9_momentOn 9 = .ok (.ireturn, 1) := by decide +kernel
theorem dX9_heardOn_0 : decode cX9_heardOn 0 = .ok (.aload_n 0, 1) := by decide +kernel
theorem dX9_heardOn_1 : decode cX9_heardOn 1 = .ok (.getfield 24, 3) := by decide +kernel
theorem dX9_heardOn_4 : decode cX9_heardOn 4 = .ok (.iload_n 1, 1) := by decide +kernel
theorem dX9_heardOn_5 : decode cX9_heardOn 5 = .ok (.iconst (-1), 1) := by decide +kernel
theorem dX9_heardOn_6 : decode cX9_heardOn 6 = .ok (.invokestatic 34, 3) := by decide +kernel
theorem dX9_heardOn_9 : decode cX9_heardOn 9 = .ok (.ireturn, 1) := by decide +kernel
theorem dX9_stateOn_0 : decode cX9_stateOn 0 = .ok (.aload_n 0, 1) := by decide +kernel
theorem dX9_stateOn_1 : decode cX9_stateOn 1 = .ok (.getfield 27, 3) := by decide +kernel
theorem dX9_stateOn_4 : decode cX9_stateOn 4 = .ok (.iload_n 1, 1) := by decide +kernel
theorem dX9_stateOn_5 : decode cX9_stateOn 5 = .ok (.iconst 0, 1) := by decide +kernel
theorem dX9_stateOn_6 : decode cX9_stateOn 6 = .ok (.invokestatic 34, 3) := by decide +kernel
theorem dX9_stateOn_9 : decode cX9_stateOn 9 = .ok (.ireturn, 1) := by decide +kernel
theorem dX9_growth_0 : decode cX9_growth 0 = .ok (.aload_n 0, 1) := by decide +kernel
theorem dX9_growth_1 : decode cX9_growth 1 = .ok (.getfield 38, 3) := by decide +kernel
theorem dX9_growth_4 : decode cX9_growth 4 = .ok (.iload_n 1, 1) := by decide +kernel
theorem dX9_growth_5 : decode cX9_growth 5 = .ok (.invokestatic 41, 3) := by decide +kernel
theorem dX9_growth_8 : decode cX9_growth 8 = .ok (.ifCond .eq 7, 3) := by decide +kernel
theorem dX9_growth_11 : decode cX9_growth 11 = .ok (.iconst 2, 1) := by decide +kernel
theorem dX9_growth_12 : decode cX9_growth 12 = .ok (.goto 4, 3) := by decide +kernel
theorem dX9_growth_15 : decode cX9_growth 15 = .ok (.iconst 0, 1) := by decide +kernel
theorem dX9_growth_16 : decode cX9_growth 16 = .ok (.istore_n 3, 1) := by decide +kernel
theorem dX9_growth_17 : decode cX9_growth 17 = .ok (.aload_n 0, 1) := by decide +kernel
theorem dX9_growth_18 : decode cX9_growth 18 = .ok (.getfield 45, 3) := by decide +kernel
theorem dX9_growth_21 : decode cX9_growth 21 = .ok (.iconst 2, 1) := by decide +kernel
theorem dX9_growth_22 : decode cX9_growth 22 = .ok (.if_icmp .ne 9, 3) := by decide +kernel
theorem dX9_growth_25 : decode cX9_growth 25 = .ok (.iload_n 2, 1) := by decide +kernel
theorem dX9_growth_26 : decode cX9_growth 26 = .ok (.iconst 1, 1) := by decide +kernel
theorem dX9_growth_27 : decode cX9_growth 27 = .ok (.iadd, 1) := by decide +kernel
theorem dX9_growth_28 : decode cX9_growth 28 = .ok (.iload_n 3, 1) := by decide +kernel
theorem dX9_growth_29 : decode cX9_growth 29 = .ok (.iadd, 1) := by decide +kernel
theorem dX9_growth_30 : decode cX9_growth 30 = .ok (.ireturn, 1) := by decide +kernel
theorem dX9_growth_31 : decode cX9_growth 31 = .ok (.aload_n 0, 1) := by decide +kernel
theorem dX9_growth_32 : decode cX9_growth 32 = .ok (.getfield 45, 3) := by decide +kernel
theorem dX9_growth_35 : decode cX9_growth 35 = .ok (.iconst 1, 1) := by decide +kernel
theorem dX9_growth_36 : decode cX9_growth 36 = .ok (.if_icmp .ne 26, 3) := by decide +kernel
theorem dX9_growth_39 : decode cX9_growth 39 = .ok (.aload_n 0, 1) := by decide +kernel
theorem dX9_growth_40 : decode cX9_growth 40 = .ok (.getfield 48, 3) := by decide +kernel
theorem dX9_growth_43 : decode cX9_growth 43 = .ok (.iload_n 1, 1) := by decide +kernel
theorem dX9_growth_44 : decode cX9_growth 44 = .ok (.invokestatic 41, 3) := by decide +kernel
theorem dX9_growth_47 : decode cX9_growth 47 = .ok (.ifCond .eq 7, 3) := by decide +kernel
theorem dX9_growth_50 : decode cX9_growth 50 = .ok (.iconst 0, 1) := by decide +kernel
theorem dX9_growth_51 : decode cX9_growth 51 = .ok (.goto 8, 3) := by decide +kernel
theorem dX9_growth_54 : decode cX9_growth 54 = .ok (.iload_n 2, 1) := by decide +kernel
theorem dX9_growth_55 : decode cX9_growth 55 = .ok (.iload_n 2, 1) := by decide +kernel
theorem dX9_growth_56 : decode cX9_growth 56 = .ok (.iconst 2, 1) := by decide +kernel
theorem dX9_growth_57 : decode cX9_growth 57 = .ok (.idiv, 1) := by decide +kernel
theorem dX9_growth_58 : decode cX9_growth 58 = .ok (.iadd, 1) := by decide +kernel
theorem dX9_growth_59 : decode cX9_growth 59 = .ok (.iload_n 3, 1) := by decide +kernel
theorem dX9_growth_60 : decode cX9_growth 60 = .ok (.iadd, 1) := by decide +kernel
theorem dX9_growth_61 : decode cX9_growth 61 = .ok (.ireturn, 1) := by decide +kernel
theorem dX9_growth_62 : decode cX9_growth 62 = .ok (.aload_n 0, 1) := by decide +kernel
theorem dX9_growth_63 : decode cX9_growth 63 = .ok (.getfield 48, 3) := by decide +kernel
theorem dX9_growth_66 : decode cX9_growth 66 = .ok (.iload_n 1, 1) := by decide +kernel
theorem dX9_growth_67 : decode cX9_growth 67 = .ok (.invokestatic 41, 3) := by decide +kernel
theorem dX9_growth_70 : decode cX9_growth 70 = .ok (.ifCond .ne 16, 3) := by decide +kernel
theorem dX9_growth_73 : decode cX9_growth 73 = .ok (.aload_n 0, 1) := by decide +kernel
theorem dX9_growth_74 : decode cX9_growth 74 = .ok (.getfield 48, 3) := by decide +kernel
theorem dX9_growth_77 : decode cX9_growth 77 = .ok (.iload_n 1, 1) := by decide +kernel
theorem dX9_growth_78 : decode cX9_growth 78 = .ok (.iconst 1, 1) := by decide +kernel
theorem dX9_growth_79 : decode cX9_growth 79 = .ok (.isub, 1) := by decide +kernel
theorem dX9_growth_80 : decode cX9_growth 80 = .ok (.invokestatic 41, 3) := by decide +kernel
theorem dX9_growth_83 : decode cX9_growth 83 = .ok (.ifCond .eq 7, 3) := by decide +kernel
theorem dX9_growth_86 : decode cX9_growth 86 = .ok (.iconst 1, 1) := by decide +kernel
theorem dX9_growth_87 : decode cX9_growth 87 = .ok (.goto 4, 3) := by decide +kernel
theorem dX9_growth_90 : decode cX9_growth 90 = .ok (.iconst 0, 1) := by decide +kernel
theorem dX9_growth_91 : decode cX9_growth 91 = .ok (.istore 4, 2) := by decide +kernel
theorem dX9_growth_93 : decode cX9_growth 93 = .ok (.iload 4, 2) := by decide +kernel
theorem dX9_growth_95 : decode cX9_growth 95 = .ok (.ifCond .eq 7, 3) := by decide +kernel
theorem dX9_growth_98 : decode cX9_growth 98 = .ok (.iload_n 2, 1) := by decide +kernel
theorem dX9_growth_99 : decode cX9_growth 99 = .ok (.goto 6, 3) := by decide +kernel
theorem dX9_growth_102 : decode cX9_growth 102 = .ok (.iload_n 2, 1) := by decide +kernel
theorem dX9_growth_103 : decode cX9_growth 103 = .ok (.iconst 2, 1) := by decide +kernel
theorem dX9_growth_104 : decode cX9_growth 104 = .ok (.idiv, 1) := by decide +kernel
theorem dX9_growth_105 : decode cX9_growth 105 = .ok (.iload_n 3, 1) := by decide +kernel
theorem dX9_growth_106 : decode cX9_growth 106 = .ok (.iadd, 1) := by decide +kernel
theorem dX9_growth_107 : decode cX9_growth 107 = .ok (.ireturn, 1) := by decide +kernel
theorem dX9_momentAt_0 : decode cX9_momentAt 0 = .ok (.aload_n 0, 1) := by decide +kernel
theorem dX9_momentAt_1 : decode cX9_momentAt 1 = .ok (.getfield 51, 3) := by decide +kernel
theorem dX9_momentAt_4 : decode cX9_momentAt 4 = .ok (.iconst 1, 1) := by decide +kernel
theorem dX9_momentAt_5 : decode cX9_momentAt 5 = .ok (.if_icmp .lt 7, 3) := by decide +kernel
theorem dX9_momentAt_8 : decode cX9_momentAt 8 = .ok (.iload_n 1, 1) := by decide +kernel
theorem dX9_momentAt_9 : decode cX9_momentAt 9 = .ok (.ifCond .ge 10, 3) := by decide +kernel
theorem dX9_momentAt_12 : decode cX9_momentAt 12 = .ok (.aload_n 0, 1) := by decide +kernel
theorem dX9_momentAt_13 : decode cX9_momentAt 13 = .ok (.getfield 54, 3) := by decide +kernel
theorem dX9_momentAt_16 : decode cX9_momentAt 16 = .ok (.goto 9, 3) := by decide +kernel
theorem dX9_momentAt_19 : decode cX9_momentAt 19 = .ok (.iload_n 1, 1) := by decide +kernel
theorem dX9_momentAt_20 : decode cX9_momentAt 20 = .ok (.aload_n 0, 1) := by decide +kernel
theorem dX9_momentAt_21 : decode cX9_momentAt 21 = .ok (.getfield 51, 3) := by decide +kernel
theorem dX9_momentAt_24 : decode cX9_momentAt 24 = .ok (.idiv, 1) := by decide +kernel
theorem dX9_momentAt_25 : decode cX9_momentAt 25 = .ok (.istore_n 2, 1) := by decide +kernel
theorem dX9_momentAt_26 : decode cX9_momentAt 26 = .ok (.iload_n 2, 1) := by decide +kernel
theorem dX9_momentAt_27 : decode cX9_momentAt 27 = .ok (.aload_n 0, 1) := by decide +kernel
theorem dX9_momentAt_28 : decode cX9_momentAt 28 = .ok (.getfield 54, 3) := by decide +kernel
theorem dX9_momentAt_31 : decode cX9_momentAt 31 = .ok (.if_icmp .ge 7, 3) := by decide +kernel
theorem dX9_momentAt_34 : decode cX9_momentAt 34 = .ok (.iload_n 2, 1) := by decide +kernel
theorem dX9_momentAt_35 : decode cX9_momentAt 35 = .ok (.goto 4, 3) := by decide +kernel
theorem dX9_momentAt_38 : decode cX9_momentAt 38 = .ok (.iconst (-1), 1) := by decide +kernel
theorem dX9_momentAt_39 : decode cX9_momentAt 39 = .ok (.ireturn, 1) := by decide +kernel
theorem dX9_isEatenAt_0 : decode cX9_isEatenAt 0 = .ok (.aload_n 0, 1) := by decide +kernel
theorem dX9_isEatenAt_1 : decode cX9_isEatenAt 1 = .ok (.getfield 45, 3) := by decide +kernel
theorem dX9_isEatenAt_4 : decode cX9_isEatenAt 4 = .ok (.iconst 2, 1) := by decide +kernel
theorem dX9_isEatenAt_5 : decode cX9_isEatenAt 5 = .ok (.if_icmp .eq 18, 3) := by decide +kernel
theorem dX9_isEatenAt_8 : decode cX9_isEatenAt 8 = .ok (.aload_n 0, 1) := by decide +kernel
theorem dX9_isEatenAt_9 : decode cX9_isEatenAt 9 = .ok (.getfield 30, 3) := by decide +kernel
theorem dX9_isEatenAt_12 : decode cX9_isEatenAt 12 = .ok (.iload_n 1, 1) := by decide +kernel
theorem dX9_isEatenAt_13 : decode cX9_isEatenAt 13 = .ok (.invokestatic 41, 3) := by decide +kernel
theorem dX9_isEatenAt_16 : decode cX9_isEatenAt 16 = .ok (.ifCond .eq 7, 3) := by decide +kernel
theorem dX9_isEatenAt_19 : decode cX9_isEatenAt 19 = .ok (.iconst 1, 1) := by decide +kernel
theorem dX9_isEatenAt_20 : decode cX9_isEatenAt 20 = .ok (.goto 4, 3) := by decide +kernel
theorem dX9_isEatenAt_23 : decode cX9_isEatenAt 23 = .ok (.iconst 0, 1) := by decide +kernel
theorem dX9_isEatenAt_24 : decode cX9_isEatenAt 24 = .ok (.ireturn, 1) := by decide +kernel
theorem dX9_run_0 : decode cX9_run 0 = .ok (.iconst 0, 1) := by decide +kernel
theorem dX9_run_1 : decode cX9_run 1 = .ok (.istore_n 1, 1) := by decide +kernel
theorem dX9_run_2 : decode cX9_run 2 = .ok (.aload_n 0, 1) := by decide +kernel
theorem dX9_run_3 : decode cX9_run 3 = .ok (.iconst 0, 1) := by decide +kernel
theorem dX9_run_4 : decode cX9_run 4 = .ok (.putfield 57, 3) := by decide +kernel
theorem dX9_run_7 : decode cX9_run 7 = .ok (.aload_n 0, 1) := by decide +kernel
theorem dX9_run_8 : decode cX9_run 8 = .ok (.iconst 0, 1) := by decide +kernel
theorem dX9_run_9 : decode cX9_run 9 = .ok (.putfield 60, 3) := by decide +kernel
theorem dX9_run_12 : decode cX9_run 12 = .ok (.iconst 0, 1) := by decide +kernel
theorem dX9_run_13 : decode cX9_run 13 = .ok (.istore_n 2, 1) := by decide +kernel
theorem dX9_run_14 : decode cX9_run 14 = .ok (.iload_n 2, 1) := by decide +kernel
theorem dX9_run_15 : decode cX9_run 15 = .ok (.bipush 30, 2) := by decide +kernel
theorem dX9_run_17 : decode cX9_run 17 = .ok (.if_icmp .ge 102, 3) := by decide +kernel
theorem dX9_run_20 : decode cX9_run 20 = .ok (.iload_n 2, 1) := by decide +kernel
theorem dX9_run_21 : decode cX9_run 21 = .ok (.aload_n 0, 1) := by decide +kernel
theorem dX9_run_22 : decode cX9_run 22 = .ok (.getfield 64, 3) := by decide +kernel
theorem dX9_run_25 : decode cX9_run 25 = .ok (.if_icmp .lt 10, 3) := by decide +kernel
theorem dX9_run_28 : decode cX9_run 28 = .ok (.aload_n 0, 1) := by decide +kernel
theorem dX9_run_29 : decode cX9_run 29 = .ok (.getfield 60, 3) := by decide +kernel
theorem dX9_run_32 : decode cX9_run 32 = .ok (.ifCond .eq 25, 3) := by decide +kernel
theorem dX9_run_35 : decode cX9_run 35 = .ok (.aload_n 0, 1) := by decide +kernel
theorem dX9_run_36 : decode cX9_run 36 = .ok (.iload_n 2, 1) := by decide +kernel
theorem dX9_run_37 : decode cX9_run 37 = .ok (.iload_n 1, 1) := by decide +kernel
theorem dX9_run_38 : decode cX9_run 38 = .ok (.iconst (-1), 1) := by decide +kernel
theorem dX9_run_39 : decode cX9_run 39 = .ok (.aload_n 0, 1) := by decide +kernel
theorem dX9_run_40 : decode cX9_run 40 = .ok (.getfield 60, 3) := by decide +kernel
theorem dX9_run_43 : decode cX9_run 43 = .ok (.ifCond .eq 7, 3) := by decide +kernel
theorem dX9_run_46 : decode cX9_run 46 = .ok (.iconst 4, 1) := by decide +kernel
theorem dX9_run_47 : decode cX9_run 47 = .ok (.goto 4, 3) := by decide +kernel
theorem dX9_run_50 : decode cX9_run 50 = .ok (.iconst 0, 1) := by decide +kernel
theorem dX9_run_51 : decode cX9_run 51 = .ok (.invokevirtual 67, 3) := by decide +kernel
theorem dX9_run_54 : decode cX9_run 54 = .ok (.goto 59, 3) := by decide +kernel
theorem dX9_run_57 : decode cX9_run 57 = .ok (.iload_n 1, 1) := by decide +kernel
theorem dX9_run_58 : decode cX9_run 58 = .ok (.aload_n 0, 1) := by decide +kernel
theorem dX9_run_59 : decode cX9_run 59 = .ok (.iload_n 2, 1) := by decide +kernel
theorem dX9_run_60 : decode cX9_run 60 = .ok (.aload_n 0, 1) := by decide +kernel
theorem dX9_run_61 : decode cX9_run 61 = .ok (.iload_n 2, 1) := by decide +kernel
theorem dX9_run_62 : decode cX9_run 62 = .ok (.invokevirtual 71, 3) := by decide +kernel
theorem dX9_run_65 : decode cX9_run 65 = .ok (.invokevirtual 75, 3) := by decide +kernel
theorem dX9_run_68 : decode cX9_run 68 = .ok (.iadd, 1) := by decide +kernel
theorem dX9_run_69 : decode cX9_run 69 = .ok (.istore_n 1, 1) := by decide +kernel
theorem dX9_run_70 : decode cX9_run 70 = .ok (.aload_n 0, 1) := by decide +kernel
theorem dX9_run_71 : decode cX9_run 71 = .ok (.iload_n 1, 1) := by decide +kernel
theorem dX9_run_72 : decode cX9_run 72 = .ok (.invokevirtual 79, 3) := by decide +kernel
theorem dX9_run_75 : decode cX9_run 75 = .ok (.istore_n 3, 1) := by decide +kernel
theorem dX9_run_76 : decode cX9_run 76 = .ok (.aload_n 0, 1) := by decide +kernel
theorem dX9_run_77 : decode cX9_run 77 = .ok (.aload_n 0, 1) := by decide +kernel
theorem dX9_run_78 : decode cX9_run 78 = .ok (.iload_n 3, 1) := by decide +kernel
theorem dX9_run_79 : decode cX9_run 79 = .ok (.invokevirtual 82, 3) := by decide +kernel
theorem dX9_run_82 : decode cX9_run 82 = .ok (.putfield 60, 3) := by decide +kernel
theorem dX9_run_85 : decode cX9_run 85 = .ok (.aload_n 0, 1) := by decide +kernel
theorem dX9_run_86 : decode cX9_run 86 = .ok (.iload_n 2, 1) := by decide +kernel
theorem dX9_run_87 : decode cX9_run 87 = .ok (.iload_n 1, 1) := by decide +kernel
theorem dX9_run_88 : decode cX9_run 88 = .ok (.iload_n 3, 1) := by decide +kernel
theorem dX9_run_89 : decode cX9_run 89 = .ok (.iload_n 3, 1) := by decide +kernel
theorem dX9_run_90 : decode cX9_run 90 = .ok (.iconst (-1), 1) := by decide +kernel
theorem dX9_run_91 : decode cX9_run 91 = .ok (.if_icmp .ne 7, 3) := by decide +kernel
theorem dX9_run_94 : decode cX9_run 94 = .ok (.iconst 2, 1) := by decide +kernel
theorem dX9_run_95 : decode cX9_run 95 = .ok (.goto 15, 3) := by decide +kernel
theorem dX9_run_98 : decode cX9_run 98 = .ok (.aload_n 0, 1) := by decide +kernel
theorem dX9_run_99 : decode cX9_run 99 = .ok (.getfield 60, 3) := by decide +kernel
theorem dX9_run_102 : decode cX9_run 102 = .ok (.ifCond .eq 7, 3) := by decide +kernel
theorem dX9_run_105 : decode cX9_run 105 = .ok (.iconst 3, 1) := by decide +kernel
theorem dX9_run_106 : decode cX9_run 106 = .ok (.goto 4, 3) := by decide +kernel
theorem dX9_run_109 : decode cX9_run 109 = .ok (.iconst 1, 1) := by decide +kernel
theorem dX9_run_110 : decode cX9_run 110 = .ok (.invokevirtual 67, 3) := by decide +kernel
theorem dX9_run_113 : decode cX9_run 113 = .ok (.iinc 2 1, 3) := by decide +kernel
theorem dX9_run_116 : decode cX9_run 116 = .ok (.goto (-102), 3) := by decide +kernel
theorem dX9_run_119 : decode cX9_run 119 = .ok (.return_, 1) := by decide +kernel
theorem dX9_note_0 : decode cX9_note 0 = .ok (.iload_n 1, 1) := by decide +kernel
theorem dX9_note_1 : decode cX9_note 1 = .ok (.ifCond .lt 67, 3) := by decide +kernel
theorem dX9_note_4 : decode cX9_note 4 = .ok (.iload_n 1, 1) := by decide +kernel
theorem dX9_note_5 : decode cX9_note 5 = .ok (.bipush 30, 2) := by decide +kernel
theorem dX9_note_7 : decode cX9_note 7 = .ok (.if_icmp .ge 61, 3) := by decide +kernel
theorem dX9_note_10 : decode cX9_note 10 = .ok (.aload_n 0, 1) := by decide +kernel
theorem dX9_note_11 : decode cX9_note 11 = .ok (.getfield 18, 3) := by decide +kernel
theorem dX9_note_14 : decode cX9_note 14 = .ok (.iload_n 1, 1) := by decide +kernel
theorem dX9_note_15 : decode cX9_note 15 = .ok (.iload_n 2, 1) := by decide +kernel
theorem dX9_note_16 : decode cX9_note 16 = .ok (.iastore, 1) := by decide +kernel
theorem dX9_note_17 : decode cX9_note 17 = .ok (.aload_n 0, 1) := by decide +kernel
theorem dX9_note_18 : decode cX9_note 18 = .ok (.getfield 21, 3) := by decide +kernel
theorem dX9_note_21 : decode cX9_note 21 = .ok (.iload_n 1, 1) := by decide +kernel
theorem dX9_note_22 : decode cX9_note 22 = .ok (.iload_n 3, 1) := by decide +kernel
theorem dX9_note_23 : decode cX9_note 23 = .ok (.iastore, 1) := by decide +kernel
theorem dX9_note_24 : decode cX9_note 24 = .ok (.aload_n 0, 1) := by decide +kernel
theorem dX9_note_25 : decode cX9_note 25 = .ok (.getfield 24, 3) := by decide +kernel
theorem dX9_note_28 : decode cX9_note 28 = .ok (.iload_n 1, 1) := by decide +kernel
theorem dX9_note_29 : decode cX9_note 29 = .ok (.aload_n 0, 1) := by decide +kernel
theorem dX9_note_30 : decode cX9_note 30 = .ok (.getfield 9, 3) := by decide +kernel
theorem dX9_note_33 : decode cX9_note 33 = .ok (.iload_n 3, 1) := by decide +kernel
theorem dX9_note_34 : decode cX9_note 34 = .ok (.iconst (-1), 1) := by decide +kernel
theorem dX9_note_35 : decode cX9_note 35 = .ok (.invokestatic 34, 3) := by decide +kernel
theorem dX9_note_38 : decode cX9_note 38 = .ok (.iastore, 1) := by decide +kernel
theorem dX9_note_39 : decode cX9_note 39 = .ok (.aload_n 0, 1) := by decide +kernel
theorem dX9_note_40 : decode cX9_note 40 = .ok (.getfield 27, 3) := by decide +kernel
theorem dX9_note_43 : decode cX9_note 43 = .ok (.iload_n 1, 1) := by decide +kernel
theorem dX9_note_44 : decode cX9_note 44 = .ok (.iload 4, 2) := by decide +kernel
theorem dX9_note_46 : decode cX9_note 46 = .ok (.iastore, 1) := by decide +kernel
theorem dX9_note_47 : decode cX9_note 47 = .ok (.aload_n 0, 1) := by decide +kernel
theorem dX9_note_48 : decode cX9_note 48 = .ok (.dup, 1) := by decide +kernel
theorem dX9_note_49 : decode cX9_note 49 = .ok (.getfield 57, 3) := by decide +kernel
theorem dX9_note_52 : decode cX9_note 52 = .ok (.iload_n 3, 1) := by decide +kernel
theorem dX9_note_53 : decode cX9_note 53 = .ok (.iconst (-1), 1) := by decide +kernel
theorem dX9_note_54 : decode cX9_note 54 = .ok (.if_icmp .ne 7, 3) := by decide +kernel
theorem dX9_note_57 : decode cX9_note 57 = .ok (.iconst 0, 1) := by decide +kernel
theorem dX9_note_58 : decode cX9_note 58 = .ok (.goto 6, 3) := by decide +kernel
theorem dX9_note_61 : decode cX9_note 61 = .ok (.iconst 1, 1) := by decide +kernel
theorem dX9_note_62 : decode cX9_note 62 = .ok (.iload_n 1, 1) := by decide +kernel
theorem dX9_note_63 : decode cX9_note 63 = .ok (.ishl, 1) := by decide +kernel
theorem dX9_note_64 : decode cX9_note 64 = .ok (.ior, 1) := by decide +kernel
theorem dX9_note_65 : decode cX9_note 65 = .ok (.putfield 57, 3) := by decide +kernel
theorem dX9_note_68 : decode cX9_note 68 = .ok (.return_, 1) := by decide +kernel
theorem dX9_soleMoment_0 : decode cX9_soleMoment 0 = .ok (.iconst 0, 1) := by decide +kernel
theorem dX9_soleMoment_1 : decode cX9_soleMoment 1 = .ok (.istore_n 2, 1) := by decide +kernel
theorem dX9_soleMoment_2 : decode cX9_soleMoment 2 = .ok (.aload_n 0, 1) := by decide +kernel
theorem dX9_soleMoment_3 : decode cX9_soleMoment 3 = .ok (.getfield 64, 3) := by decide +kernel
theorem dX9_soleMoment_6 : decode cX9_soleMoment 6 = .ok (.istore_n 3, 1) := by decide +kernel
theorem dX9_soleMoment_7 : decode cX9_soleMoment 7 = .ok (.iload_n 3, 1) := by decide +kernel
theorem dX9_soleMoment_8 : decode cX9_soleMoment 8 = .ok (.iload_n 1, 1) := by decide +kernel
theorem dX9_soleMoment_9 : decode cX9_soleMoment 9 = .ok (.if_icmp .ge 46, 3) := by decide +kernel
theorem dX9_soleMoment_12 : decode cX9_soleMoment 12 = .ok (.iload_n 2, 1) := by decide +kernel
theorem dX9_soleMoment_13 : decode cX9_soleMoment 13 = .ok (.aload_n 0, 1) := by decide +kernel
theorem dX9_soleMoment_14 : decode cX9_soleMoment 14 = .ok (.iload_n 3, 1) := by decide +kernel
theorem dX9_soleMoment_15 : decode cX9_soleMoment 15 = .ok (.aload_n 0, 1) := by decide +kernel
theorem dX9_soleMoment_16 : decode cX9_soleMoment 16 = .ok (.iload_n 3, 1) := by decide +kernel
theorem dX9_soleMoment_17 : decode cX9_soleMoment 17 = .ok (.invokevirtual 71, 3) := by decide +kernel
theorem dX9_soleMoment_20 : decode cX9_soleMoment 20 = .ok (.invokevirtual 75, 3) := by decide +kernel
theorem dX9_soleMoment_23 : decode cX9_soleMoment 23 = .ok (.iadd, 1) := by decide +kernel
theorem dX9_soleMoment_24 : decode cX9_soleMoment 24 = .ok (.istore_n 2, 1) := by decide +kernel
theorem dX9_soleMoment_25 : decode cX9_soleMoment 25 = .ok (.aload_n 0, 1) := by decide +kernel
theorem dX9_soleMoment_26 : decode cX9_soleMoment 26 = .ok (.iload_n 2, 1) := by decide +kernel
theorem dX9_soleMoment_27 : decode cX9_soleMoment 27 = .ok (.invokevirtual 79, 3) := by decide +kernel
theorem dX9_soleMoment_30 : decode cX9_soleMoment 30 = .ok (.istore 4, 2) := by decide +kernel
theorem dX9_soleMoment_32 : decode cX9_soleMoment 32 = .ok (.iload 4, 2) := by decide +kernel
theorem dX9_soleMoment_34 : decode cX9_soleMoment 34 = .ok (.iconst (-1), 1) := by decide +kernel
theorem dX9_soleMoment_35 : decode cX9_soleMoment 35 = .ok (.if_icmp .eq 12, 3) := by decide +kernel
theorem dX9_soleMoment_38 : decode cX9_soleMoment 38 = .ok (.aload_n 0, 1) := by decide +kernel
theorem dX9_soleMoment_39 : decode cX9_soleMoment 39 = .ok (.iload 4, 2) := by decide +kernel
theorem dX9_soleMoment_41 : decode cX9_soleMoment 41 = .ok (.invokevirtual 82, 3) := by decide +kernel
theorem dX9_soleMoment_44 : decode cX9_soleMoment 44 = .ok (.ifCond .eq 5, 3) := by decide +kernel
theorem dX9_soleMoment_47 : decode cX9_soleMoment 47 = .ok (.iconst (-1), 1) := by decide +kernel
theorem dX9_soleMoment_48 : decode cX9_soleMoment 48 = .ok (.ireturn, 1) := by decide +kernel
theorem dX9_soleMoment_49 : decode cX9_soleMoment 49 = .ok (.iinc 3 1, 3) := by decide +kernel
theorem dX9_soleMoment_52 : decode cX9_soleMoment 52 = .ok (.goto (-45), 3) := by decide +kernel
theorem dX9_soleMoment_55 : decode cX9_soleMoment 55 = .ok (.iload_n 1, 1) := by decide +kernel
theorem dX9_soleMoment_56 : decode cX9_soleMoment 56 = .ok (.aload_n 0, 1) := by decide +kernel
theorem dX9_soleMoment_57 : decode cX9_soleMoment 57 = .ok (.getfield 64, 3) := by decide +kernel
theorem dX9_soleMoment_60 : decode cX9_soleMoment 60 = .ok (.if_icmp .ge 7, 3) := by decide +kernel
theorem dX9_soleMoment_63 : decode cX9_soleMoment 63 = .ok (.iconst (-1), 1) := by decide +kernel
theorem dX9_soleMoment_64 : decode cX9_soleMoment 64 = .ok (.goto 19, 3) := by decide +kernel
theorem dX9_soleMoment_67 : decode cX9_soleMoment 67 = .ok (.aload_n 0, 1) := by decide +kernel
theorem dX9_soleMoment_68 : decode cX9_soleMoment 68 = .ok (.iload_n 2, 1) := by decide +kernel
theorem dX9_soleMoment_69 : decode cX9_soleMoment 69 = .ok (.aload_n 0, 1) := by decide +kernel
theorem dX9_soleMoment_70 : decode cX9_soleMoment 70 = .ok (.iload_n 1, 1) := by decide +kernel
theorem dX9_soleMoment_71 : decode cX9_soleMoment 71 = .ok (.aload_n 0, 1) := by decide +kernel
theorem dX9_soleMoment_72 : decode cX9_soleMoment 72 = .ok (.iload_n 1, 1) := by decide +kernel
theorem dX9_soleMoment_73 : decode cX9_soleMoment 73 = .ok (.invokevirtual 71, 3) := by decide +kernel
theorem dX9_soleMoment_76 : decode cX9_soleMoment 76 = .ok (.invokevirtual 75, 3) := by decide +kernel
theorem dX9_soleMoment_79 : decode cX9_soleMoment 79 = .ok (.iadd, 1) := by decide +kernel
theorem dX9_soleMoment_80 : decode cX9_soleMoment 80 = .ok (.invokevirtual 79, 3) := by decide +kernel
theorem dX9_soleMoment_83 : decode cX9_soleMoment 83 = .ok (.ireturn, 1) := by decide +kernel
theorem dX9_heardLong_0 : decode cX9_heardLong 0 = .ok (.iconst 0, 1) := by decide +kernel
theorem dX9_heardLong_1 : decode cX9_heardLong 1 = .ok (.istore_n 1, 1) := by decide +kernel
theorem dX9_heardLong_2 : decode cX9_heardLong 2 = .ok (.iconst 0, 1) := by decide +kernel
theorem dX9_heardLong_3 : decode cX9_heardLong 3 = .ok (.istore_n 2, 1) := by decide +kernel
theorem dX9_heardLong_4 : decode cX9_heardLong 4 = .ok (.aload_n 0, 1) := by decide +kernel
theorem dX9_heardLong_5 : decode cX9_heardLong 5 = .ok (.getfield 64, 3) := by decide +kernel
theorem dX9_heardLong_8 : decode cX9_heardLong 8 = .ok (.istore_n 3, 1) := by decide +kernel
theorem dX9_heardLong_9 : decode cX9_heardLong 9 = .ok (.iload_n 3, 1) := by decide +kernel
theorem dX9_heardLong_10 : decode cX9_heardLong 10 = .ok (.bipush 30, 2) := by decide +kernel
theorem dX9_heardLong_12 : decode cX9_heardLong 12 = .ok (.if_icmp .ge 51, 3) := by decide +kernel
theorem dX9_heardLong_15 : decode cX9_heardLong 15 = .ok (.iload_n 1, 1) := by decide +kernel
theorem dX9_heardLong_16 : decode cX9_heardLong 16 = .ok (.aload_n 0, 1) := by decide +kernel
theorem dX9_heardLong_17 : decode cX9_heardLong 17 = .ok (.iload_n 3, 1) := by decide +kernel
theorem dX9_heardLong_18 : decode cX9_heardLong 18 = .ok (.aload_n 0, 1) := by decide +kernel
theorem dX9_heardLong_19 : decode cX9_heardLong 19 = .ok (.iload_n 3, 1) := by decide +kernel
theorem dX9_heardLong_20 : decode cX9_heardLong 20 = .ok (.invokevirtual 71, 3) := by decide +kernel
theorem dX9_heardLong_23 : decode cX9_heardLong 23 = .ok (.invokevirtual 75, 3) := by decide +kernel
theorem dX9_heardLong_26 : decode cX9_heardLong 26 = .ok (.iadd, 1) := by decide +kernel
theorem dX9_heardLong_27 : decode cX9_heardLong 27 = .ok (.istore_n 1, 1) := by decide +kernel
theorem dX9_heardLong_28 : decode cX9_heardLong 28 = .ok (.aload_n 0, 1) := by decide +kernel
theorem dX9_heardLong_29 : decode cX9_heardLong 29 = .ok (.iload_n 1, 1) := by decide +kernel
theorem dX9_heardLong_30 : decode cX9_heardLong 30 = .ok (.invokevirtual 79, 3) := by decide +kernel
theorem dX9_heardLong_33 : decode cX9_heardLong 33 = .ok (.istore 4, 2) := by decide +kernel
theorem dX9_heardLong_35 : decode cX9_heardLong 35 = .ok (.iload 4, 2) := by decide +kernel
theorem dX9_heardLong_37 : decode cX9_heardLong 37 = .ok (.iconst (-1), 1) := by decide +kernel
theorem dX9_heardLong_38 : decode cX9_heardLong 38 = .ok (.if_icmp .ne 5, 3) := by decide +kernel
theorem dX9_heardLong_41 : decode cX9_heardLong 41 = .ok (.iload_n 2, 1) := by decide +kernel
theorem dX9_heardLong_42 : decode cX9_heardLong 42 = .ok (.ireturn, 1) := by decide +kernel
theorem dX9_heardLong_43 : decode cX9_heardLong 43 = .ok (.iinc 2 1, 3) := by decide +kernel
theorem dX9_heardLong_46 : decode cX9_heardLong 46 = .ok (.aload_n 0, 1) := by decide +kernel
theorem dX9_heardLong_47 : decode cX9_heardLong 47 = .ok (.iload 4, 2) := by decide +kernel
theorem dX9_heardLong_49 : decode cX9_heardLong 49 = .ok (.invokevirtual 82, 3) := by decide +kernel
theorem dX9_heardLong_52 : decode cX9_heardLong 52 = .ok (.ifCond .eq 5, 3) := by decide +kernel
theorem dX9_heardLong_55 : decode cX9_heardLong 55 = .ok (.iload_n 2, 1) := by decide +kernel
theorem dX9_heardLong_56 : decode cX9_heardLong 56 = .ok (.ireturn, 1) := by decide +kernel
theorem dX9_heardLong_57 : decode cX9_heardLong 57 = .ok (.iinc 3 1, 3) := by decide +kernel
theorem dX9_heardLong_60 : decode cX9_heardLong 60 = .ok (.goto (-51), 3) := by decide +kernel
theorem dX9_heardLong_63 : decode cX9_heardLong 63 = .ok (.iload_n 2, 1) := by decide +kernel
theorem dX9_heardLong_64 : decode cX9_heardLong 64 = .ok (.ireturn, 1) := by decide +kernel
theorem dX9_firstScream_0 : decode cX9_firstScream 0 = .ok (.iconst 0, 1) := by decide +kernel
theorem dX9_firstScream_1 : decode cX9_firstScream 1 = .ok (.istore_n 1, 1) := by decide +kernel
theorem dX9_firstScream_2 : decode cX9_firstScream 2 = .ok (.iload_n 1, 1) := by decide +kernel
theorem dX9_firstScream_3 : decode cX9_firstScream 3 = .ok (.bipush 30, 2) := by decide +kernel
theorem dX9_firstScream_5 : decode cX9_firstScream 5 = .ok (.if_icmp .ge 26, 3) := by decide +kernel
theorem dX9_firstScream_8 : decode cX9_firstScream 8 = .ok (.aload_n 0, 1) := by decide +kernel
theorem dX9_firstScream_9 : decode cX9_firstScream 9 = .ok (.getfield 30, 3) := by decide +kernel
theorem dX9_firstScream_12 : decode cX9_firstScream 12 = .ok (.aload_n 0, 1) := by decide +kernel
theorem dX9_firstScream_13 : decode cX9_firstScream 13 = .ok (.iload_n 1, 1) := by decide +kernel
theorem dX9_firstScream_14 : decode cX9_firstScream 14 = .ok (.invokevirtual 86, 3) := by decide +kernel
theorem dX9_firstScream_17 : decode cX9_firstScream 17 = .ok (.invokestatic 41, 3) := by decide +kernel
theorem dX9_firstScream_20 : decode cX9_firstScream 20 = .ok (.ifCond .eq 5, 3) := by decide +kernel
theorem dX9_firstScream_23 : decode cX9_firstScream 23 = .ok (.iload_n 1, 1) := by decide +kernel
theorem dX9_firstScream_24 : decode cX9_firstScream 24 = .ok (.ireturn, 1) := by decide +kernel
theorem dX9_firstScream_25 : decode cX9_firstScream 25 = .ok (.iinc 1 1, 3) := by decide +kernel
theorem dX9_firstScream_28 : decode cX9_firstScream 28 = .ok (.goto (-26), 3) := by decide +kernel
theorem dX9_firstScream_31 : decode cX9_firstScream 31 = .ok (.iconst (-1), 1) := by decide +kernel
theorem dX9_firstScream_32 : decode cX9_firstScream 32 = .ok (.ireturn, 1) := by decide +kernel
theorem dX10_init_0 : decode cX10_init 0 = .ok (.aload_n 0, 1) := by decide +kernel
theorem dX10_init_1 : decode cX10_init 1 = .ok (.invokespecial 3, 3) := by decide +kernel
theorem dX10_init_4 : decode cX10_init 4 = .ok (.aload_n 0, 1) := by decide +kernel
theorem dX10_init_5 : decode cX10_init 5 = .ok (.bipush 8, 2) := by decide +kernel
theorem dX10_init_7 : decode cX10_init 7 = .ok (.newarray .int, 2) := by decide +kernel
theorem dX10_init_9 : decode cX10_init 9 = .ok (.putfield 9, 3) := by decide +kernel
theorem dX10_init_12 : decode cX10_init 12 = .ok (.aload_n 0, 1) := by decide +kernel
theorem dX10_init_13 : decode cX10_init 13 = .ok (.bipush 8, 2) := by decide +kernel
theorem dX10_init_15 : decode cX10_init 15 = .ok (.newarray .int, 2) := by decide +kernel
theorem dX10_init_17 : decode cX10_init 17 = .ok (.putfield 15, 3) := by decide +kernel
theorem dX10_init_20 : decode cX10_init 20 = .ok (.aload_n 0, 1) := by decide +kernel
theorem dX10_init_21 : decode cX10_init 21 = .ok (.bipush 8, 2) := by decide +kernel
theorem dX10_init_23 : decode cX10_init 23 = .ok (.newarray .int, 2) := by decide +kernel
theorem dX10_init_25 : decode cX10_init 25 = .ok (.putfield 18, 3) := by decide +kernel
theorem dX10_init_28 : decode cX10_init 28 = .ok (.aload_n 0, 1) := by decide +kernel
theorem dX10_init_29 : decode cX10_init 29 = .ok (.bipush 40, 2) := by decide +kernel
theorem dX10_init_31 : decode cX10_init 31 = .ok (.newarray .int, 2) := by decide +kernel
theorem dX10_init_33 : decode cX10_init 33 = .ok (.putfield 21, 3) := by decide +kernel
theorem dX10_init_36 : decode cX10_init 36 = .ok (.aload_n 0, 1) := by decide +kernel
theorem dX10_init_37 : decode cX10_init 37 = .ok (.iconst (-1), 1) := by decide +kernel
theorem dX10_init_38 : decode cX10_init 38 = .ok (.putfield 24, 3) := by decide +kernel
theorem dX10_init_41 : decode cX10_init 41 = .ok (.return_, 1) := by decide +kernel
theorem dX10_readFrom_0 : decode cX10_readFrom 0 = .ok (.aload_n 0, 1) := by decide +kernel
theorem dX10_readFrom_1 : decode cX10_readFrom 1 = .ok (.iconst 0, 1) := by decide +kernel
theorem dX10_readFrom_2 : decode cX10_readFrom 2 = .ok (.putfield 28, 3) := by decide +kernel
theorem dX10_readFrom_5 : decode cX10_readFrom 5 = .ok (.aload_n 0, 1) := by decide +kernel
theorem dX10_readFrom_6 : decode cX10_readFrom 6 = .ok (.iconst 0, 1) := by decide +kernel
theorem dX10_readFrom_7 : decode cX10_readFrom 7 = .ok (.putfield 31, 3) := by decide +kernel
theorem dX10_readFrom_10 : decode cX10_readFrom 10 = .ok (.aload_n 0, 1) := by decide +kernel
theorem dX10_readFrom_11 : decode cX10_readFrom 11 = .ok (.iconst (-1), 1) := by decide +kernel
theorem dX10_readFrom_12 : decode cX10_readFrom 12 = .ok (.putfield 24, 3) := by decide +kernel
theorem dX10_readFrom_15 : decode cX10_readFrom 15 = .ok (.iconst 0, 1) := by decide +kernel
theorem dX10_readFrom_16 : decode cX10_readFrom 16 = .ok (.istore_n 2, 1) := by decide +kernel
theorem dX10_readFrom_17 : decode cX10_readFrom 17 = .ok (.iload_n 2, 1) := by decide +kernel
theorem dX10_readFrom_18 : decode cX10_readFrom 18 = .ok (.aload_n 1, 1) := by decide +kernel
theorem dX10_readFrom_19 : decode cX10_readFrom 19 = .ok (.getfield 34, 3) := by decide +kernel
theorem dX10_readFrom_22 : decode cX10_readFrom 22 = .ok (.if_icmp .ge 34, 3) := by decide +kernel
theorem dX10_readFrom_25 : decode cX10_readFrom 25 = .ok (.aload_n 0, 1) := by decide +kernel
theorem dX10_readFrom_26 : decode cX10_readFrom 26 = .ok (.getfield 24, 3) := by decide +kernel
theorem dX10_readFrom_29 : decode cX10_readFrom 29 = .ok (.iconst (-1), 1) := by decide +kernel
theorem dX10_readFrom_30 : decode cX10_readFrom 30 = .ok (.if_icmp .ne 26, 3) := by decide +kernel
theorem dX10_readFrom_33 : decode cX10_readFrom 33 = .ok (.aload_n 0, 1) := by decide +kernel
theorem dX10_readFrom_34 : decode cX10_readFrom 34 = .ok (.aload_n 1, 1) := by decide +kernel
theorem dX10_readFrom_35 : decode cX10_readFrom 35 = .ok (.iload_n 2, 1) := by decide +kernel
theorem dX10_readFrom_36 : decode cX10_readFrom 36 = .ok (.invokevirtual 39, 3) := by decide +kernel
theorem dX10_readFrom_39 : decode cX10_readFrom 39 = .ok (.invokevirtual 43, 3) := by decide +kernel
theorem dX10_readFrom_42 : decode cX10_readFrom 42 = .ok (.ifCond .ne 8, 3) := by decide +kernel
theorem dX10_readFrom_45 : decode cX10_readFrom 45 = .ok (.aload_n 0, 1) := by decide +kernel
theorem dX10_readFrom_46 : decode cX10_readFrom 46 = .ok (.iload_n 2, 1) := by decide +kernel
theorem dX10_readFrom_47 : decode cX10_readFrom 47 = .ok (.putfield 24, 3) := by decide +kernel
theorem dX10_readFrom_50 : decode cX10_readFrom 50 = .ok (.iinc 2 1, 3) := by decide +kernel
theorem dX10_readFrom_53 : decode cX10_readFrom 53 = .ok (.goto (-36), 3) := by decide +kernel
theorem dX10_readFrom_56 : decode cX10_readFrom 56 = .ok (.aload_n 0, 1) := by decide +kernel
theorem dX10_readFrom_57 : decode cX10_readFrom 57 = .ok (.getfield 24, 3) := by decide +kernel
theorem dX10_readFrom_60 : decode cX10_readFrom 60 = .ok (.iconst (-1), 1) := by decide +kernel
theorem dX10_readFrom_61 : decode cX10_readFrom 61 = .ok (.if_icmp .ne 25, 3) := by decide +kernel
theorem dX10_readFrom_64 : decode cX10_readFrom 64 = .ok (.aload_n 1, 1) := by decide +kernel
theorem dX10_readFrom_65 : decode cX10_readFrom 65 = .ok (.getfield 34, 3) := by decide +kernel
theorem dX10_readFrom_68 : decode cX10_readFrom 68 = .ok (.ifCond .le 18, 3) := by decide +kernel
theorem dX10_readFrom_71 : decode cX10_readFrom 71 = .ok (.aload_n 0, 1) := by decide +kernel
theorem dX10_readFrom_72 : decode cX10_readFrom 72 = .ok (.invokevirtual 47, 3) := by decide +kernel
theorem dX10_readFrom_75 : decode cX10_readFrom 75 = .ok (.ifCond .ne 11, 3) := by decide +kernel
theorem dX10_readFrom_78 : decode cX10_readFrom 78 = .ok (.aload_n 0, 1) := by decide +kernel
theorem dX10_readFrom_79 : decode cX10_readFrom 79 = .ok (.aload_n 1, 1) := by decide +kernel
theorem dX10_readFrom_80 : decode cX10_readFrom 80 = .ok (.getfield 34, 3) := by decide +kernel
theorem dX10_readFrom_83 : decode cX10_readFrom 83 = .ok (.putfield 24, 3) := by decide +kernel
theorem dX10_readFrom_86 : decode cX10_readFrom 86 = .ok (.aload_n 0, 1) := by decide +kernel
theorem dX10_readFrom_87 : decode cX10_readFrom 87 = .ok (.getfield 24, 3) := by decide +kernel
theorem dX10_readFrom_90 : decode cX10_readFrom 90 = .ok (.iconst (-1), 1) := by decide +kernel
theorem dX10_readFrom_91 : decode cX10_readFrom 91 = .ok (.if_icmp .eq 8, 3) := by decide +kernel
theorem dX10_readFrom_94 : decode cX10_readFrom 94 = .ok (.aload_n 0, 1) := by decide +kernel
theorem dX10_readFrom_95 : decode cX10_readFrom 95 = .ok (.iconst 0, 1) := by decide +kernel
theorem dX10_readFrom_96 : decode cX10_readFrom 96 = .ok (.putfield 28, 3) := by decide +kernel
theorem dX10_readFrom_99 : decode cX10_readFrom 99 = .ok (.return_, 1) := by decide +kernel
theorem dX10_takes_0 : decode cX10_takes 0 = .ok (.aload_n 0, 1) := by decide +kernel
theorem dX10_takes_1 : decode cX10_takes 1 = .ok (.getfield 31, 3) := by decide +kernel
theorem dX10_takes_4 : decode cX10_takes 4 = .ok (.ifCond .ne 39, 3) := by decide +kernel
theorem dX10_takes_7 : decode cX10_takes 7 = .ok (.aload_n 0, 1) := by decide +kernel
theorem dX10_takes_8 : decode cX10_takes 8 = .ok (.iload_n 1, 1) := by decide +kernel
theorem dX10_takes_9 : decode cX10_takes 9 = .ok (.bipush 104, 2) := by decide +kernel
theorem dX10_takes_11 : decode cX10_takes 11 = .ok (.if_icmp .ne 7, 3) := by decide +kernel
theorem dX10_takes_14 : decode cX10_takes 14 = .ok (.iconst 0, 1) := by decide +kernel
theorem dX10_takes_15 : decode cX10_takes 15 = .ok (.goto 24, 3) := by decide +kernel
theorem dX10_takes_18 : decode cX10_takes 18 = .ok (.iload_n 1, 1) := by decide +kernel
theorem dX10_takes_19 : decode cX10_takes 19 = .ok (.bipush 115, 2) := by decide +kernel
theorem dX10_takes_21 : decode cX10_takes 21 = .ok (.if_icmp .ne 7, 3) := by decide +kernel
theorem dX10_takes_24 : decode cX10_takes 24 = .ok (.iconst 1, 1) := by decide +kernel
theorem dX10_takes_25 : decode cX10_takes 25 = .ok (.goto 14, 3) := by decide +kernel
theorem dX10_takes_28 : decode cX10_takes 28 = .ok (.iload_n 1, 1) := by decide +kernel
theorem dX10_takes_29 : decode cX10_takes 29 = .ok (.bipush 98, 2) := by decide +kernel
theorem dX10_takes_31 : decode cX10_takes 31 = .ok (.if_icmp .ne 7, 3) := by decide +kernel
theorem dX10_takes_34 : decode cX10_takes 34 = .ok (.iconst 2, 1) := by decide +kernel
theorem dX10_takes_35 : decode cX10_takes 35 = .ok (.goto 4, 3) := by decide +kernel
theorem dX10_takes_38 : decode cX10_takes 38 = .ok (.iconst (-1), 1) := by decide +kernel
theorem dX10_takes_39 : decode cX10_takes 39 = .ok (.invokevirtual 51, 3) := by decide +kernel
theorem dX10_takes_42 : decode cX10_takes 42 = .ok (.ireturn, 1) := by decide +kernel
theorem dX10_takes_43 : decode cX10_takes 43 = .ok (.aload_n 0, 1) := by decide +kernel
theorem dX10_takes_44 : decode cX10_takes 44 = .ok (.getfield 31, 3) := by decide +kernel
theorem dX10_takes_47 : decode cX10_takes 47 = .ok (.iconst 3, 1) := by decide +kernel
theorem dX10_takes_48 : decode cX10_takes 48 = .ok (.if_icmp .ge 18, 3) := by decide +kernel
theorem dX10_takes_51 : decode cX10_takes 51 = .ok (.aload_n 0, 1) := by decide +kernel
theorem dX10_takes_52 : decode cX10_takes 52 = .ok (.aload_n 0, 1) := by decide +kernel
theorem dX10_takes_53 : decode cX10_takes 53 = .ok (.getfield 28, 3) := by decide +kernel
theorem dX10_takes_56 : decode cX10_takes 56 = .ok (.iconst 1, 1) := by decide +kernel
theorem dX10_takes_57 : decode cX10_takes 57 = .ok (.isub, 1) := by decide +kernel
theorem dX10_takes_58 : decode cX10_takes 58 = .ok (.iload_n 1, 1) := by decide +kernel
theorem dX10_takes_59 : decode cX10_takes 59 = .ok (.bipush 48, 2) := by decide +kernel
theorem dX10_takes_61 : decode cX10_takes 61 = .ok (.isub, 1) := by decide +kernel
theorem dX10_takes_62 : decode cX10_takes 62 = .ok (.invokevirtual 54, 3) := by decide +kernel
theorem dX10_takes_65 : decode cX10_takes 65 = .ok (.ireturn, 1) := by decide +kernel
theorem dX10_takes_66 : decode cX10_takes 66 = .ok (.iload_n 1, 1) := by decide +kernel
theorem dX10_takes_67 : decode cX10_takes 67 = .ok (.bipush 59, 2) := by decide +kernel
theorem dX10_takes_69 : decode cX10_takes 69 = .ok (.if_icmp .ne 10, 3) := by decide +kernel
theorem dX10_takes_72 : decode cX10_takes 72 = .ok (.aload_n 0, 1) := by decide +kernel
theorem dX10_takes_73 : decode cX10_takes 73 = .ok (.invokevirtual 58, 3) := by decide +kernel
theorem dX10_takes_76 : decode cX10_takes 76 = .ok (.goto 17, 3) := by decide +kernel
theorem dX10_takes_79 : decode cX10_takes 79 = .ok (.aload_n 0, 1) := by decide +kernel
theorem dX10_takes_80 : decode cX10_takes 80 = .ok (.aload_n 0, 1) := by decide +kernel
theorem dX10_takes_81 : decode cX10_takes 81 = .ok (.getfield 28, 3) := by decide +kernel
theorem dX10_takes_84 : decode cX10_takes 84 = .ok (.iconst 1, 1) := by decide +kernel
theorem dX10_takes_85 : decode cX10_takes 85 = .ok (.isub, 1) := by decide +kernel
theorem dX10_takes_86 : decode cX10_takes 86 = .ok (.iload_n 1, 1) := by decide +kernel
theorem dX10_takes_87 : decode cX10_takes 87 = .ok (.bipush 97, 2) := by decide +kernel
theorem dX10_takes_89 : decode cX10_takes 89 = .ok (.isub, 1) := by decide +kernel
theorem dX10_takes_90 : decode cX10_takes 90 = .ok (.invokevirtual 61, 3) := by decide +kernel
theorem dX10_takes_93 : decode cX10_takes 93 = .ok (.ireturn, 1) := by decide +kernel
theorem dX10_takesSort_0 : decode cX10_takesSort 0 = .ok (.iload_n 1, 1) := by decide +kernel
theorem dX10_takesSort_1 : decode cX10_takesSort 1 = .ok (.iconst (-1), 1) := by decide +kernel
theorem dX10_takesSort_2 : decode cX10_takesSort 2 = .ok (.if_icmp .eq 19, 3) := by decide +kernel
theorem dX10_takesSort_5 : decode cX10_takesSort 5 = .ok (.aload_n 0, 1) := by decide +kernel
theorem dX10_takesSort_6 : decode cX10_takesSort 6 = .ok (.getfield 28, 3) := by decide +kernel
theorem dX10_takesSort_9 : decode cX10_takesSort 9 = .ok (.ifCond .lt 12, 3) := by decide +kernel
theorem dX10_takesSort_12 : decode cX10_takesSort 12 = .ok (.aload_n 0, 1) := by decide +kernel
theorem dX10_takesSort_13 : decode cX10_takesSort 13 = .ok (.getfield 28, 3) := by decide +kernel
theorem dX10_takesSort_16 : decode cX10_takesSort 16 = .ok (.bipush 8, 2) := by decide +kernel
theorem dX10_takesSort_18 : decode cX10_takesSort 18 = .ok (.if_icmp .lt 5, 3) := by decide +kernel
theorem dX10_takesSort_21 : decode cX10_takesSort 21 = .ok (.iconst 0, 1) := by decide +kernel
theorem dX10_takesSort_22 : decode cX10_takesSort 22 = .ok (.ireturn, 1) := by decide +kernel
theorem dX10_takesSort_23 : decode cX10_takesSort 23 = .ok (.aload_n 0, 1) := by decide +kernel
theorem dX10_takesSort_24 : decode cX10_takesSort 24 = .ok (.getfield 9, 3) := by decide +kernel
theorem dX10_takesSort_27 : decode cX10_takesSort 27 = .ok (.aload_n 0, 1) := by decide +kernel
theorem dX10_takesSort_28 : decode cX10_takesSort 28 = .ok (.getfield 28, 3) := by decide +kernel
theorem dX10_takesSort_31 : decode cX10_takesSort 31 = .ok (.iload_n 1, 1) := by decide +kernel
theorem dX10_takesSort_32 : decode cX10_takesSort 32 = .ok (.iastore, 1) := by decide +kernel
theorem dX10_takesSort_33 : decode cX10_takesSort 33 = .ok (.aload_n 0, 1) := by decide +kernel
theorem dX10_takesSort_34 : decode cX10_takesSort 34 = .ok (.getfield 15, 3) := by decide +kernel
theorem dX10_takesSort_37 : decode cX10_takesSort 37 = .ok (.aload_n 0, 1) := by decide +kernel
theorem dX10_takesSort_38 : decode cX10_takesSort 38 = .ok (.getfield 28, 3) := by decide +kernel
theorem dX10_takesSort_41 : decode cX10_takesSort 41 = .ok (.iconst 0, 1) := by decide +kernel
theorem dX10_takesSort_42 : decode cX10_takesSort 42 = .ok (.iastore, 1) := by decide +kernel
theorem dX10_takesSort_43 : decode cX10_takesSort 43 = .ok (.aload_n 0, 1) := by decide +kernel
theorem dX10_takesSort_44 : decode cX10_takesSort 44 = .ok (.getfield 18, 3) := by decide +kernel
theorem dX10_takesSort_47 : decode cX10_takesSort 47 = .ok (.aload_n 0, 1) := by decide +kernel
theorem dX10_takesSort_48 : decode cX10_takesSort 48 = .ok (.getfield 28, 3) := by decide +kernel
theorem dX10_takesSort_51 : decode cX10_takesSort 51 = .ok (.iconst 0, 1) := by decide +kernel
theorem dX10_takesSort_52 : decode cX10_takesSort 52 = .ok (.iastore, 1) := by decide +kernel
theorem dX10_takesSort_53 : decode cX10_takesSort 53 = .ok (.aload_n 0, 1) := by decide +kernel
theorem dX10_takesSort_54 : decode cX10_takesSort 54 = .ok (.dup, 1) := by decide +kernel
theorem dX10_takesSort_55 : decode cX10_takesSort 55 = .ok (.getfield 28, 3) := by decide +kernel
theorem dX10_takesSort_58 : decode cX10_takesSort 58 = .ok (.iconst 1, 1) := by decide +kernel
theorem dX10_takesSort_59 : decode cX10_takesSort 59 = .ok (.iadd, 1) := by decide +kernel
theorem dX10_takesSort_60 : decode cX10_takesSort 60 = .ok (.putfield 28, 3) := by decide +kernel
theorem dX10_takesSort_63 : decode cX10_takesSort 63 = .ok (.aload_n 0, 1) := by decide +kernel
theorem dX10_takesSort_64 : decode cX10_takesSort 64 = .ok (.iconst 1, 1) := by decide +kernel
theorem dX10_takesSort_65 : decode cX10_takesSort 65 = .ok (.putfield 31, 3) := by decide +kernel
theorem dX10_takesSort_68 : decode cX10_takesSort 68 = .ok (.iconst 1, 1) := by decide +kernel
theorem dX10_takesSort_69 : decode cX10_takesSort 69 = .ok (.ireturn, 1) := by decide +kernel
theorem dX10_takesFigure_0 : decode cX10_takesFigure 0 = .ok (.iload_n 2, 1) := by decide +kernel
theorem dX10_takesFigure_1 : decode cX10_takesFigure 1 = .ok (.ifCond .lt 34, 3) := by decide +kernel
theorem dX10_takesFigure_4 : decode cX10_takesFigure 4 = .ok (.iload_n 2, 1) := by decide +kernel
theorem dX10_takesFigure_5 : decode cX10_takesFigure 5 = .ok (.aload_n 0, 1) := by decide +kernel
theorem dX10_takesFigure_6 : decode cX10_takesFigure 6 = .ok (.getfield 31, 3) := by decide +kernel
theorem dX10_takesFigure_9 : decode cX10_takesFigure 9 = .ok (.iconst 1, 1) := by decide +kernel
theorem dX10_takesFigure_10 : decode cX10_takesFigure 10 = .ok (.if_icmp .ne 7, 3) := by decide +kernel
theorem dX10_takesFigure_13 : decode cX10_takesFigure 13 = .ok (.iconst 1, 1) := by decide +kernel
theorem dX10_takesFigure_14 : decode cX10_takesFigure 14 = .ok (.goto 5, 3) := by decide +kernel
theorem dX10_takesFigure_17 : decode cX10_takesFigure 17 = .ok (.bipush 9, 2) := by decide +kernel
theorem dX10_takesFigure_19 : decode cX10_takesFigure 19 = .ok (.if_icmp .gt 16, 3) := by decide +kernel
theorem dX10_takesFigure_22 : decode cX10_takesFigure 22 = .ok (.iload_n 1, 1) := by decide +kernel
theorem dX10_takesFigure_23 : decode cX10_takesFigure 23 = .ok (.ifCond .lt 12, 3) := by decide +kernel
theorem dX10_takesFigure_26 : decode cX10_takesFigure 26 = .ok (.iload_n 1, 1) := by decide +kernel
theorem dX10_takesFigure_27 : decode cX10_takesFigure 27 = .ok (.aload_n 0, 1) := by decide +kernel
theorem dX10_takesFigure_28 : decode cX10_takesFigure 28 = .ok (.getfield 15, 3) := by decide +kernel
theorem dX10_takesFigure_31 : decode cX10_takesFigure 31 = .ok (.arraylength, 1) := by decide +kernel
theorem dX10_takesFigure_32 : decode cX10_takesFigure 32 = .ok (.if_icmp .lt 5, 3) := by decide +kernel
theorem dX10_takesFigure_35 : decode cX10_takesFigure 35 = .ok (.iconst 0, 1) := by decide +kernel
theorem dX10_takesFigure_36 : decode cX10_takesFigure 36 = .ok (.ireturn, 1) := by decide +kernel
theorem dX10_takesFigure_37 : decode cX10_takesFigure 37 = .ok (.aload_n 0, 1) := by decide +kernel
theorem dX10_takesFigure_38 : decode cX10_takesFigure 38 = .ok (.getfield 15, 3) := by decide +kernel
theorem dX10_takesFigure_41 : decode cX10_takesFigure 41 = .ok (.iload_n 1, 1) := by decide +kernel
theorem dX10_takesFigure_42 : decode cX10_takesFigure 42 = .ok (.bipush 10, 2) := by decide +kernel
theorem dX10_takesFigure_44 : decode cX10_takesFigure 44 = .ok (.aload_n 0, 1) := by decide +kernel
theorem dX10_takesFigure_45 : decode cX10_takesFigure 45 = .ok (.getfield 15, 3) := by decide +kernel
theorem dX10_takesFigure_48 : decode cX10_takesFigure 48 = .ok (.iload_n 1, 1) := by decide +kernel
theorem dX10_takesFigure_49 : decode cX10_takesFigure 49 = .ok (.iaload, 1) := by decide +kernel
theorem dX10_takesFigure_50 : decode cX10_takesFigure 50 = .ok (.imul, 1) := by decide +kernel
theorem dX10_takesFigure_51 : decode cX10_takesFigure 51 = .ok (.iload_n 2, 1) := by decide +kernel
theorem dX10_takesFigure_52 : decode cX10_takesFigure 52 = .ok (.iadd, 1) := by decide +kernel
theorem dX10_takesFigure_53 : decode cX10_takesFigure 53 = .ok (.iastore, 1) := by decide +kernel
theorem dX10_takesFigure_54 : decode cX10_takesFigure 54 = .ok (.aload_n 0, 1) := by decide +kernel
theorem dX10_takesFigure_55 : decode cX10_takesFigure 55 = .ok (.dup, 1) := by decide +kernel
theorem dX10_takesFigure_56 : decode cX10_takesFigure 56 = .ok (.getfield 31, 3) := by decide +kernel
theorem dX10_takesFigure_59 : decode cX10_takesFigure 59 = .ok (.iconst 1, 1) := by decide +kernel
theorem dX10_takesFigure_60 : decode cX10_takesFigure 60 = .ok (.iadd, 1) := by decide +kernel
theorem dX10_takesFigure_61 : decode cX10_takesFigure 61 = .ok (.putfield 31, 3) := by decide +kernel
theorem dX10_takesFigure_64 : decode cX10_takesFigure 64 = .ok (.iconst 1, 1) := by decide +kernel
theorem dX10_takesFigure_65 : decode cX10_takesFigure 65 = .ok (.ireturn, 1) := by decide +kernel
theorem dX10_takesLetter_0 : decode cX10_takesLetter 0 = .ok (.aload_n 0, 1) := by decide +kernel
theorem dX10_takesLetter_1 : decode cX10_takesLetter 1 = .ok (.getfield 31, 3) := by decide +kernel
theorem dX10_takesLetter_4 : decode cX10_takesLetter 4 = .ok (.iconst 3, 1) := by decide +kernel
theorem dX10_takesLetter_5 : decode cX10_takesLetter 5 = .ok (.isub, 1) := by decide +kernel
theorem dX10_takesLetter_6 : decode cX10_takesLetter 6 = .ok (.istore_n 3, 1) := by decide +kernel
theorem dX10_takesLetter_7 : decode cX10_takesLetter 7 = .ok (.iload_n 1, 1) := by decide +kernel
theorem dX10_takesLetter_8 : decode cX10_takesLetter 8 = .ok (.iconst 5, 1) := by decide +kernel
theorem dX10_takesLetter_9 : decode cX10_takesLetter 9 = .ok (.imul, 1) := by decide +kernel
theorem dX10_takesLetter_10 : decode cX10_takesLetter 10 = .ok (.iload_n 3, 1) := by decide +kernel
theorem dX10_takesLetter_11 : decode cX10_takesLetter 11 = .ok (.iadd, 1) := by decide +kernel
theorem dX10_takesLetter_12 : decode cX10_takesLetter 12 = .ok (.istore 4, 2) := by decide +kernel
theorem dX10_takesLetter_14 : decode cX10_takesLetter 14 = .ok (.iload_n 2, 1) := by decide +kernel
theorem dX10_takesLetter_15 : decode cX10_takesLetter 15 = .ok (.ifCond .lt 18, 3) := by decide +kernel
theorem dX10_takesLetter_18 : decode cX10_takesLetter 18 = .ok (.iload_n 2, 1) := by decide +kernel
theorem dX10_takesLetter_19 : decode cX10_takesLetter 19 = .ok (.bipush 8, 2) := by decide +kernel
theorem dX10_takesLetter_21 : decode cX10_takesLetter 21 = .ok (.if_icmp .ge 12, 3) := by decide +kernel
theorem dX10_takesLetter_24 : decode cX10_takesLetter 24 = .ok (.iload_n 3, 1) := by decide +kernel
theorem dX10_takesLetter_25 : decode cX10_takesLetter 25 = .ok (.ifCond .lt 8, 3) := by decide +kernel
theorem dX10_takesLetter_28 : decode cX10_takesLetter 28 = .ok (.iload_n 3, 1) := by decide +kernel
theorem dX10_takesLetter_29 : decode cX10_takesLetter 29 = .ok (.iconst 5, 1) := by decide +kernel
theorem dX10_takesLetter_30 : decode cX10_takesLetter 30 = .ok (.if_icmp .lt 5, 3) := by decide +kernel
theorem dX10_takesLetter_33 : decode cX10_takesLetter 33 = .ok (.iconst 0, 1) := by decide +kernel
theorem dX10_takesLetter_34 : decode cX10_takesLetter 34 = .ok (.ireturn, 1) := by decide +kernel
theorem dX10_takesLetter_35 : decode cX10_takesLetter 35 = .ok (.iload_n 1, 1) := by decide +kernel
theorem dX10_takesLetter_36 : decode cX10_takesLetter 36 = .ok (.ifCond .lt 22, 3) := by decide +kernel
theorem dX10_takesLetter_39 : decode cX10_takesLetter 39 = .ok (.iload_n 1, 1) := by decide +kernel
theorem dX10_takesLetter_40 : decode cX10_takesLetter 40 = .ok (.aload_n 0, 1) := by decide +kernel
theorem dX10_takesLetter_41 : decode cX10_takesLetter 41 = .ok (.getfield 18, 3) := by decide +kernel
theorem dX10_takesLetter_44 : decode cX10_takesLetter 44 = .ok (.arraylength, 1) := by decide +kernel
theorem dX10_takesLetter_45 : decode cX10_takesLetter 45 = .ok (.if_icmp .ge 13, 3) := by decide +kernel
theorem dX10_takesLetter_48 : decode cX10_takesLetter 48 = .ok (.iload 4, 2) := by decide +kernel
theorem dX10_takesLetter_50 : decode cX10_takesLetter 50 = .ok (.aload_n 0, 1) := by decide +kernel
theorem dX10_takesLetter_51 : decode cX10_takesLetter 51 = .ok (.getfield 21, 3) := by decide +kernel
theorem dX10_takesLetter_54 : decode cX10_takesLetter 54 = .ok (.arraylength, 1) := by decide +kernel
theorem dX10_takesLetter_55 : decode cX10_takesLetter 55 = .ok (.if_icmp .lt 5, 3) := by decide +kernel
theorem dX10_takesLetter_58 : decode cX10_takesLetter 58 = .ok (.iconst 0, 1) := by decide +kernel
theorem dX10_takesLetter_59 : decode cX10_takesLetter 59 = .ok (.ireturn, 1) := by decide +kernel
theorem dX10_takesLetter_60 : decode cX10_takesLetter 60 = .ok (.aload_n 0, 1) := by decide +kernel
theorem dX10_takesLetter_61 : decode cX10_takesLetter 61 = .ok (.getfield 21, 3) := by decide +kernel
theorem dX10_takesLetter_64 : decode cX10_takesLetter 64 = .ok (.iload 4, 2) := by decide +kernel
theorem dX10_takesLetter_66 : decode cX10_takesLetter 66 = .ok (.iload_n 2, 1) := by decide +kernel
theorem dX10_takesLetter_67 : decode cX10_takesLetter 67 = .ok (.iastore, 1) := by decide +kernel
theorem dX10_takesLetter_68 : decode cX10_takesLetter 68 = .ok (.aload_n 0, 1) := by decide +kernel
theorem dX10_takesLetter_69 : decode cX10_takesLetter 69 = .ok (.getfield 18, 3) := by decide +kernel
theorem dX10_takesLetter_72 : decode cX10_takesLetter 72 = .ok (.iload_n 1, 1) := by decide +kernel
theorem dX10_takesLetter_73 : decode cX10_takesLetter 73 = .ok (.iload_n 3, 1) := by decide +kernel
theorem dX10_takesLetter_74 : decode cX10_takesLetter 74 = .ok (.iconst 1, 1) := by decide +kernel
theorem dX10_takesLetter_75 : decode cX10_takesLetter 75 = .ok (.iadd, 1) := by decide +kernel
theorem dX10_takesLetter_76 : decode cX10_takesLetter 76 = .ok (.iastore, 1) := by decide +kernel
theorem dX10_takesLetter_77 : decode cX10_takesLetter 77 = .ok (.aload_n 0, 1) := by decide +kernel
theorem dX10_takesLetter_78 : decode cX10_takesLetter 78 = .ok (.dup, 1) := by decide +kernel
theorem dX10_takesLetter_79 : decode cX10_takesLetter 79 = .ok (.getfield 31, 3) := by decide +kernel
theorem dX10_takesLetter_82 : decode cX10_takesLetter 82 = .ok (.iconst 1, 1) := by decide +kernel
theorem dX10_takesLetter_83 : decode cX10_takesLetter 83 = .ok (.iadd, 1) := by decide +kernel
theorem dX10_takesLetter_84 : decode cX10_takesLetter 84 = .ok (.putfield 31, 3) := by decide +kernel
theorem dX10_takesLetter_87 : decode cX10_takesLetter 87 = .ok (.iconst 1, 1) := by decide +kernel
theorem dX10_takesLetter_88 : decode cX10_takesLetter 88 = .ok (.ireturn, 1) := by decide +kernel
theorem dX10_takesNext_0 : decode cX10_takesNext 0 = .ok (.aload_n 0, 1) := by decide +kernel
theorem dX10_takesNext_1 : decode cX10_takesNext 1 = .ok (.invokevirtual 47, 3) := by decide +kernel
theorem dX10_takesNext_4 : decode cX10_takesNext 4 = .ok (.istore_n 1, 1) := by decide +kernel
theorem dX10_takesNext_5 : decode cX10_takesNext 5 = .ok (.iload_n 1, 1) := by decide +kernel
theorem dX10_takesNext_6 : decode cX10_takesNext 6 = .ok (.ifCond .eq 8, 3) := by decide +kernel
theorem dX10_takesNext_9 : decode cX10_takesNext 9 = .ok (.aload_n 0, 1) := by decide +kernel
theorem dX10_takesNext_10 : decode cX10_takesNext 10 = .ok (.iconst 0, 1) := by decide +kernel
theorem dX10_takesNext_11 : decode cX10_takesNext 11 = .ok (.putfield 31, 3) := by decide +kernel
theorem dX10_takesNext_14 : decode cX10_takesNext 14 = .ok (.iload_n 1, 1) := by decide +kernel
theorem dX10_takesNext_15 : decode cX10_takesNext 15 = .ok (.ireturn, 1) := by decide +kernel
theorem dX10_mayEnd_0 : decode cX10_mayEnd 0 = .ok (.aload_n 0, 1) := by decide +kernel
theorem dX10_mayEnd_1 : decode cX10_mayEnd 1 = .ok (.getfield 31, 3) := by decide +kernel
theorem dX10_mayEnd_4 : decode cX10_mayEnd 4 = .ok (.iconst 3, 1) := by decide +kernel
theorem dX10_mayEnd_5 : decode cX10_mayEnd 5 = .ok (.if_icmp .le 7, 3) := by decide +kernel
theorem dX10_mayEnd_8 : decode cX10_mayEnd 8 = .ok (.iconst 1, 1) := by decide +kernel
theorem dX10_mayEnd_9 : decode cX10_mayEnd 9 = .ok (.goto 4, 3) := by decide +kernel
theorem dX10_mayEnd_12 : decode cX10_mayEnd 12 = .ok (.iconst 0, 1) := by decide +kernel
theorem dX10_mayEnd_13 : decode cX10_mayEnd 13 = .ok (.ireturn, 1) := by decide +kernel
theorem dX10_sortOf_0 : decode cX10_sortOf 0 = .ok (.aload_n 0, 1) := by decide +kernel
theorem dX10_sortOf_1 : decode cX10_sortOf 1 = .ok (.getfield 9, 3) := by decide +kernel
theorem dX10_sortOf_4 : decode cX10_sortOf 4 = .ok (.iload_n 1, 1) := by decide +kernel
theorem dX10_sortOf_5 : decode cX10_sortOf 5 = .ok (.iconst 0, 1) := by decide +kernel
theorem dX10_sortOf_6 : decode cX10_sortOf 6 = .ok (.invokestatic 64, 3) := by decide +kernel
theorem dX10_sortOf_9 : decode cX10_sortOf 9 = .ok (.ireturn, 1) := by decide +kernel
theorem dX10_nightOf_0 : decode cX10_nightOf 0 = .ok (.aload_n 0, 1) := by decide +kernel
theorem dX10_nightOf_1 : decode cX10_nightOf 1 = .ok (.getfield 15, 3) := by decide +kernel
theorem dX10_nightOf_4 : decode cX10_nightOf 4 = .ok (.iload_n 1, 1) := by decide +kernel
theorem dX10_nightOf_5 : decode cX10_nightOf 5 = .ok (.iconst 0, 1) := by decide +kernel
theorem dX10_nightOf_6 : decode cX10_nightOf 6 = .ok (.invokestatic 64, 3) := by decide +kernel
theorem dX10_nightOf_9 : decode cX10_nightOf 9 = .ok (.ireturn, 1) := by decide +kernel
theorem dX10_sizeOf_0 : decode cX10_sizeOf 0 = .ok (.aload_n 0, 1) := by decide +kernel
theorem dX10_sizeOf_1 : decode cX10_sizeOf 1 = .ok (.getfield 18, 3) := by decide +kernel
theorem dX10_sizeOf_4 : decode cX10_sizeOf 4 = .ok (.iload_n 1, 1) := by decide +kernel
theorem dX10_sizeOf_5 : decode cX10_sizeOf 5 = .ok (.iconst 0, 1) := by decide +kernel
theorem dX10_sizeOf_6 : decode cX10_sizeOf 6 = .ok (.invokestatic 64, 3) := by decide +kernel
theorem dX10_sizeOf_9 : decode cX10_sizeOf 9 = .ok (.ireturn, 1) := by decide +kernel
theorem dX10_letterOf_0 : decode cX10_letterOf 0 = .ok (.iload_n 2, 1) := by decide +kernel
theorem dX10_letterOf_1 : decode cX10_letterOf 1 = .ok (.ifCond .lt 20, 3) := by decide +kernel
theorem dX10_letterOf_4 : decode cX10_letterOf 4 = .ok (.iload_n 2, 1) := by decide +kernel
theorem dX10_letterOf_5 : decode cX10_letterOf 5 = .ok (.aload_n 0, 1) := by decide +kernel
theorem dX10_letterOf_6 : decode cX10_letterOf 6 = .ok (.getfield 18, 3) := by decide +kernel
theorem dX10_letterOf_9 : decode cX10_letterOf 9 = .ok (.iload_n 1, 1) := by decide +kernel
theorem dX10_letterOf_10 : decode cX10_letterOf 10 = .ok (.iconst 0, 1) := by decide +kernel
theorem dX10_letterOf_11 : decode cX10_letterOf 11 = .ok (.invokestatic 64, 3) := by decide +kernel
theorem dX10_letterOf_14 : decode cX10_letterOf 14 = .ok (.if_icmp .ge 7, 3) := by decide +kernel
theorem dX10_letterOf_17 : decode cX10_letterOf 17 = .ok (.iconst 1, 1) := by decide +kernel
theorem dX10_letterOf_18 : decode cX10_letterOf 18 = .ok (.goto 4, 3) := by decide +kernel
theorem dX10_letterOf_21 : decode cX10_letterOf 21 = .ok (.iconst 0, 1) := by decide +kernel
theorem dX10_letterOf_22 : decode cX10_letterOf 22 = .ok (.istore_n 3, 1) := by decide +kernel
theorem dX10_letterOf_23 : decode cX10_letterOf 23 = .ok (.iload_n 3, 1) := by decide +kernel
theorem dX10_letterOf_24 : decode cX10_letterOf 24 = .ok (.ifCond .eq 19, 3) := by decide +kernel
theorem dX10_letterOf_27 : decode cX10_letterOf 27 = .ok (.aload_n 0, 1) := by decide +kernel
theorem dX10_letterOf_28 : decode cX10_letterOf 28 = .ok (.getfield 21, 3) := by decide +kernel
theorem dX10_letterOf_31 : decode cX10_letterOf 31 = .ok (.iload_n 1, 1) := by decide +kernel
theorem dX10_letterOf_32 : decode cX10_letterOf 32 = .ok (.iconst 5, 1) := by decide +kernel
theorem dX10_letterOf_33 : decode cX10_letterOf 33 = .ok (.imul, 1) := by decide +kernel
theorem dX10_letterOf_34 : decode cX10_letterOf 34 = .ok (.iload_n 2, 1) := by decide +kernel
theorem dX10_letterOf_35 : decode cX10_letterOf 35 = .ok (.iadd, 1) := by decide +kernel
theorem dX10_letterOf_36 : decode cX10_letterOf 36 = .ok (.iconst (-1), 1) := by decide +kernel
theorem dX10_letterOf_37 : decode cX10_letterOf 37 = .ok (.invokestatic 64, 3) := by decide +kernel
theorem dX10_letterOf_40 : decode cX10_letterOf 40 = .ok (.goto 4, 3) := by decide +kernel
theorem dX10_letterOf_43 : decode cX10_letterOf 43 = .ok (.iconst (-1), 1) := by decide +kernel
theorem dX10_letterOf_44 : decode cX10_letterOf 44 = .ok (.ireturn, 1) := by decide +kernel
end
section
theorem dX11_init_0 : decode cX11_init 0 = .ok (.aload_n 0, 1) := by decide +kernel
theorem dX11_init_1 : decode cX11_init 1 = .ok (.invokespecial 3, 3) := by decide +kernel
theorem dX11_init_4 : decode cX11_init 4 = .ok (.aload_n 0, 1) := by decide +kernel
theorem dX11_init_5 : decode cX11_init 5 = .ok (.new 9, 3) := by decide +kernel
theorem dX11_init_8 : decode cX11_init 8 = .ok (.dup, 1) := by decide +kernel
theorem dX11_init_9 : decode cX11_init 9 = .ok (.invokespecial 11, 3) := by decide +kernel
theorem dX11_init_12 : decode cX11_init 12 = .ok (.putfield 12, 3) := by decide +kernel
theorem dX11_init_15 : decode cX11_init 15 = .ok (.aload_n 0, 1) := by decide +kernel
theorem dX11_init_16 : decode cX11_init 16 = .ok (.new 16, 3) := by decide +kernel
theorem dX11_init_19 : decode cX11_init 19 = .ok (.dup, 1) := by decide +kernel
theorem dX11_init_20 : decode cX11_init 20 = .ok (.aload_n 0, 1) := by decide +kernel
theorem dX11_init_21 : decode cX11_init 21 = .ok (.getfield 12, 3) := by decide +kernel
theorem dX11_init_24 : decode cX11_init 24 = .ok (.invokespecial 18, 3) := by decide +kernel
theorem dX11_init_27 : decode cX11_init 27 = .ok (.putfield 21, 3) := by decide +kernel
theorem dX11_init_30 : decode cX11_init 30 = .ok (.aload_n 0, 1) := by decide +kernel
theorem dX11_init_31 : decode cX11_init 31 = .ok (.new 25, 3) := by decide +kernel
theorem dX11_init_34 : decode cX11_init 34 = .ok (.dup, 1) := by decide +kernel
theorem dX11_init_35 : decode cX11_init 35 = .ok (.aload_n 0, 1) := by decide +kernel
theorem dX11_init_36 : decode cX11_init 36 = .ok (.getfield 12, 3) := by decide +kernel
theorem dX11_init_39 : decode cX11_init 39 = .ok (.invokespecial 27, 3) := by decide +kernel
theorem dX11_init_42 : decode cX11_init 42 = .ok (.putfield 28, 3) := by decide +kernel
theorem dX11_init_45 : decode cX11_init 45 = .ok (.aload_n 0, 1) := by decide +kernel
theorem dX11_init_46 : decode cX11_init 46 = .ok (.new 32, 3) := by decide +kernel
theorem dX11_init_49 : decode cX11_init 49 = .ok (.dup, 1) := by decide +kernel
theorem dX11_init_50 : decode cX11_init 50 = .ok (.aload_n 0, 1) := by decide +kernel
theorem dX11_init_51 : decode cX11_init 51 = .ok (.getfield 12, 3) := by decide +kernel
theorem dX11_init_54 : decode cX11_init 54 = .ok (.invokespecial 34, 3) := by decide +kernel
theorem dX11_init_57 : decode cX11_init 57 = .ok (.putfield 35, 3) := by decide +kernel
theorem dX11_init_60 : decode cX11_init 60 = .ok (.aload_n 0, 1) := by decide +kernel
theorem dX11_init_61 : decode cX11_init 61 = .ok (.new 39, 3) := by decide +kernel
theorem dX11_init_64 : decode cX11_init 64 = .ok (.dup, 1) := by decide +kernel
theorem dX11_init_65 : decode cX11_init 65 = .ok (.aload_n 0, 1) := by decide +kernel
theorem dX11_init_66 : decode cX11_init 66 = .ok (.getfield 12, 3) := by decide +kernel
theorem dX11_init_69 : decode cX11_init 69 = .ok (.invokespecial 41, 3) := by decide +kernel
theorem dX11_init_72 : decode cX11_init 72 = .ok (.putfield 42, 3) := by decide +kernel
theorem dX11_init_75 : decode cX11_init 75 = .ok (.aload_n 0, 1) := by decide +kernel
theorem dX11_init_76 : decode cX11_init 76 = .ok (.iconst 4, 1) := by decide +kernel
theorem dX11_init_77 : decode cX11_init 77 = .ok (.anewarray 46, 3) := by decide +kernel
theorem dX11_init_80 : decode cX11_init 80 = .ok (.putfield 48, 3) := by decide +kernel
theorem dX11_init_83 : decode cX11_init 83 = .ok (.iconst 0, 1) := by decide +kernel
theorem dX11_init_84 : decode cX11_init 84 = .ok (.istore_n 1, 1) := by decide +kernel
theorem dX11_init_85 : decode cX11_init 85 = .ok (.iload_n 1, 1) := by decide +kernel
theorem dX11_init_86 : decode cX11_init 86 = .ok (.aload_n 0, 1) := by decide +kernel
theorem dX11_init_87 : decode cX11_init 87 = .ok (.getfield 48, 3) := by decide +kernel
theorem dX11_init_90 : decode cX11_init 90 = .ok (.arraylength, 1) := by decide +kernel
theorem dX11_init_91 : decode cX11_init 91 = .ok (.if_icmp .ge 22, 3) := by decide +kernel
theorem dX11_init_94 : decode cX11_init 94 = .ok (.aload_n 0, 1) := by decide +kernel
theorem dX11_init_95 : decode cX11_init 95 = .ok (.getfield 48, 3) := by decide +kernel
theorem dX11_init_98 : decode cX11_init 98 = .ok (.iload_n 1, 1) := by decide +kernel
theorem dX11_init_99 : decode cX11_init 99 = .ok (.new 46, 3) := by decide +kernel
theorem dX11_init_102 : decode cX11_init 102 = .ok (.dup, 1) := by decide +kernel
theorem dX11_init_103 : decode cX11_init 103 = .ok (.invokespecial 52, 3) := by decide +kernel
theorem dX11_init_106 : decode cX11_init 106 = .ok (.aastore, 1) := by decide +kernel
theorem dX11_init_107 : decode cX11_init 107 = .ok (.iinc 1 1, 3) := by decide +kernel
theorem dX11_init_110 : decode cX11_init 110 = .ok (.goto (-25), 3) := by decide +kernel
theorem dX11_init_113 : decode cX11_init 113 = .ok (.return_, 1) := by decide +kernel
theorem dX11_type_0 : decode cX11_type 0 = .ok (.iload_n 1, 1) := by decide +kernel
theorem dX11_type_1 : decode cX11_type 1 = .ok (.invokestatic 53, 3) := by decide +kernel
theorem dX11_type_4 : decode cX11_type 4 = .ok (.ifCond .eq 14, 3) := by decide +kernel
theorem dX11_type_7 : decode cX11_type 7 = .ok (.iload_n 2, 1) := by decide +kernel
theorem dX11_type_8 : decode cX11_type 8 = .ok (.ifCond .lt 10, 3) := by decide +kernel
theorem dX11_type_11 : decode cX11_type 11 = .ok (.iload_n 2, 1) := by decide +kernel
theorem dX11_type_12 : decode cX11_type 12 = .ok (.sipush 255, 3) := by decide +kernel
theorem dX11_type_15 : decode cX11_type 15 = .ok (.if_icmp .le 6, 3) := by decide +kernel
theorem dX11_type_18 : decode cX11_type 18 = .ok (.bipush (-2), 2) := by decide +kernel
theorem dX11_type_20 : decode cX11_type 20 = .ok (.ireturn, 1) := by decide +kernel
theorem dX11_type_21 : decode cX11_type 21 = .ok (.aload_n 0, 1) := by decide +kernel
theorem dX11_type_22 : decode cX11_type 22 = .ok (.getfield 12, 3) := by decide +kernel
theorem dX11_type_25 : decode cX11_type 25 = .ok (.iload_n 1, 1) := by decide +kernel
theorem dX11_type_26 : decode cX11_type 26 = .ok (.invokevirtual 57, 3) := by decide +kernel
theorem dX11_type_29 : decode cX11_type 29 = .ok (.astore_n 3, 1) := by decide +kernel
theorem dX11_type_30 : decode cX11_type 30 = .ok (.aload_n 3, 1) := by decide +kernel
theorem dX11_type_31 : decode cX11_type 31 = .ok (.invokevirtual 61, 3) := by decide +kernel
theorem dX11_type_34 : decode cX11_type 34 = .ok (.ifCond .eq 6, 3) := by decide +kernel
theorem dX11_type_37 : decode cX11_type 37 = .ok (.bipush (-4), 2) := by decide +kernel
theorem dX11_type_39 : decode cX11_type 39 = .ok (.ireturn, 1) := by decide +kernel
theorem dX11_type_40 : decode cX11_type 40 = .ok (.aload_n 3, 1) := by decide +kernel
theorem dX11_type_41 : decode cX11_type 41 = .ok (.iload_n 2, 1) := by decide +kernel
theorem dX11_type_42 : decode cX11_type 42 = .ok (.invokevirtual 67, 3) := by decide +kernel
theorem dX11_type_45 : decode cX11_type 45 = .ok (.aload_n 0, 1) := by decide +kernel
theorem dX11_type_46 : decode cX11_type 46 = .ok (.getfield 12, 3) := by decide +kernel
theorem dX11_type_49 : decode cX11_type 49 = .ok (.iload_n 1, 1) := by decide +kernel
theorem dX11_type_50 : decode cX11_type 50 = .ok (.invokevirtual 71, 3) := by decide +kernel
theorem dX11_type_53 : decode cX11_type 53 = .ok (.aload_n 3, 1) := by decide +kernel
theorem dX11_type_54 : decode cX11_type 54 = .ok (.getfield 74, 3) := by decide +kernel
theorem dX11_type_57 : decode cX11_type 57 = .ok (.ireturn, 1) := by decide +kernel
theorem dX11_wipe_0 : decode cX11_wipe 0 = .ok (.iload_n 1, 1) := by decide +kernel
theorem dX11_wipe_1 : decode cX11_wipe 1 = .ok (.invokestatic 53, 3) := by decide +kernel
theorem dX11_wipe_4 : decode cX11_wipe 4 = .ok (.ifCond .ne 6, 3) := by decide +kernel
theorem dX11_wipe_7 : decode cX11_wipe 7 = .ok (.bipush (-2), 2) := by decide +kernel
theorem dX11_wipe_9 : decode cX11_wipe 9 = .ok (.ireturn, 1) := by decide +kernel
theorem dX11_wipe_10 : decode cX11_wipe 10 = .ok (.aload_n 0, 1) := by decide +kernel
theorem dX11_wipe_11 : decode cX11_wipe 11 = .ok (.getfield 12, 3) := by decide +kernel
theorem dX11_wipe_14 : decode cX11_wipe 14 = .ok (.iload_n 1, 1) := by decide +kernel
theorem dX11_wipe_15 : decode cX11_wipe 15 = .ok (.invokevirtual 57, 3) := by decide +kernel
theorem dX11_wipe_18 : decode cX11_wipe 18 = .ok (.astore_n 2, 1) := by decide +kernel
theorem dX11_wipe_19 : decode cX11_wipe 19 = .ok (.aload_n 2, 1) := by decide +kernel
theorem dX11_wipe_20 : decode cX11_wipe 20 = .ok (.getfield 74, 3) := by decide +kernel
theorem dX11_wipe_23 : decode cX11_wipe 23 = .ok (.istore_n 3, 1) := by decide +kernel
theorem dX11_wipe_24 : decode cX11_wipe 24 = .ok (.aload_n 2, 1) := by decide +kernel
theorem dX11_wipe_25 : decode cX11_wipe 25 = .ok (.iconst 0, 1) := by decide +kernel
theorem dX11_wipe_26 : decode cX11_wipe 26 = .ok (.putfield 74, 3) := by decide +kernel
theorem dX11_wipe_29 : decode cX11_wipe 29 = .ok (.aload_n 0, 1) := by decide +kernel
theorem dX11_wipe_30 : decode cX11_wipe 30 = .ok (.getfield 12, 3) := by decide +kernel
theorem dX11_wipe_33 : decode cX11_wipe 33 = .ok (.iload_n 1, 1) := by decide +kernel
theorem dX11_wipe_34 : decode cX11_wipe 34 = .ok (.invokevirtual 71, 3) := by decide +kernel
theorem dX11_wipe_37 : decode cX11_wipe 37 = .ok (.iload_n 3, 1) := by decide +kernel
theorem dX11_wipe_38 : decode cX11_wipe 38 = .ok (.ireturn, 1) := by decide +kernel
theorem dX11_undo_0 : decode cX11_undo 0 = .ok (.iload_n 1, 1) := by decide +kernel
theorem dX11_undo_1 : decode cX11_undo 1 = .ok (.invokestatic 53, 3) := by decide +kernel
theorem dX11_undo_4 : decode cX11_undo 4 = .ok (.ifCond .ne 6, 3) := by decide +kernel
theorem dX11_undo_7 : decode cX11_undo 7 = .ok (.bipush (-2), 2) := by decide +kernel
theorem dX11_undo_9 : decode cX11_undo 9 = .ok (.ireturn, 1) := by decide +kernel
theorem dX11_undo_10 : decode cX11_undo 10 = .ok (.aload_n 0, 1) := by decide +kernel
theorem dX11_undo_11 : decode cX11_undo 11 = .ok (.getfield 12, 3) := by decide +kernel
theorem dX11_undo_14 : decode cX11_undo 14 = .ok (.iload_n 1, 1) := by decide +kernel
theorem dX11_undo_15 : decode cX11_undo 15 = .ok (.invokevirtual 57, 3) := by decide +kernel
theorem dX11_undo_18 : decode cX11_undo 18 = .ok (.astore_n 2, 1) := by decide +kernel
theorem dX11_undo_19 : decode cX11_undo 19 = .ok (.aload_n 2, 1) := by decide +kernel
theorem dX11_undo_20 : decode cX11_undo 20 = .ok (.getfield 74, 3) := by decide +kernel
theorem dX11_undo_23 : decode cX11_undo 23 = .ok (.ifCond .gt 6, 3) := by decide +kernel
theorem dX11_undo_26 : decode cX11_undo 26 = .ok (.bipush (-3), 2) := by decide +kernel
theorem dX11_undo_28 : decode cX11_undo 28 = .ok (.ireturn, 1) := by decide +kernel
theorem dX11_undo_29 : decode cX11_undo 29 = .ok (.aload_n 2, 1) := by decide +kernel
theorem dX11_undo_30 : decode cX11_undo 30 = .ok (.dup, 1) := by decide +kernel
theorem dX11_undo_31 : decode cX11_undo 31 = .ok (.getfield 74, 3) := by decide +kernel
theorem dX11_undo_34 : decode cX11_undo 34 = .ok (.iconst 1, 1) := by decide +kernel
theorem dX11_undo_35 : decode cX11_undo 35 = .ok (.isub, 1) := by decide +kernel
theorem dX11_undo_36 : decode cX11_undo 36 = .ok (.putfield 74, 3) := by decide +kernel
theorem dX11_undo_39 : decode cX11_undo 39 = .ok (.aload_n 0, 1) := by decide +kernel
theorem dX11_undo_40 : decode cX11_undo 40 = .ok (.getfield 12, 3) := by decide +kernel
theorem dX11_undo_43 : decode cX11_undo 43 = .ok (.iload_n 1, 1) := by decide +kernel
theorem dX11_undo_44 : decode cX11_undo 44 = .ok (.invokevirtual 71, 3) := by decide +kernel
theorem dX11_undo_47 : decode cX11_undo 47 = .ok (.aload_n 2, 1) := by decide +kernel
theorem dX11_undo_48 : decode cX11_undo 48 = .ok (.getfield 74, 3) := by decide +kernel
theorem dX11_undo_51 : decode cX11_undo 51 = .ok (.ireturn, 1) := by decide +kernel
theorem dX11_fault_0 : decode cX11_fault 0 = .ok (.iload_n 1, 1) := by decide +kernel
theorem dX11_fault_1 : decode cX11_fault 1 = .ok (.invokestatic 53, 3) := by decide +kernel
theorem dX11_fault_4 : decode cX11_fault 4 = .ok (.ifCond .ne 6, 3) := by decide +kernel
theorem dX11_fault_7 : decode cX11_fault 7 = .ok (.bipush (-2), 2) := by decide +kernel
theorem dX11_fault_9 : decode cX11_fault 9 = .ok (.ireturn, 1) := by decide +kernel
theorem dX11_fault_10 : decode cX11_fault 10 = .ok (.iload_n 1, 1) := by decide +kernel
theorem dX11_fault_11 : decode cX11_fault 11 = .ok (.ifCond .ne 16, 3) := by decide +kernel
theorem dX11_fault_14 : decode cX11_fault 14 = .ok (.aload_n 0, 1) := by decide +kernel
theorem dX11_fault_15 : decode cX11_fault 15 = .ok (.getfield 12, 3) := by decide +kernel
theorem dX11_fault_18 : decode cX11_fault 18 = .ok (.getfield 78, 3) := by decide +kernel
theorem dX11_fault_21 : decode cX11_fault 21 = .ok (.getfield 82, 3) := by decide +kernel
theorem dX11_fault_24 : decode cX11_fault 24 = .ok (.goto 13, 3) := by decide +kernel
theorem dX11_fault_27 : decode cX11_fault 27 = .ok (.aload_n 0, 1) := by decide +kernel
theorem dX11_fault_28 : decode cX11_fault 28 = .ok (.getfield 12, 3) := by decide +kernel
theorem dX11_fault_31 : decode cX11_fault 31 = .ok (.getfield 87, 3) := by decide +kernel
theorem dX11_fault_34 : decode cX11_fault 34 = .ok (.getfield 91, 3) := by decide +kernel
theorem dX11_fault_37 : decode cX11_fault 37 = .ok (.ireturn, 1) := by decide +kernel
theorem dX11_wheel_0 : decode cX11_wheel 0 = .ok (.aload_n 0, 1) := by decide +kernel
theorem dX11_wheel_1 : decode cX11_wheel 1 = .ok (.getfield 12, 3) := by decide +kernel
theorem dX11_wheel_4 : decode cX11_wheel 4 = .ok (.iload_n 1, 1) := by decide +kernel
theorem dX11_wheel_5 : decode cX11_wheel 5 = .ok (.invokevirtual 94, 3) := by decide +kernel
theorem dX11_wheel_8 : decode cX11_wheel 8 = .ok (.ifCond .eq 13, 3) := by decide +kernel
theorem dX11_wheel_11 : decode cX11_wheel 11 = .ok (.iload_n 2, 1) := by decide +kernel
theorem dX11_wheel_12 : decode cX11_wheel 12 = .ok (.ifCond .lt 9, 3) := by decide +kernel
theorem dX11_wheel_15 : decode cX11_wheel 15 = .ok (.iload_n 2, 1) := by decide +kernel
theorem dX11_wheel_16 : decode cX11_wheel 16 = .ok (.bipush 7, 2) := by decide +kernel
theorem dX11_wheel_18 : decode cX11_wheel 18 = .ok (.if_icmp .le 6, 3) := by decide +kernel
theorem dX11_wheel_21 : decode cX11_wheel 21 = .ok (.bipush (-2), 2) := by decide +kernel
theorem dX11_wheel_23 : decode cX11_wheel 23 = .ok (.ireturn, 1) := by decide +kernel
theorem dX11_wheel_24 : decode cX11_wheel 24 = .ok (.iload_n 2, 1) := by decide +kernel
theorem dX11_wheel_25 : decode cX11_wheel 25 = .ok (.ifCond .ne 15, 3) := by decide +kernel
theorem dX11_wheel_28 : decode cX11_wheel 28 = .ok (.aload_n 0, 1) := by decide +kernel
theorem dX11_wheel_29 : decode cX11_wheel 29 = .ok (.getfield 12, 3) := by decide +kernel
theorem dX11_wheel_32 : decode cX11_wheel 32 = .ok (.getfield 78, 3) := by decide +kernel
theorem dX11_wheel_35 : decode cX11_wheel 35 = .ok (.iload_n 1, 1) := by decide +kernel
theorem dX11_wheel_36 : decode cX11_wheel 36 = .ok (.invokevirtual 97, 3) := by decide +kernel
theorem dX11_wheel_39 : decode cX11_wheel 39 = .ok (.ireturn, 1) := by decide +kernel
theorem dX11_wheel_40 : decode cX11_wheel 40 = .ok (.iload_n 2, 1) := by decide +kernel
theorem dX11_wheel_41 : decode cX11_wheel 41 = .ok (.iconst 1, 1) := by decide +kernel
theorem dX11_wheel_42 : decode cX11_wheel 42 = .ok (.if_icmp .ne 15, 3) := by decide +kernel
theorem dX11_wheel_45 : decode cX11_wheel 45 = .ok (.aload_n 0, 1) := by decide +kernel
theorem dX11_wheel_46 : decode cX11_wheel 46 = .ok (.getfield 12, 3) := by decide +kernel
theorem dX11_wheel_49 : decode cX11_wheel 49 = .ok (.getfield 78, 3) := by decide +kernel
theorem dX11_wheel_52 : decode cX11_wheel 52 = .ok (.iload_n 1, 1) := by decide +kernel
theorem dX11_wheel_53 : decode cX11_wheel 53 = .ok (.invokevirtual 101, 3) := by decide +kernel
theorem dX11_wheel_56 : decode cX11_wheel 56 = .ok (.ireturn, 1) := by decide +kernel
theorem dX11_wheel_57 : decode cX11_wheel 57 = .ok (.iload_n 2, 1) := by decide +kernel
theorem dX11_wheel_58 : decode cX11_wheel 58 = .ok (.iconst 2, 1) := by decide +kernel
theorem dX11_wheel_59 : decode cX11_wheel 59 = .ok (.if_icmp .ne 17, 3) := by decide +kernel
theorem dX11_wheel_62 : decode cX11_wheel 62 = .ok (.aload_n 0, 1) := by decide +kernel
theorem dX11_wheel_63 : decode cX11_wheel 63 = .ok (.getfield 12, 3) := by decide +kernel
theorem dX11_wheel_66 : decode cX11_wheel 66 = .ok (.getfield 78, 3) := by decide +kernel
theorem dX11_wheel_69 : decode cX11_wheel 69 = .ok (.iload_n 1, 1) := by decide +kernel
theorem dX11_wheel_70 : decode cX11_wheel 70 = .ok (.invokevirtual 104, 3) := by decide +kernel
theorem dX11_wheel_73 : decode cX11_wheel 73 = .ok (.goto 17, 3) := by decide +kernel
theorem dX11_wheel_76 : decode cX11_wheel 76 = .ok (.aload_n 0, 1) := by decide +kernel
theorem dX11_wheel_77 : decode cX11_wheel 77 = .ok (.getfield 12, 3) := by decide +kernel
theorem dX11_wheel_80 : decode cX11_wheel 80 = .ok (.getfield 78, 3) := by decide +kernel
theorem dX11_wheel_83 : decode cX11_wheel 83 = .ok (.iload_n 1, 1) := by decide +kernel
theorem dX11_wheel_84 : decode cX11_wheel 84 = .ok (.iload_n 2, 1) := by decide +kernel
theorem dX11_wheel_85 : decode cX11_wheel 85 = .ok (.iconst 3, 1) := by decide +kernel
theorem dX11_wheel_86 : decode cX11_wheel 86 = .ok (.isub, 1) := by decide +kernel
theorem dX11_wheel_87 : decode cX11_wheel 87 = .ok (.invokevirtual 107, 3) := by decide +kernel
theorem dX11_wheel_90 : decode cX11_wheel 90 = .ok (.ireturn, 1) := by decide +kernel
theorem dX11_warm_0 : decode cX11_warm 0 = .ok (.iload_n 1, 1) := by decide +kernel
theorem dX11_warm_1 : decode cX11_warm 1 = .ok (.invokestatic 111, 3) := by decide +kernel
theorem dX11_warm_4 : decode cX11_warm 4 = .ok (.ifCond .eq 17, 3) := by decide +kernel
theorem dX11_warm_7 : decode cX11_warm 7 = .ok (.aload_n 0, 1) := by decide +kernel
theorem dX11_warm_8 : decode cX11_warm 8 = .ok (.getfield 12, 3) := by decide +kernel
theorem dX11_warm_11 : decode cX11_warm 11 = .ok (.getfield 87, 3) := by decide +kernel
theorem dX11_warm_14 : decode cX11_warm 14 = .ok (.iload_n 1, 1) := by decide +kernel
theorem dX11_warm_15 : decode cX11_warm 15 = .ok (.invokevirtual 114, 3) := by decide +kernel
theorem dX11_warm_18 : decode cX11_warm 18 = .ok (.goto 5, 3) := by decide +kernel
theorem dX11_warm_21 : decode cX11_warm 21 = .ok (.bipush (-2), 2) := by decide +kernel
theorem dX11_warm_23 : decode cX11_warm 23 = .ok (.ireturn, 1) := by decide +kernel
theorem dX11_set_0 : decode cX11_set 0 = .ok (.bipush (-2), 2) := by decide +kernel
theorem dX11_set_2 : decode cX11_set 2 = .ok (.istore_n 3, 1) := by decide +kernel
theorem dX11_set_3 : decode cX11_set 3 = .ok (.iload_n 1, 1) := by decide +kernel
theorem dX11_set_4 : decode cX11_set 4 = .ok (.ifCond .ne 33, 3) := by decide +kernel
theorem dX11_set_7 : decode cX11_set 7 = .ok (.iload_n 2, 1) := by decide +kernel
theorem dX11_set_8 : decode cX11_set 8 = .ok (.iconst 1, 1) := by decide +kernel
theorem dX11_set_9 : decode cX11_set 9 = .ok (.if_icmp .lt 28, 3) := by decide +kernel
theorem dX11_set_12 : decode cX11_set 12 = .ok (.iload_n 2, 1) := by decide +kernel
theorem dX11_set_13 : decode cX11_set 13 = .ok (.bipush 20, 2) := by decide +kernel
theorem dX11_set_15 : decode cX11_set 15 = .ok (.if_icmp .gt 22, 3) := by decide +kernel
theorem dX11_set_18 : decode cX11_set 18 = .ok (.aload_n 0, 1) := by decide +kernel
theorem dX11_set_19 : decode cX11_set 19 = .ok (.getfield 12, 3) := by decide +kernel
theorem dX11_set_22 : decode cX11_set 22 = .ok (.getfield 117, 3) := by decide +kernel
theorem dX11_set_25 : decode cX11_set 25 = .ok (.istore_n 3, 1) := by decide +kernel
theorem dX11_set_26 : decode cX11_set 26 = .ok (.aload_n 0, 1) := by decide +kernel
theorem dX11_set_27 : decode cX11_set 27 = .ok (.getfield 12, 3) := by decide +kernel
theorem dX11_set_30 : decode cX11_set 30 = .ok (.iload_n 2, 1) := by decide +kernel
theorem dX11_set_31 : decode cX11_set 31 = .ok (.putfield 117, 3) := by decide +kernel
theorem dX11_set_34 : decode cX11_set 34 = .ok (.goto 34, 3) := by decide +kernel
theorem dX11_set_37 : decode cX11_set 37 = .ok (.iload_n 1, 1) := by decide +kernel
theorem dX11_set_38 : decode cX11_set 38 = .ok (.iconst 1, 1) := by decide +kernel
theorem dX11_set_39 : decode cX11_set 39 = .ok (.if_icmp .ne 29, 3) := by decide +kernel
theorem dX11_set_42 : decode cX11_set 42 = .ok (.iload_n 2, 1) := by decide +kernel
theorem dX11_set_43 : decode cX11_set 43 = .ok (.ifCond .lt 25, 3) := by decide +kernel
theorem dX11_set_46 : decode cX11_set 46 = .ok (.iload_n 2, 1) := by decide +kernel
theorem dX11_set_47 : decode cX11_set 47 = .ok (.bipush 8, 2) := by decide +kernel
theorem dX11_set_49 : decode cX11_set 49 = .ok (.if_icmp .gt 19, 3) := by decide +kernel
theorem dX11_set_52 : decode cX11_set 52 = .ok (.aload_n 0, 1) := by decide +kernel
theorem dX11_set_53 : decode cX11_set 53 = .ok (.getfield 12, 3) := by decide +kernel
theorem dX11_set_56 : decode cX11_set 56 = .ok (.getfield 120, 3) := by decide +kernel
theorem dX11_set_59 : decode cX11_set 59 = .ok (.istore_n 3, 1) := by decide +kernel
theorem dX11_set_60 : decode cX11_set 60 = .ok (.aload_n 0, 1) := by decide +kernel
theorem dX11_set_61 : decode cX11_set 61 = .ok (.getfield 12, 3) := by decide +kernel
theorem dX11_set_64 : decode cX11_set 64 = .ok (.iload_n 2, 1) := by decide +kernel
theorem dX11_set_65 : decode cX11_set 65 = .ok (.putfield 120, 3) := by decide +kernel
theorem dX11_set_68 : decode cX11_set 68 = .ok (.iload_n 3, 1) := by decide +kernel
theorem dX11_set_69 : decode cX11_set 69 = .ok (.ireturn, 1) := by decide +kernel
theorem dX11_turning_0 : decode cX11_turning 0 = .ok (.aload_n 0, 1) := by decide +kernel
theorem dX11_turning_1 : decode cX11_turning 1 = .ok (.getfield 12, 3) := by decide +kernel
theorem dX11_turning_4 : decode cX11_turning 4 = .ok (.getfield 123, 3) := by decide +kernel
theorem dX11_turning_7 : decode cX11_turning 7 = .ok (.iload_n 1, 1) := by decide +kernel
theorem dX11_turning_8 : decode cX11_turning 8 = .ok (.iload_n 2, 1) := by decide +kernel
theorem dX11_turning_9 : decode cX11_turning 9 = .ok (.bipush 8, 2) := by decide +kernel
theorem dX11_turning_11 : decode cX11_turning 11 = .ok (.invokestatic 127, 3) := by decide +kernel
theorem dX11_turning_14 : decode cX11_turning 14 = .ok (.ireturn, 1) := by decide +kernel
theorem dX11_knock_0 : decode cX11_knock 0 = .ok (.aload_n 0, 1) := by decide +kernel
theorem dX11_knock_1 : decode cX11_knock 1 = .ok (.getfield 12, 3) := by decide +kernel
theorem dX11_knock_4 : decode cX11_knock 4 = .ok (.getfield 131, 3) := by decide +kernel
theorem dX11_knock_7 : decode cX11_knock 7 = .ok (.iload_n 1, 1) := by decide +kernel
theorem dX11_knock_8 : decode cX11_knock 8 = .ok (.iload_n 2, 1) := by decide +kernel
theorem dX11_knock_9 : decode cX11_knock 9 = .ok (.bipush 8, 2) := by decide +kernel
theorem dX11_knock_11 : decode cX11_knock 11 = .ok (.invokestatic 127, 3) := by decide +kernel
theorem dX11_knock_14 : decode cX11_knock 14 = .ok (.ireturn, 1) := by decide +kernel
theorem dX11_back_0 : decode cX11_back 0 = .ok (.iload_n 1, 1) := by decide +kernel
theorem dX11_back_1 : decode cX11_back 1 = .ok (.ifCond .lt 8, 3) := by decide +kernel
theorem dX11_back_4 : decode cX11_back 4 = .ok (.iload_n 1, 1) := by decide +kernel
theorem dX11_back_5 : decode cX11_back 5 = .ok (.iconst 1, 1) := by decide +kernel
theorem dX11_back_6 : decode cX11_back 6 = .ok (.if_icmp .le 6, 3) := by decide +kernel
theorem dX11_back_9 : decode cX11_back 9 = .ok (.bipush (-2), 2) := by decide +kernel
theorem dX11_back_11 : decode cX11_back 11 = .ok (.ireturn, 1) := by decide +kernel
theorem dX11_back_12 : decode cX11_back 12 = .ok (.iload_n 1, 1) := by decide +kernel
theorem dX11_back_13 : decode cX11_back 13 = .ok (.ifCond .ne 13, 3) := by decide +kernel
theorem dX11_back_16 : decode cX11_back 16 = .ok (.aload_n 0, 1) := by decide +kernel
theorem dX11_back_17 : decode cX11_back 17 = .ok (.getfield 12, 3) := by decide +kernel
theorem dX11_back_20 : decode cX11_back 20 = .ok (.getfield 123, 3) := by decide +kernel
theorem dX11_back_23 : decode cX11_back 23 = .ok (.goto 10, 3) := by decide +kernel
theorem dX11_back_26 : decode cX11_back 26 = .ok (.aload_n 0, 1) := by decide +kernel
theorem dX11_back_27 : decode cX11_back 27 = .ok (.getfield 12, 3) := by decide +kernel
theorem dX11_back_30 : decode cX11_back 30 = .ok (.getfield 131, 3) := by decide +kernel
theorem dX11_back_33 : decode cX11_back 33 = .ok (.astore_n 2, 1) := by decide +kernel
theorem dX11_back_34 : decode cX11_back 34 = .ok (.aload_n 2, 1) := by decide +kernel
theorem dX11_back_35 : decode cX11_back 35 = .ok (.getfield 134, 3) := by decide +kernel
theorem dX11_back_38 : decode cX11_back 38 = .ok (.ifCond .gt 6, 3) := by decide +kernel
theorem dX11_back_41 : decode cX11_back 41 = .ok (.bipush (-3), 2) := by decide +kernel
theorem dX11_back_43 : decode cX11_back 43 = .ok (.ireturn, 1) := by decide +kernel
theorem dX11_back_44 : decode cX11_back 44 = .ok (.aload_n 2, 1) := by decide +kernel
theorem dX11_back_45 : decode cX11_back 45 = .ok (.dup, 1) := by decide +kernel
theorem dX11_back_46 : decode cX11_back 46 = .ok (.getfield 134, 3) := by decide +kernel
theorem dX11_back_49 : decode cX11_back 49 = .ok (.iconst 1, 1) := by decide +kernel
theorem dX11_back_50 : decode cX11_back 50 = .ok (.isub, 1) := by decide +kernel
theorem dX11_back_51 : decode cX11_back 51 = .ok (.putfield 134, 3) := by decide +kernel
theorem dX11_back_54 : decode cX11_back 54 = .ok (.aload_n 2, 1) := by decide +kernel
theorem dX11_back_55 : decode cX11_back 55 = .ok (.getfield 134, 3) := by decide +kernel
theorem dX11_back_58 : decode cX11_back 58 = .ok (.ireturn, 1) := by decide +kernel
theorem dX11_read_0 : decode cX11_read 0 = .ok (.aload_n 0, 1) := by decide +kernel
theorem dX11_read_1 : decode cX11_read 1 = .ok (.iload_n 1, 1) := by decide +kernel
theorem dX11_read_2 : decode cX11_read 2 = .ok (.invokevirtual 139, 3) := by decide +kernel
theorem dX11_read_5 : decode cX11_read 5 = .ok (.ifCond .ne 6, 3) := by decide +kernel
theorem dX11_read_8 : decode cX11_read 8 = .ok (.bipush (-2), 2) := by decide +kernel
theorem dX11_read_10 : decode cX11_read 10 = .ok (.ireturn, 1) := by decide +kernel
theorem dX11_read_11 : decode cX11_read 11 = .ok (.aload_n 0, 1) := by decide +kernel
theorem dX11_read_12 : decode cX11_read 12 = .ok (.getfield 48, 3) := by decide +kernel
theorem dX11_read_15 : decode cX11_read 15 = .ok (.iload_n 1, 1) := by decide +kernel
theorem dX11_read_16 : decode cX11_read 16 = .ok (.aaload, 1) := by decide +kernel
theorem dX11_read_17 : decode cX11_read 17 = .ok (.astore_n 2, 1) := by decide +kernel
theorem dX11_read_18 : decode cX11_read 18 = .ok (.aload_n 2, 1) := by decide +kernel
theorem dX11_read_19 : decode cX11_read 19 = .ok (.getfield 142, 3) := by decide +kernel
theorem dX11_read_22 : decode cX11_read 22 = .ok (.ifCond .eq 9, 3) := by decide +kernel
theorem dX11_read_25 : decode cX11_read 25 = .ok (.aload_n 0, 1) := by decide +kernel
theorem dX11_read_26 : decode cX11_read 26 = .ok (.iconst 1, 1) := by decide +kernel
theorem dX11_read_27 : decode cX11_read 27 = .ok (.invokevirtual 146, 3) := by decide +kernel
theorem dX11_read_30 : decode cX11_read 30 = .ok (.ireturn, 1) := by decide +kernel
theorem dX11_read_31 : decode cX11_read 31 = .ok (.iconst 0, 1) := by decide +kernel
theorem dX11_read_32 : decode cX11_read 32 = .ok (.istore_n 3, 1) := by decide +kernel
theorem dX11_read_33 : decode cX11_read 33 = .ok (.iconst 0, 1) := by decide +kernel
theorem dX11_read_34 : decode cX11_read 34 = .ok (.istore 4, 2) := by decide +kernel
theorem dX11_read_36 : decode cX11_read 36 = .ok (.iload 4, 2) := by decide +kernel
theorem dX11_read_38 : decode cX11_read 38 = .ok (.iconst 1, 1) := by decide +kernel
theorem dX11_read_39 : decode cX11_read 39 = .ok (.iadd, 1) := by decide +kernel
theorem dX11_read_40 : decode cX11_read 40 = .ok (.aload_n 2, 1) := by decide +kernel
theorem dX11_read_41 : decode cX11_read 41 = .ok (.getfield 149, 3) := by decide +kernel
theorem dX11_read_44 : decode cX11_read 44 = .ok (.if_icmp .ge 43, 3) := by decide +kernel
theorem dX11_read_47 : decode cX11_read 47 = .ok (.aload_n 0, 1) := by decide +kernel
theorem dX11_read_48 : decode cX11_read 48 = .ok (.getfield 12, 3) := by decide +kernel
theorem dX11_read_51 : decode cX11_read 51 = .ok (.getfield 123, 3) := by decide +kernel
theorem dX11_read_54 : decode cX11_read 54 = .ok (.aload_n 2, 1) := by decide +kernel
theorem dX11_read_55 : decode cX11_read 55 = .ok (.iload 4, 2) := by decide +kernel
theorem dX11_read_57 : decode cX11_read 57 = .ok (.invokevirtual 152, 3) := by decide +kernel
theorem dX11_read_60 : decode cX11_read 60 = .ok (.aload_n 2, 1) := by decide +kernel
theorem dX11_read_61 : decode cX11_read 61 = .ok (.iload 4, 2) := by decide +kernel
theorem dX11_read_63 : decode cX11_read 63 = .ok (.iconst 1, 1) := by decide +kernel
theorem dX11_read_64 : decode cX11_read 64 = .ok (.iadd, 1) := by decide +kernel
theorem dX11_read_65 : decode cX11_read 65 = .ok (.invokevirtual 152, 3) := by decide +kernel
theorem dX11_read_68 : decode cX11_read 68 = .ok (.bipush 8, 2) := by decide +kernel
theorem dX11_read_70 : decode cX11_read 70 = .ok (.invokestatic 127, 3) := by decide +kernel
theorem dX11_read_73 : decode cX11_read 73 = .ok (.ifCond .ge 5, 3) := by decide +kernel
theorem dX11_read_76 : decode cX11_read 76 = .ok (.iload_n 3, 1) := by decide +kernel
theorem dX11_read_77 : decode cX11_read 77 = .ok (.ireturn, 1) := by decide +kernel
theorem dX11_read_78 : decode cX11_read 78 = .ok (.iinc 3 1, 3) := by decide +kernel
theorem dX11_read_81 : decode cX11_read 81 = .ok (.iinc 4 2, 3) := by decide +kernel
theorem dX11_read_84 : decode cX11_read 84 = .ok (.goto (-48), 3) := by decide +kernel
theorem dX11_read_87 : decode cX11_read 87 = .ok (.iload_n 3, 1) := by decide +kernel
theorem dX11_read_88 : decode cX11_read 88 = .ok (.ireturn, 1) := by decide +kernel
theorem dX11_at_0 : decode cX11_at 0 = .ok (.iload_n 1, 1) := by decide +kernel
theorem dX11_at_1 : decode cX11_at 1 = .ok (.invokestatic 111, 3) := by decide +kernel
theorem dX11_at_4 : decode cX11_at 4 = .ok (.ifCond .eq 23, 3) := by decide +kernel
theorem dX11_at_7 : decode cX11_at 7 = .ok (.aload_n 0, 1) := by decide +kernel
theorem dX11_at_8 : decode cX11_at 8 = .ok (.getfield 12, 3) := by decide +kernel
theorem dX11_at_11 : decode cX11_at 11 = .ok (.iload_n 2, 1) := by decide +kernel
theorem dX11_at_12 : decode cX11_at 12 = .ok (.invokevirtual 94, 3) := by decide +kernel
theorem dX11_at_15 : decode cX11_at 15 = .ok (.ifCond .eq 12, 3) := by decide +kernel
theorem dX11_at_18 : decode cX11_at 18 = .ok (.iload_n 3, 1) := by decide +kernel
theorem dX11_at_19 : decode cX11_at 19 = .ok (.ifCond .lt 8, 3) := by decide +kernel
theorem dX11_at_22 : decode cX11_at 22 = .ok (.iload_n 3, 1) := by decide +kernel
theorem dX11_at_23 : decode cX11_at 23 = .ok (.iconst 2, 1) := by decide +kernel
theorem dX11_at_24 : decode cX11_at 24 = .ok (.if_icmp .le 6, 3) := by decide +kernel
theorem dX11_at_27 : decode cX11_at 27 = .ok (.bipush (-2), 2) := by decide +kernel
theorem dX11_at_29 : decode cX11_at 29 = .ok (.ireturn, 1) := by decide +kernel
theorem dX11_at_30 : decode cX11_at 30 = .ok (.aload_n 0, 1) := by decide +kernel
theorem dX11_at_31 : decode cX11_at 31 = .ok (.getfield 12, 3) := by decide +kernel
theorem dX11_at_34 : decode cX11_at 34 = .ok (.iload_n 2, 1) := by decide +kernel
theorem dX11_at_35 : decode cX11_at 35 = .ok (.invokevirtual 155, 3) := by decide +kernel
theorem dX11_at_38 : decode cX11_at 38 = .ok (.astore 4, 2) := by decide +kernel
theorem dX11_at_40 : decode cX11_at 40 = .ok (.aload 4, 2) := by decide +kernel
theorem dX11_at_42 : decode cX11_at 42 = .ok (.invokevirtual 159, 3) := by decide +kernel
theorem dX11_at_45 : decode cX11_at 45 = .ok (.iload_n 3, 1) := by decide +kernel
theorem dX11_at_46 : decode cX11_at 46 = .ok (.ifCond .ne 10, 3) := by decide +kernel
theorem dX11_at_49 : decode cX11_at 49 = .ok (.aload 4, 2) := by decide +kernel
theorem dX11_at_51 : decode cX11_at 51 = .ok (.iload_n 1, 1) := by decide +kernel
theorem dX11_at_52 : decode cX11_at 52 = .ok (.invokevirtual 164, 3) := by decide +kernel
theorem dX11_at_55 : decode cX11_at 55 = .ok (.ireturn, 1) := by decide +kernel
theorem dX11_at_56 : decode cX11_at 56 = .ok (.iload_n 3, 1) := by decide +kernel
theorem dX11_at_57 : decode cX11_at 57 = .ok (.iconst 1, 1) := by decide +kernel
theorem dX11_at_58 : decode cX11_at 58 = .ok (.if_icmp .ne 12, 3) := by decide +kernel
theorem dX11_at_61 : decode cX11_at 61 = .ok (.aload 4, 2) := by decide +kernel
theorem dX11_at_63 : decode cX11_at 63 = .ok (.iload_n 1, 1) := by decide +kernel
theorem dX11_at_64 : decode cX11_at 64 = .ok (.invokevirtual 167, 3) := by decide +kernel
theorem dX11_at_67 : decode cX11_at 67 = .ok (.goto 9, 3) := by decide +kernel
theorem dX11_at_70 : decode cX11_at 70 = .ok (.aload 4, 2) := by decide +kernel
theorem dX11_at_72 : decode cX11_at 72 = .ok (.iload_n 1, 1) := by decide +kernel
theorem dX11_at_73 : decode cX11_at 73 = .ok (.invokevirtual 170, 3) := by decide +kernel
theorem dX11_at_76 : decode cX11_at 76 = .ok (.ireturn, 1) := by decide +kernel
theorem dX11_longs_0 : decode cX11_longs 0 = .ok (.aload_n 0, 1) := by decide +kernel
theorem dX11_longs_1 : decode cX11_longs 1 = .ok (.getfield 12, 3) := by decide +kernel
theorem dX11_longs_4 : decode cX11_longs 4 = .ok (.iload_n 1, 1) := by decide +kernel
theorem dX11_longs_5 : decode cX11_longs 5 = .ok (.invokevirtual 94, 3) := by decide +kernel
theorem dX11_longs_8 : decode cX11_longs 8 = .ok (.ifCond .ne 6, 3) := by decide +kernel
theorem dX11_longs_11 : decode cX11_longs 11 = .ok (.bipush (-2), 2) := by decide +kernel
theorem dX11_longs_13 : decode cX11_longs 13 = .ok (.ireturn, 1) := by decide +kernel
theorem dX11_longs_14 : decode cX11_longs 14 = .ok (.aload_n 0, 1) := by decide +kernel
theorem dX11_longs_15 : decode cX11_longs 15 = .ok (.getfield 12, 3) := by decide +kernel
theorem dX11_longs_18 : decode cX11_longs 18 = .ok (.iload_n 1, 1) := by decide +kernel
theorem dX11_longs_19 : decode cX11_longs 19 = .ok (.invokevirtual 155, 3) := by decide +kernel
theorem dX11_longs_22 : decode cX11_longs 22 = .ok (.invokevirtual 173, 3) := by decide +kernel
theorem dX11_longs_25 : decode cX11_longs 25 = .ok (.ireturn, 1) := by decide +kernel
theorem dX11_scream_0 : decode cX11_scream 0 = .ok (.iload_n 1, 1) := by decide +kernel
theorem dX11_scream_1 : decode cX11_scream 1 = .ok (.ifCond .lt 8, 3) := by decide +kernel
theorem dX11_scream_4 : decode cX11_scream 4 = .ok (.iload_n 1, 1) := by decide +kernel
theorem dX11_scream_5 : decode cX11_scream 5 = .ok (.iconst 1, 1) := by decide +kernel
theorem dX11_scream_6 : decode cX11_scream 6 = .ok (.if_icmp .le 6, 3) := by decide +kernel
theorem dX11_scream_9 : decode cX11_scream 9 = .ok (.bipush (-2), 2) := by decide +kernel
theorem dX11_scream_11 : decode cX11_scream 11 = .ok (.ireturn, 1) := by decide +kernel
theorem dX11_scream_12 : decode cX11_scream 12 = .ok (.aload_n 0, 1) := by decide +kernel
theorem dX11_scream_13 : decode cX11_scream 13 = .ok (.getfield 21, 3) := by decide +kernel
theorem dX11_scream_16 : decode cX11_scream 16 = .ok (.invokevirtual 177, 3) := by decide +kernel
theorem dX11_scream_19 : decode cX11_scream 19 = .ok (.iload_n 1, 1) := by decide +kernel
theorem dX11_scream_20 : decode cX11_scream 20 = .ok (.ifCond .ne 13, 3) := by decide +kernel
theorem dX11_scream_23 : decode cX11_scream 23 = .ok (.aload_n 0, 1) := by decide +kernel
theorem dX11_scream_24 : decode cX11_scream 24 = .ok (.getfield 21, 3) := by decide +kernel
theorem dX11_scream_27 : decode cX11_scream 27 = .ok (.getfield 180, 3) := by decide +kernel
theorem dX11_scream_30 : decode cX11_scream 30 = .ok (.goto 10, 3) := by decide +kernel
theorem dX11_scream_33 : decode cX11_scream 33 = .ok (.aload_n 0, 1) := by decide +kernel
theorem dX11_scream_34 : decode cX11_scream 34 = .ok (.getfield 21, 3) := by decide +kernel
theorem dX11_scream_37 : decode cX11_scream 37 = .ok (.getfield 183, 3) := by decide +kernel
theorem dX11_scream_40 : decode cX11_scream 40 = .ok (.ireturn, 1) := by decide +kernel
theorem dX11_chord_0 : decode cX11_chord 0 = .ok (.iload_n 1, 1) := by decide +kernel
theorem dX11_chord_1 : decode cX11_chord 1 = .ok (.ifCond .lt 18, 3) := by decide +kernel
theorem dX11_chord_4 : decode cX11_chord 4 = .ok (.iload_n 1, 1) := by decide +kernel
theorem dX11_chord_5 : decode cX11_chord 5 = .ok (.bipush 8, 2) := by decide +kernel
theorem dX11_chord_7 : decode cX11_chord 7 = .ok (.if_icmp .ge 12, 3) := by decide +kernel
theorem dX11_chord_10 : decode cX11_chord 10 = .ok (.iload_n 2, 1) := by decide +kernel
theorem dX11_chord_11 : decode cX11_chord 11 = .ok (.ifCond .lt 8, 3) := by decide +kernel
theorem dX11_chord_14 : decode cX11_chord 14 = .ok (.iload_n 2, 1) := by decide +kernel
theorem dX11_chord_15 : decode cX11_chord 15 = .ok (.iconst 1, 1) := by decide +kernel
theorem dX11_chord_16 : decode cX11_chord 16 = .ok (.if_icmp .le 6, 3) := by decide +kernel
theorem dX11_chord_19 : decode cX11_chord 19 = .ok (.bipush (-2), 2) := by decide +kernel
theorem dX11_chord_21 : decode cX11_chord 21 = .ok (.ireturn, 1) := by decide +kernel
theorem dX11_chord_22 : decode cX11_chord 22 = .ok (.aload_n 0, 1) := by decide +kernel
theorem dX11_chord_23 : decode cX11_chord 23 = .ok (.getfield 21, 3) := by decide +kernel
theorem dX11_chord_26 : decode cX11_chord 26 = .ok (.invokevirtual 186, 3) := by decide +kernel
theorem dX11_chord_29 : decode cX11_chord 29 = .ok (.aload_n 0, 1) := by decide +kernel
theorem dX11_chord_30 : decode cX11_chord 30 = .ok (.getfield 21, 3) := by decide +kernel
theorem dX11_chord_33 : decode cX11_chord 33 = .ok (.iload_n 1, 1) := by decide +kernel
theorem dX11_chord_34 : decode cX11_chord 34 = .ok (.invokevirtual 189, 3) := by decide +kernel
theorem dX11_chord_37 : decode cX11_chord 37 = .ok (.iload_n 2, 1) := by decide +kernel
theorem dX11_chord_38 : decode cX11_chord 38 = .ok (.ifCond .ne 13, 3) := by decide +kernel
theorem dX11_chord_41 : decode cX11_chord 41 = .ok (.aload_n 0, 1) := by decide +kernel
theorem dX11_chord_42 : decode cX11_chord 42 = .ok (.getfield 21, 3) := by decide +kernel
theorem dX11_chord_45 : decode cX11_chord 45 = .ok (.getfield 192, 3) := by decide +kernel
theorem dX11_chord_48 : decode cX11_chord 48 = .ok (.goto 10, 3) := by decide +kernel
theorem dX11_chord_51 : decode cX11_chord 51 = .ok (.aload_n 0, 1) := by decide +kernel
theorem dX11_chord_52 : decode cX11_chord 52 = .ok (.getfield 21, 3) := by decide +kernel
theorem dX11_chord_55 : decode cX11_chord 55 = .ok (.getfield 195, 3) := by decide +kernel
theorem dX11_chord_58 : decode cX11_chord 58 = .ok (.ireturn, 1) := by decide +kernel
theorem dX11_hush_0 : decode cX11_hush 0 = .ok (.aload_n 0, 1) := by decide +kernel
theorem dX11_hush_1 : decode cX11_hush 1 = .ok (.getfield 21, 3) := by decide +kernel
theorem dX11_hush_4 : decode cX11_hush 4 = .ok (.invokevirtual 198, 3) := by decide +kernel
theorem dX11_hush_7 : decode cX11_hush 7 = .ok (.ireturn, 1) := by decide +kernel
theorem dX11_ripe_0 : decode cX11_ripe 0 = .ok (.aload_n 0, 1) := by decide +kernel
theorem dX11_ripe_1 : decode cX11_ripe 1 = .ok (.getfield 12, 3) := by decide +kernel
theorem dX11_ripe_4 : decode cX11_ripe 4 = .ok (.iload_n 1, 1) := by decide +kernel
theorem dX11_ripe_5 : decode cX11_ripe 5 = .ok (.invokevirtual 94, 3) := by decide +kernel
theorem dX11_ripe_8 : decode cX11_ripe 8 = .ok (.ifCond .eq 20, 3) := by decide +kernel
theorem dX11_ripe_11 : decode cX11_ripe 11 = .ok (.iload_n 2, 1) := by decide +kernel
theorem dX11_ripe_12 : decode cX11_ripe 12 = .ok (.invokestatic 111, 3) := by decide +kernel
theorem dX11_ripe_15 : decode cX11_ripe 15 = .ok (.ifCond .eq 13, 3) := by decide +kernel
theorem dX11_ripe_18 : decode cX11_ripe 18 = .ok (.iload_n 3, 1) := by decide +kernel
theorem dX11_ripe_19 : decode cX11_ripe 19 = .ok (.iconst (-1), 1) := by decide +kernel
theorem dX11_ripe_20 : decode cX11_ripe 20 = .ok (.if_icmp .lt 8, 3) := by decide +kernel
theorem dX11_ripe_23 : decode cX11_ripe 23 = .ok (.iload_n 3, 1) := by decide +kernel
theorem dX11_ripe_24 : decode cX11_ripe 24 = .ok (.iconst 1, 1) := by decide +kernel
theorem dX11_ripe_25 : decode cX11_ripe 25 = .ok (.if_icmp .le 6, 3) := by decide +kernel
theorem dX11_ripe_28 : decode cX11_ripe 28 = .ok (.bipush (-2), 2) := by decide +kernel
theorem dX11_ripe_30 : decode cX11_ripe 30 = .ok (.ireturn, 1) := by decide +kernel
theorem dX11_ripe_31 : decode cX11_ripe 31 = .ok (.aload_n 0, 1) := by decide +kernel
theorem dX11_ripe_32 : decode cX11_ripe 32 = .ok (.getfield 28, 3) := by decide +kernel
theorem dX11_ripe_35 : decode cX11_ripe 35 = .ok (.iload_n 1, 1) := by decide +kernel
theorem dX11_ripe_36 : decode cX11_ripe 36 = .ok (.iload_n 2, 1) := by decide +kernel
theorem dX11_ripe_37 : decode cX11_ripe 37 = .ok (.invokevirtual 201, 3) := by decide +kernel
theorem dX11_ripe_40 : decode cX11_ripe 40 = .ok (.iload_n 3, 1) := by decide +kernel
theorem dX11_ripe_41 : decode cX11_ripe 41 = .ok (.iconst (-1), 1) := by decide +kernel
theorem dX11_ripe_42 : decode cX11_ripe 42 = .ok (.if_icmp .ne 11, 3) := by decide +kernel
theorem dX11_ripe_45 : decode cX11_ripe 45 = .ok (.aload_n 0, 1) := by decide +kernel
theorem dX11_ripe_46 : decode cX11_ripe 46 = .ok (.getfield 28, 3) := by decide +kernel
theorem dX11_ripe_49 : decode cX11_ripe 49 = .ok (.getfield 205, 3) := by decide +kernel
theorem dX11_ripe_52 : decode cX11_ripe 52 = .ok (.ireturn, 1) := by decide +kernel
theorem dX11_ripe_53 : decode cX11_ripe 53 = .ok (.iload_n 3, 1) := by decide +kernel
theorem dX11_ripe_54 : decode cX11_ripe 54 = .ok (.ifCond .ne 13, 3) := by decide +kernel
theorem dX11_ripe_57 : decode cX11_ripe 57 = .ok (.aload_n 0, 1) := by decide +kernel
theorem dX11_ripe_58 : decode cX11_ripe 58 = .ok (.getfield 28, 3) := by decide +kernel
theorem dX11_ripe_61 : decode cX11_ripe 61 = .ok (.getfield 208, 3) := by decide +kernel
theorem dX11_ripe_64 : decode cX11_ripe 64 = .ok (.goto 10, 3) := by decide +kernel
theorem dX11_ripe_67 : decode cX11_ripe 67 = .ok (.aload_n 0, 1) := by decide +kernel
theorem dX11_ripe_68 : decode cX11_ripe 68 = .ok (.getfield 28, 3) := by decide +kernel
theorem dX11_ripe_71 : decode cX11_ripe 71 = .ok (.getfield 211, 3) := by decide +kernel
theorem dX11_ripe_74 : decode cX11_ripe 74 = .ok (.ireturn, 1) := by decide +kernel
theorem dX11_cold_0 : decode cX11_cold 0 = .ok (.aload_n 0, 1) := by decide +kernel
theorem dX11_cold_1 : decode cX11_cold 1 = .ok (.getfield 12, 3) := by decide +kernel
theorem dX11_cold_4 : decode cX11_cold 4 = .ok (.iload_n 1, 1) := by decide +kernel
theorem dX11_cold_5 : decode cX11_cold 5 = .ok (.invokevirtual 94, 3) := by decide +kernel
theorem dX11_cold_8 : decode cX11_cold 8 = .ok (.ifCond .eq 12, 3) := by decide +kernel
theorem dX11_cold_11 : decode cX11_cold 11 = .ok (.iload_n 2, 1) := by decide +kernel
theorem dX11_cold_12 : decode cX11_cold 12 = .ok (.ifCond .lt 8, 3) := by decide +kernel
theorem dX11_cold_15 : decode cX11_cold 15 = .ok (.iload_n 2, 1) := by decide +kernel
theorem dX11_cold_16 : decode cX11_cold 16 = .ok (.iconst 1, 1) := by decide +kernel
theorem dX11_cold_17 : decode cX11_cold 17 = .ok (.if_icmp .le 6, 3) := by decide +kernel
theorem dX11_cold_20 : decode cX11_cold 20 = .ok (.bipush (-2), 2) := by decide +kernel
theorem dX11_cold_22 : decode cX11_cold 22 = .ok (.ireturn, 1) := by decide +kernel
theorem dX11_cold_23 : decode cX11_cold 23 = .ok (.aload_n 0, 1) := by decide +kernel
theorem dX11_cold_24 : decode cX11_cold 24 = .ok (.getfield 28, 3) := by decide +kernel
theorem dX11_cold_27 : decode cX11_cold 27 = .ok (.iload_n 1, 1) := by decide +kernel
theorem dX11_cold_28 : decode cX11_cold 28 = .ok (.invokevirtual 214, 3) := by decide +kernel
theorem dX11_cold_31 : decode cX11_cold 31 = .ok (.iload_n 2, 1) := by decide +kernel
theorem dX11_cold_32 : decode cX11_cold 32 = .ok (.ifCond .ne 13, 3) := by decide +kernel
theorem dX11_cold_35 : decode cX11_cold 35 = .ok (.aload_n 0, 1) := by decide +kernel
theorem dX11_cold_36 : decode cX11_cold 36 = .ok (.getfield 28, 3) := by decide +kernel
theorem dX11_cold_39 : decode cX11_cold 39 = .ok (.getfield 217, 3) := by decide +kernel
theorem dX11_cold_42 : decode cX11_cold 42 = .ok (.goto 10, 3) := by decide +kernel
theorem dX11_cold_45 : decode cX11_cold 45 = .ok (.aload_n 0, 1) := by decide +kernel
theorem dX11_cold_46 : decode cX11_cold 46 = .ok (.getfield 28, 3) := by decide +kernel
theorem dX11_cold_49 : decode cX11_cold 49 = .ok (.getfield 220, 3) := by decide +kernel
theorem dX11_cold_52 : decode cX11_cold 52 = .ok (.ireturn, 1) := by decide +kernel
theorem dX11_come_0 : decode cX11_come 0 = .ok (.aload_n 0, 1) := by decide +kernel
theorem dX11_come_1 : decode cX11_come 1 = .ok (.getfield 12, 3) := by decide +kernel
theorem dX11_come_4 : decode cX11_come 4 = .ok (.iload_n 1, 1) := by decide +kernel
theorem dX11_come_5 : decode cX11_come 5 = .ok (.invokevirtual 94, 3) := by decide +kernel
theorem dX11_come_8 : decode cX11_come 8 = .ok (.ifCond .eq 12, 3) := by decide +kernel
theorem dX11_come_11 : decode cX11_come 11 = .ok (.iload_n 2, 1) := by decide +kernel
theorem dX11_come_12 : decode cX11_come 12 = .ok (.ifCond .lt 8, 3) := by decide +kernel
theorem dX11_come_15 : decode cX11_come 15 = .ok (.iload_n 2, 1) := by decide +kernel
theorem dX11_come_16 : decode cX11_come 16 = .ok (.iconst 1, 1) := by decide +kernel
theorem dX11_come_17 : decode cX11_come 17 = .ok (.if_icmp .le 6, 3) := by decide +kernel
theorem dX11_come_20 : decode cX11_come 20 = .ok (.bipush (-2), 2) := by decide +kernel
theorem dX11_come_22 : decode cX11_come 22 = .ok (.ireturn, 1) := by decide +kernel
theorem dX11_come_23 : decode cX11_come 23 = .ok (.aload_n 0, 1) := by decide +kernel
theorem dX11_come_24 : decode cX11_come 24 = .ok (.getfield 28, 3) := by decide +kernel
theorem dX11_come_27 : decode cX11_come 27 = .ok (.iload_n 1, 1) := by decide +kernel
theorem dX11_come_28 : decode cX11_come 28 = .ok (.invokevirtual 223, 3) := by decide +kernel
theorem dX11_come_31 : decode cX11_come 31 = .ok (.iload_n 2, 1) := by decide +kernel
theorem dX11_come_32 : decode cX11_come 32 = .ok (.ifCond .ne 13, 3) := by decide +kernel
theorem dX11_come_35 : decode cX11_come 35 = .ok (.aload_n 0, 1) := by decide +kernel
theorem dX11_come_36 : decode cX11_come 36 = .ok (.getfield 28, 3) := by decide +kernel
theorem dX11_come_39 : decode cX11_come 39 = .ok (.getfield 226, 3) := by decide +kernel
theorem dX11_come_42 : decode cX11_come 42 = .ok (.goto 10, 3) := by decide +kernel
theorem dX11_come_45 : decode cX11_come 45 = .ok (.aload_n 0, 1) := by decide +kernel
theorem dX11_come_46 : decode cX11_come 46 = .ok (.getfield 28, 3) := by decide +kernel
theorem dX11_come_49 : decode cX11_come 49 = .ok (.getfield 229, 3) := by decide +kernel
theorem dX11_come_52 : decode cX11_come 52 = .ok (.ireturn, 1) := by decide +kernel
theorem dX11_sale_0 : decode cX11_sale 0 = .ok (.aload_n 0, 1) := by decide +kernel
theorem dX11_sale_1 : decode cX11_sale 1 = .ok (.getfield 28, 3) := by decide +kernel
theorem dX11_sale_4 : decode cX11_sale 4 = .ok (.invokevirtual 232, 3) := by decide +kernel
theorem dX11_sale_7 : decode cX11_sale 7 = .ok (.ireturn, 1) := by decide +kernel
theorem dX11_listen_0 : decode cX11_listen 0 = .ok (.iload_n 3, 1) := by decide +kernel
theorem dX11_listen_1 : decode cX11_listen 1 = .ok (.ifCond .lt 9, 3) := by decide +kernel
theorem dX11_listen_4 : decode cX11_listen 4 = .ok (.iload_n 3, 1) := by decide +kernel
theorem dX11_listen_5 : decode cX11_listen 5 = .ok (.bipush 8, 2) := by decide +kernel
theorem dX11_listen_7 : decode cX11_listen 7 = .ok (.if_icmp .le 6, 3) := by decide +kernel
theorem dX11_listen_10 : decode cX11_listen 10 = .ok (.bipush (-2), 2) := by decide +kernel
theorem dX11_listen_12 : decode cX11_listen 12 = .ok (.ireturn, 1) := by decide +kernel
theorem dX11_listen_13 : decode cX11_listen 13 = .ok (.aload_n 0, 1) := by decide +kernel
theorem dX11_listen_14 : decode cX11_listen 14 = .ok (.getfield 12, 3) := by decide +kernel
theorem dX11_listen_17 : decode cX11_listen 17 = .ok (.getfield 235, 3) := by decide +kernel
theorem dX11_listen_20 : decode cX11_listen 20 = .ok (.iload_n 1, 1) := by decide +kernel
theorem dX11_listen_21 : decode cX11_listen 21 = .ok (.iload_n 2, 1) := by decide +kernel
theorem dX11_listen_22 : decode cX11_listen 22 = .ok (.iload_n 3, 1) := by decide +kernel
theorem dX11_listen_23 : decode cX11_listen 23 = .ok (.invokestatic 127, 3) := by decide +kernel
theorem dX11_listen_26 : decode cX11_listen 26 = .ok (.ireturn, 1) := by decide +kernel
theorem dX11_forget_0 : decode cX11_forget 0 = .ok (.aload_n 0, 1) := by decide +kernel
theorem dX11_forget_1 : decode cX11_forget 1 = .ok (.getfield 12, 3) := by decide +kernel
theorem dX11_forget_4 : decode cX11_forget 4 = .ok (.getfield 235, 3) := by decide +kernel
theorem dX11_forget_7 : decode cX11_forget 7 = .ok (.getfield 134, 3) := by decide +kernel
theorem dX11_forget_10 : decode cX11_forget 10 = .ok (.istore_n 1, 1) := by decide +kernel
theorem dX11_forget_11 : decode cX11_forget 11 = .ok (.aload_n 0, 1) := by decide +kernel
theorem dX11_forget_12 : decode cX11_forget 12 = .ok (.getfield 12, 3) := by decide +kernel
theorem dX11_forget_15 : decode cX11_forget 15 = .ok (.getfield 235, 3) := by decide +kernel
theorem dX11_forget_18 : decode cX11_forget 18 = .ok (.iconst 0, 1) := by decide +kernel
theorem dX11_forget_19 : decode cX11_forget 19 = .ok (.putfield 134, 3) := by decide +kernel
theorem dX11_forget_22 : decode cX11_forget 22 = .ok (.iload_n 1, 1) := by decide +kernel
theorem dX11_forget_23 : decode cX11_forget 23 = .ok (.ireturn, 1) := by decide +kernel
theorem dX11_never_0 : decode cX11_never 0 = .ok (.aload_n 0, 1) := by decide +kernel
theorem dX11_never_1 : decode cX11_never 1 = .ok (.getfield 35, 3) := by decide +kernel
theorem dX11_never_4 : decode cX11_never 4 = .ok (.invokevirtual 238, 3) := by decide +kernel
theorem dX11_never_7 : decode cX11_never 7 = .ok (.ireturn, 1) := by decide +kernel
theorem dX11_was_0 : decode cX11_was 0 = .ok (.aload_n 0, 1) := by decide +kernel
theorem dX11_was_1 : decode cX11_was 1 = .ok (.getfield 12, 3) := by decide +kernel
theorem dX11_was_4 : decode cX11_was 4 = .ok (.iload_n 1, 1) := by decide +kernel
theorem dX11_was_5 : decode cX11_was 5 = .ok (.invokevirtual 94, 3) := by decide +kernel
theorem dX11_was_8 : decode cX11_was 8 = .ok (.ifCond .eq 12, 3) := by decide +kernel
theorem dX11_was_11 : decode cX11_was 11 = .ok (.iload_n 2, 1) := by decide +kernel
theorem dX11_was_12 : decode cX11_was 12 = .ok (.ifCond .lt 8, 3) := by decide +kernel
theorem dX11_was_15 : decode cX11_was 15 = .ok (.iload_n 2, 1) := by decide +kernel
theorem dX11_was_16 : decode cX11_was 16 = .ok (.iconst 1, 1) := by decide +kernel
theorem dX11_was_17 : decode cX11_was 17 = .ok (.if_icmp .le 6, 3) := by decide +kernel
theorem dX11_was_20 : decode cX11_was 20 = .ok (.bipush (-2), 2) := by decide +kernel
theorem dX11_was_22 : decode cX11_was 22 = .ok (.ireturn, 1) := by decide +kernel
theorem dX11_was_23 : decode cX11_was 23 = .ok (.iload_n 2, 1) := by decide +kernel
theorem dX11_was_24 : decode cX11_was 24 = .ok (.ifCond .ne 14, 3) := by decide +kernel
theorem dX11_was_27 : decode cX11_was 27 = .ok (.aload_n 0, 1) := by decide +kernel
theorem dX11_was_28 : decode cX11_was 28 = .ok (.getfield 35, 3) := by decide +kernel
theorem dX11_was_31 : decode cX11_was 31 = .ok (.iload_n 1, 1) := by decide +kernel
theorem dX11_was_32 : decode cX11_was 32 = .ok (.invokevirtual 241, 3) := by decide +kernel
theorem dX11_was_35 : decode cX11_was 35 = .ok (.goto 11, 3) := by decide +kernel
theorem dX11_was_38 : decode cX11_was 38 = .ok (.aload_n 0, 1) := by decide +kernel
theorem dX11_was_39 : decode cX11_was 39 = .ok (.getfield 35, 3) := by decide +kernel
theorem dX11_was_42 : decode cX11_was 42 = .ok (.iload_n 1, 1) := by decide +kernel
theorem dX11_was_43 : decode cX11_was 43 = .ok (.invokevirtual 244, 3) := by decide +kernel
theorem dX11_was_46 : decode cX11_was 46 = .ok (.ireturn, 1) := by decide +kernel
theorem dX11_ask_0 : decode cX11_ask 0 = .ok (.aload_n 0, 1) := by decide +kernel
theorem dX11_ask_1 : decode cX11_ask 1 = .ok (.getfield 12, 3) := by decide +kernel
theorem dX11_ask_4 : decode cX11_ask 4 = .ok (.iload_n 1, 1) := by decide +kernel
theorem dX11_ask_5 : decode cX11_ask 5 = .ok (.invokevirtual 94, 3) := by decide +kernel
theorem dX11_ask_8 : decode cX11_ask 8 = .ok (.ifCond .ne 6, 3) := by decide +kernel
theorem dX11_ask_11 : decode cX11_ask 11 = .ok (.bipush (-2), 2) := by decide +kernel
theorem dX11_ask_13 : decode cX11_ask 13 = .ok (.ireturn, 1) := by decide +kernel
theorem dX11_ask_14 : decode cX11_ask 14 = .ok (.aload_n 0, 1) := by decide +kernel
theorem dX11_ask_15 : decode cX11_ask 15 = .ok (.getfield 35, 3) := by decide +kernel
theorem dX11_ask_18 : decode cX11_ask 18 = .ok (.iload_n 1, 1) := by decide +kernel
theorem dX11_ask_19 : decode cX11_ask 19 = .ok (.aload_n 0, 1) := by decide +kernel
theorem dX11_ask_20 : decode cX11_ask 20 = .ok (.getfield 35, 3) := by decide +kernel
theorem dX11_ask_23 : decode cX11_ask 23 = .ok (.iload_n 1, 1) := by decide +kernel
theorem dX11_ask_24 : decode cX11_ask 24 = .ok (.invokevirtual 241, 3) := by decide +kernel
theorem dX11_ask_27 : decode cX11_ask 27 = .ok (.invokevirtual 247, 3) := by decide +kernel
theorem dX11_ask_30 : decode cX11_ask 30 = .ok (.ireturn, 1) := by decide +kernel
theorem dX11_frost_0 : decode cX11_frost 0 = .ok (.iload_n 1, 1) := by decide +kernel
theorem dX11_frost_1 : decode cX11_frost 1 = .ok (.ifCond .lt 23, 3) := by decide +kernel
theorem dX11_frost_4 : decode cX11_frost 4 = .ok (.iload_n 1, 1) := by decide +kernel
theorem dX11_frost_5 : decode cX11_frost 5 = .ok (.bipush 16, 2) := by decide +kernel
theorem dX11_frost_7 : decode cX11_frost 7 = .ok (.if_icmp .gt 17, 3) := by decide +kernel
theorem dX11_frost_10 : decode cX11_frost 10 = .ok (.iload_n 2, 1) := by decide +kernel
theorem dX11_frost_11 : decode cX11_frost 11 = .ok (.ifCond .lt 13, 3) := by decide +kernel
theorem dX11_frost_14 : decode cX11_frost 14 = .ok (.iload_n 2, 1) := by decide +kernel
theorem dX11_frost_15 : decode cX11_frost 15 = .ok (.bipush 9, 2) := by decide +kernel
theorem dX11_frost_17 : decode cX11_frost 17 = .ok (.if_icmp .gt 7, 3) := by decide +kernel
theorem dX11_frost_20 : decode cX11_frost 20 = .ok (.iconst 1, 1) := by decide +kernel
theorem dX11_frost_21 : decode cX11_frost 21 = .ok (.goto 4, 3) := by decide +kernel
theorem dX11_frost_24 : decode cX11_frost 24 = .ok (.iconst 0, 1) := by decide +kernel
theorem dX11_frost_25 : decode cX11_frost 25 = .ok (.istore 6, 2) := by decide +kernel
theorem dX11_frost_27 : decode cX11_frost 27 = .ok (.iload 6, 2) := by decide +kernel
theorem dX11_frost_29 : decode cX11_frost 29 = .ok (.ifCond .eq 33, 3) := by decide +kernel
theorem dX11_frost_32 : decode cX11_frost 32 = .ok (.aload_n 0, 1) := by decide +kernel
theorem dX11_frost_33 : decode cX11_frost 33 = .ok (.getfield 12, 3) := by decide +kernel
theorem dX11_frost_36 : decode cX11_frost 36 = .ok (.iload_n 3, 1) := by decide +kernel
theorem dX11_frost_37 : decode cX11_frost 37 = .ok (.invokevirtual 94, 3) := by decide +kernel
theorem dX11_frost_40 : decode cX11_frost 40 = .ok (.ifCond .eq 22, 3) := by decide +kernel
theorem dX11_frost_43 : decode cX11_frost 43 = .ok (.iload 4, 2) := by decide +kernel
theorem dX11_frost_45 : decode cX11_frost 45 = .ok (.invokestatic 111, 3) := by decide +kernel
theorem dX11_frost_48 : decode cX11_frost 48 = .ok (.ifCond .eq 14, 3) := by decide +kernel
theorem dX11_frost_51 : decode cX11_frost 51 = .ok (.iload 5, 2) := by decide +kernel
theorem dX11_frost_53 : decode cX11_frost 53 = .ok (.ifCond .lt 9, 3) := by decide +kernel
theorem dX11_frost_56 : decode cX11_frost 56 = .ok (.iload 5, 2) := by decide +kernel
theorem dX11_frost_58 : decode cX11_frost 58 = .ok (.iconst 1, 1) := by decide +kernel
theorem dX11_frost_59 : decode cX11_frost 59 = .ok (.if_icmp .le 7, 3) := by decide +kernel
theorem dX11_frost_62 : decode cX11_frost 62 = .ok (.ldc2_w 250, 3) := by decide +kernel
theorem dX11_frost_65 : decode cX11_frost 65 = .ok (.lreturn, 1) := by decide +kernel
theorem dX11_frost_66 : decode cX11_frost 66 = .ok (.aload_n 0, 1) := by decide +kernel
theorem dX11_frost_67 : decode cX11_frost 67 = .ok (.getfield 42, 3) := by decide +kernel
theorem dX11_frost_70 : decode cX11_frost 70 = .ok (.iload_n 1, 1) := by decide +kernel
theorem dX11_frost_71 : decode cX11_frost 71 = .ok (.iload_n 2, 1) := by decide +kernel
theorem dX11_frost_72 : decode cX11_frost 72 = .ok (.iload_n 3, 1) := by decide +kernel
theorem dX11_frost_73 : decode cX11_frost 73 = .ok (.iload 4, 2) := by decide +kernel
theorem dX11_frost_75 : decode cX11_frost 75 = .ok (.invokevirtual 252, 3) := by decide +kernel
theorem dX11_frost_78 : decode cX11_frost 78 = .ok (.iload 5, 2) := by decide +kernel
theorem dX11_frost_80 : decode cX11_frost 80 = .ok (.ifCond .ne 13, 3) := by decide +kernel
theorem dX11_frost_83 : decode cX11_frost 83 = .ok (.aload_n 0, 1) := by decide +kernel
theorem dX11_frost_84 : decode cX11_frost 84 = .ok (.getfield 42, 3) := by decide +kernel
theorem dX11_frost_87 : decode cX11_frost 87 = .ok (.getfield 256, 3) := by decide +kernel
theorem dX11_frost_90 : decode cX11_frost 90 = .ok (.goto 10, 3) := by decide +kernel
theorem dX11_frost_93 : decode cX11_frost 93 = .ok (.aload_n 0, 1) := by decide +kernel
theorem dX11_frost_94 : decode cX11_frost 94 = .ok (.getfield 42, 3) := by decide +kernel
theorem dX11_frost_97 : decode cX11_frost 97 = .ok (.getfield 260, 3) := by decide +kernel
theorem dX11_frost_100 : decode cX11_frost 100 = .ok (.lreturn, 1) := by decide +kernel
theorem dX11_summer_0 : decode cX11_summer 0 = .ok (.iload_n 2, 1) := by decide +kernel
theorem dX11_summer_1 : decode cX11_summer 1 = .ok (.ifCond .lt 18, 3) := by decide +kernel
theorem dX11_summer_4 : decode cX11_summer 4 = .ok (.iload_n 2, 1) := by decide +kernel
theorem dX11_summer_5 : decode cX11_summer 5 = .ok (.bipush 30, 2) := by decide +kernel
theorem dX11_summer_7 : decode cX11_summer 7 = .ok (.if_icmp .gt 12, 3) := by decide +kernel
theorem dX11_summer_10 : decode cX11_summer 10 = .ok (.iload_n 3, 1) := by decide +kernel
theorem dX11_summer_11 : decode cX11_summer 11 = .ok (.ifCond .lt 8, 3) := by decide +kernel
theorem dX11_summer_14 : decode cX11_summer 14 = .ok (.iload_n 3, 1) := by decide +kernel
theorem dX11_summer_15 : decode cX11_summer 15 = .ok (.iconst 1, 1) := by decide +kernel
theorem dX11_summer_16 : decode cX11_summer 16 = .ok (.if_icmp .le 6, 3) := by decide +kernel
theorem dX11_summer_19 : decode cX11_summer 19 = .ok (.bipush (-2), 2) := by decide +kernel
theorem dX11_summer_21 : decode cX11_summer 21 = .ok (.ireturn, 1) := by decide +kernel
theorem dX11_summer_22 : decode cX11_summer 22 = .ok (.aload_n 0, 1) := by decide +kernel
theorem dX11_summer_23 : decode cX11_summer 23 = .ok (.getfield 42, 3) := by decide +kernel
theorem dX11_summer_26 : decode cX11_summer 26 = .ok (.iload_n 1, 1) := by decide +kernel
theorem dX11_summer_27 : decode cX11_summer 27 = .ok (.iload_n 2, 1) := by decide +kernel
theorem dX11_summer_28 : decode cX11_summer 28 = .ok (.invokevirtual 263, 3) := by decide +kernel
theorem dX11_summer_31 : decode cX11_summer 31 = .ok (.iload_n 3, 1) := by decide +kernel
theorem dX11_summer_32 : decode cX11_summer 32 = .ok (.ifCond .ne 13, 3) := by decide +kernel
theorem dX11_summer_35 : decode cX11_summer 35 = .ok (.aload_n 0, 1) := by decide +kernel
theorem dX11_summer_36 : decode cX11_summer 36 = .ok (.getfield 42, 3) := by decide +kernel
theorem dX11_summer_39 : decode cX11_summer 39 = .ok (.getfield 266, 3) := by decide +kernel
theorem dX11_summer_42 : decode cX11_summer 42 = .ok (.goto 10, 3) := by decide +kernel
theorem dX11_summer_45 : decode cX11_summer 45 = .ok (.aload_n 0, 1) := by decide +kernel
theorem dX11_summer_46 : decode cX11_summer 46 = .ok (.getfield 42, 3) := by decide +kernel
theorem dX11_summer_49 : decode cX11_summer 49 = .ok (.getfield 269, 3) := by decide +kernel
theorem dX11_summer_52 : decode cX11_summer 52 = .ok (.ireturn, 1) := by decide +kernel
theorem dX11_sheet_0 : decode cX11_sheet 0 = .ok (.aload_n 0, 1) := by decide +kernel
theorem dX11_sheet_1 : decode cX11_sheet 1 = .ok (.iload_n 1, 1) := by decide +kernel
theorem dX11_sheet_2 : decode cX11_sheet 2 = .ok (.invokevirtual 139, 3) := by decide +kernel
theorem dX11_sheet_5 : decode cX11_sheet 5 = .ok (.ifCond .eq 16, 3) := by decide +kernel
theorem dX11_sheet_8 : decode cX11_sheet 8 = .ok (.iload_n 2, 1) := by decide +kernel
theorem dX11_sheet_9 : decode cX11_sheet 9 = .ok (.invokestatic 272, 3) := by decide +kernel
theorem dX11_sheet_12 : decode cX11_sheet 12 = .ok (.ifCond .eq 9, 3) := by decide +kernel
theorem dX11_sheet_15 : decode cX11_sheet 15 = .ok (.iload_n 3, 1) := by decide +kernel
theorem dX11_sheet_16 : decode cX11_sheet 16 = .ok (.bipush 60, 2) := by decide +kernel
theorem dX11_sheet_18 : decode cX11_sheet 18 = .ok (.if_icmp .le 6, 3) := by decide +kernel
theorem dX11_sheet_21 : decode cX11_sheet 21 = .ok (.bipush (-2), 2) := by decide +kernel
theorem dX11_sheet_23 : decode cX11_sheet 23 = .ok (.ireturn, 1) := by decide +kernel
theorem dX11_sheet_24 : decode cX11_sheet 24 = .ok (.iload_n 3, 1) := by decide +kernel
theorem dX11_sheet_25 : decode cX11_sheet 25 = .ok (.ifCond .ge 9, 3) := by decide +kernel
theorem dX11_sheet_28 : decode cX11_sheet 28 = .ok (.aload_n 0, 1) := by decide +kernel
theorem dX11_sheet_29 : decode cX11_sheet 29 = .ok (.iconst 5, 1) := by decide +kernel
theorem dX11_sheet_30 : decode cX11_sheet 30 = .ok (.invokevirtual 146, 3) := by decide +kernel
theorem dX11_sheet_33 : decode cX11_sheet 33 = .ok (.ireturn, 1) := by decide +kernel
theorem dX11_sheet_34 : decode cX11_sheet 34 = .ok (.aload_n 0, 1) := by decide +kernel
theorem dX11_sheet_35 : decode cX11_sheet 35 = .ok (.getfield 48, 3) := by decide +kernel
theorem dX11_sheet_38 : decode cX11_sheet 38 = .ok (.iload_n 1, 1) := by decide +kernel
theorem dX11_sheet_39 : decode cX11_sheet 39 = .ok (.aaload, 1) := by decide +kernel
theorem dX11_sheet_40 : decode cX11_sheet 40 = .ok (.iload_n 2, 1) := by decide +kernel
theorem dX11_sheet_41 : decode cX11_sheet 41 = .ok (.iload_n 3, 1) := by decide +kernel
theorem dX11_sheet_42 : decode cX11_sheet 42 = .ok (.invokevirtual 275, 3) := by decide +kernel
theorem dX11_sheet_45 : decode cX11_sheet 45 = .ok (.iload_n 3, 1) := by decide +kernel
theorem dX11_sheet_46 : decode cX11_sheet 46 = .ok (.ireturn, 1) := by decide +kernel
theorem dX11_lose_0 : decode cX11_lose 0 = .ok (.aload_n 0, 1) := by decide +kernel
theorem dX11_lose_1 : decode cX11_lose 1 = .ok (.iload_n 1, 1) := by decide +kernel
theorem dX11_lose_2 : decode cX11_lose 2 = .ok (.invokevirtual 139, 3) := by decide +kernel
theorem dX11_lose_5 : decode cX11_lose 5 = .ok (.ifCond .ne 6, 3) := by decide +kernel
theorem dX11_lose_8 : decode cX11_lose 8 = .ok (.bipush (-2), 2) := by decide +kernel
theorem dX11_lose_10 : decode cX11_lose 10 = .ok (.ireturn, 1) := by decide +kernel
theorem dX11_lose_11 : decode cX11_lose 11 = .ok (.aload_n 0, 1) := by decide +kernel
theorem dX11_lose_12 : decode cX11_lose 12 = .ok (.getfield 48, 3) := by decide +kernel
theorem dX11_lose_15 : decode cX11_lose 15 = .ok (.iload_n 1, 1) := by decide +kernel
theorem dX11_lose_16 : decode cX11_lose 16 = .ok (.aaload, 1) := by decide +kernel
theorem dX11_lose_17 : decode cX11_lose 17 = .ok (.getfield 142, 3) := by decide +kernel
theorem dX11_lose_20 : decode cX11_lose 20 = .ok (.ifCond .eq 9, 3) := by decide +kernel
theorem dX11_lose_23 : decode cX11_lose 23 = .ok (.aload_n 0, 1) := by decide +kernel
theorem dX11_lose_24 : decode cX11_lose 24 = .ok (.iconst 1, 1) := by decide +kernel
theorem dX11_lose_25 : decode cX11_lose 25 = .ok (.invokevirtual 146, 3) := by decide +kernel
theorem dX11_lose_28 : decode cX11_lose 28 = .ok (.ireturn, 1) := by decide +kernel
theorem dX11_lose_29 : decode cX11_lose 29 = .ok (.aload_n 0, 1) := by decide +kernel
theorem dX11_lose_30 : decode cX11_lose 30 = .ok (.getfield 48, 3) := by decide +kernel
theorem dX11_lose_33 : decode cX11_lose 33 = .ok (.iload_n 1, 1) := by decide +kernel
theorem dX11_lose_34 : decode cX11_lose 34 = .ok (.aaload, 1) := by decide +kernel
theorem dX11_lose_35 : decode cX11_lose 35 = .ok (.iconst 1, 1) := by decide +kernel
theorem dX11_lose_36 : decode cX11_lose 36 = .ok (.putfield 142, 3) := by decide +kernel
theorem dX11_lose_39 : decode cX11_lose 39 = .ok (.aload_n 0, 1) := by decide +kernel
theorem dX11_lose_40 : decode cX11_lose 40 = .ok (.getfield 48, 3) := by decide +kernel
theorem dX11_lose_43 : decode cX11_lose 43 = .ok (.iload_n 1, 1) := by decide +kernel
theorem dX11_lose_44 : decode cX11_lose 44 = .ok (.aaload, 1) := by decide +kernel
theorem dX11_lose_45 : decode cX11_lose 45 = .ok (.getfield 149, 3) := by decide +kernel
theorem dX11_lose_48 : decode cX11_lose 48 = .ok (.ireturn, 1) := by decide +kernel
theorem dX11_put_0 : decode cX11_put 0 = .ok (.aload_n 0, 1) := by decide +kernel
theorem dX11_put_1 : decode cX11_put 1 = .ok (.iload_n 1, 1) := by decide +kernel
theorem dX11_put_2 : decode cX11_put 2 = .ok (.invokevirtual 139, 3) := by decide +kernel
theorem dX11_put_5 : decode cX11_put 5 = .ok (.ifCond .eq 10, 3) := by decide +kernel
theorem dX11_put_8 : decode cX11_put 8 = .ok (.iload_n 2, 1) := by decide +kernel
theorem dX11_put_9 : decode cX11_put 9 = .ok (.invokestatic 272, 3) := by decide +kernel
theorem dX11_put_12 : decode cX11_put 12 = .ok (.ifCond .ne 6, 3) := by decide +kernel
theorem dX11_put_15 : decode cX11_put 15 = .ok (.bipush (-2), 2) := by decide +kernel
theorem dX11_put_17 : decode cX11_put 17 = .ok (.ireturn, 1) := by decide +kernel
theorem dX11_put_18 : decode cX11_put 18 = .ok (.aload_n 0, 1) := by decide +kernel
theorem dX11_put_19 : decode cX11_put 19 = .ok (.getfield 48, 3) := by decide +kernel
theorem dX11_put_22 : decode cX11_put 22 = .ok (.iload_n 1, 1) := by decide +kernel
theorem dX11_put_23 : decode cX11_put 23 = .ok (.aaload, 1) := by decide +kernel
theorem dX11_put_24 : decode cX11_put 24 = .ok (.iload_n 2, 1) := by decide +kernel
theorem dX11_put_25 : decode cX11_put 25 = .ok (.iload_n 3, 1) := by decide +kernel
theorem dX11_put_26 : decode cX11_put 26 = .ok (.invokestatic 278, 3) := by decide +kernel
theorem dX11_put_29 : decode cX11_put 29 = .ok (.istore 5, 2) := by decide +kernel
theorem dX11_put_31 : decode cX11_put 31 = .ok (.iload 5, 2) := by decide +kernel
theorem dX11_put_33 : decode cX11_put 33 = .ok (.ifCond .eq 10, 3) := by decide +kernel
theorem dX11_put_36 : decode cX11_put 36 = .ok (.aload_n 0, 1) := by decide +kernel
theorem dX11_put_37 : decode cX11_put 37 = .ok (.iload 5, 2) := by decide +kernel
theorem dX11_put_39 : decode cX11_put 39 = .ok (.invokevirtual 146, 3) := by decide +kernel
theorem dX11_put_42 : decode cX11_put 42 = .ok (.ireturn, 1) := by decide +kernel
theorem dX11_put_43 : decode cX11_put 43 = .ok (.aload_n 0, 1) := by decide +kernel
theorem dX11_put_44 : decode cX11_put 44 = .ok (.getfield 48, 3) := by decide +kernel
theorem dX11_put_47 : decode cX11_put 47 = .ok (.iload_n 1, 1) := by decide +kernel
theorem dX11_put_48 : decode cX11_put 48 = .ok (.aaload, 1) := by decide +kernel
theorem dX11_put_49 : decode cX11_put 49 = .ok (.iload_n 3, 1) := by decide +kernel
theorem dX11_put_50 : decode cX11_put 50 = .ok (.iload 4, 2) := by decide +kernel
theorem dX11_put_52 : decode cX11_put 52 = .ok (.invokevirtual 282, 3) := by decide +kernel
theorem dX11_put_55 : decode cX11_put 55 = .ok (.iconst 1, 1) := by decide +kernel
theorem dX11_put_56 : decode cX11_put 56 = .ok (.ireturn, 1) := by decide +kernel
theorem dX11_get_0 : decode cX11_get 0 = .ok (.aload_n 0, 1) := by decide +kernel
theorem dX11_get_1 : decode cX11_get 1 = .ok (.iload_n 1, 1) := by decide +kernel
theorem dX11_get_2 : decode cX11_get 2 = .ok (.invokevirtual 139, 3) := by decide +kernel
theorem dX11_get_5 : decode cX11_get 5 = .ok (.ifCond .eq 10, 3) := by decide +kernel
theorem dX11_get_8 : decode cX11_get 8 = .ok (.iload_n 2, 1) := by decide +kernel
theorem dX11_get_9 : decode cX11_get 9 = .ok (.invokestatic 272, 3) := by decide +kernel
theorem dX11_get_12 : decode cX11_get 12 = .ok (.ifCond .ne 7, 3) := by decide +kernel
theorem dX11_get_15 : decode cX11_get 15 = .ok (.ldc_w 285, 3) := by decide +kernel
theorem dX11_get_18 : decode cX11_get 18 = .ok (.ireturn, 1) := by decide +kernel
theorem dX11_get_19 : decode cX11_get 19 = .ok (.aload_n 0, 1) := by decide +kernel
theorem dX11_get_20 : decode cX11_get 20 = .ok (.getfield 48, 3) := by decide +kernel
theorem dX11_get_23 : decode cX11_get 23 = .ok (.iload_n 1, 1) := by decide +kernel
theorem dX11_get_24 : decode cX11_get 24 = .ok (.aaload, 1) := by decide +kernel
theorem dX11_get_25 : decode cX11_get 25 = .ok (.iload_n 2, 1) := by decide +kernel
theorem dX11_get_26 : decode cX11_get 26 = .ok (.iload_n 3, 1) := by decide +kernel
theorem dX11_get_27 : decode cX11_get 27 = .ok (.invokestatic 278, 3) := by decide +kernel
theorem dX11_get_30 : decode cX11_get 30 = .ok (.istore 4, 2) := by decide +kernel
theorem dX11_get_32 : decode cX11_get 32 = .ok (.iload 4, 2) := by decide +kernel
theorem dX11_get_34 : decode cX11_get 34 = .ok (.ifCond .eq 14, 3) := by decide +kernel
theorem dX11_get_37 : decode cX11_get 37 = .ok (.aload_n 0, 1) := by decide +kernel
theorem dX11_get_38 : decode cX11_get 38 = .ok (.iload 4, 2) := by decide +kernel
theorem dX11_get_40 : decode cX11_get 40 = .ok (.invokevirtual 146, 3) := by decide +kernel
theorem dX11_get_43 : decode cX11_get 43 = .ok (.pop, 1) := by decide +kernel
theorem dX11_get_44 : decode cX11_get 44 = .ok (.ldc_w 285, 3) := by decide +kernel
theorem dX11_get_47 : decode cX11_get 47 = .ok (.ireturn, 1) := by decide +kernel
theorem dX11_get_48 : decode cX11_get 48 = .ok (.aload_n 0, 1) := by decide +kernel
theorem dX11_get_49 : decode cX11_get 49 = .ok (.getfield 48, 3) := by decide +kernel
theorem dX11_get_52 : decode cX11_get 52 = .ok (.iload_n 1, 1) := by decide +kernel
theorem dX11_get_53 : decode cX11_get 53 = .ok (.aaload, 1) := by decide +kernel
theorem dX11_get_54 : decode cX11_get 54 = .ok (.iload_n 3, 1) := by decide +kernel
theorem dX11_get_55 : decode cX11_get 55 = .ok (.invokevirtual 152, 3) := by decide +kernel
theorem dX11_get_58 : decode cX11_get 58 = .ok (.ireturn, 1) := by decide +kernel
theorem dX11_copy_0 : decode cX11_copy 0 = .ok (.aload_n 0, 1) := by decide +kernel
theorem dX11_copy_1 : decode cX11_copy 1 = .ok (.iload_n 1, 1) := by decide +kernel
theorem dX11_copy_2 : decode cX11_copy 2 = .ok (.invokevirtual 139, 3) := by decide +kernel
theorem dX11_copy_5 : decode cX11_copy 5 = .ok (.ifCond .eq 11, 3) := by decide +kernel
theorem dX11_copy_8 : decode cX11_copy 8 = .ok (.aload_n 0, 1) := by decide +kernel
theorem dX11_copy_9 : decode cX11_copy 9 = .ok (.iload_n 3, 1) := by decide +kernel
theorem dX11_copy_10 : decode cX11_copy 10 = .ok (.invokevirtual 139, 3) := by decide +kernel
theorem dX11_copy_13 : decode cX11_copy 13 = .ok (.ifCond .ne 6, 3) := by decide +kernel
theorem dX11_copy_16 : decode cX11_copy 16 = .ok (.bipush (-2), 2) := by decide +kernel
theorem dX11_copy_18 : decode cX11_copy 18 = .ok (.ireturn, 1) := by decide +kernel
theorem dX11_copy_19 : decode cX11_copy 19 = .ok (.aload_n 0, 1) := by decide +kernel
theorem dX11_copy_20 : decode cX11_copy 20 = .ok (.getfield 48, 3) := by decide +kernel
theorem dX11_copy_23 : decode cX11_copy 23 = .ok (.iload_n 1, 1) := by decide +kernel
theorem dX11_copy_24 : decode cX11_copy 24 = .ok (.aaload, 1) := by decide +kernel
theorem dX11_copy_25 : decode cX11_copy 25 = .ok (.astore 6, 2) := by decide +kernel
theorem dX11_copy_27 : decode cX11_copy 27 = .ok (.aload_n 0, 1) := by decide +kernel
theorem dX11_copy_28 : decode cX11_copy 28 = .ok (.getfield 48, 3) := by decide +kernel
theorem dX11_copy_31 : decode cX11_copy 31 = .ok (.iload_n 3, 1) := by decide +kernel
theorem dX11_copy_32 : decode cX11_copy 32 = .ok (.aaload, 1) := by decide +kernel
theorem dX11_copy_33 : decode cX11_copy 33 = .ok (.astore 7, 2) := by decide +kernel
theorem dX11_copy_35 : decode cX11_copy 35 = .ok (.aload 6, 2) := by decide +kernel
theorem dX11_copy_37 : decode cX11_copy 37 = .ok (.getfield 142, 3) := by decide +kernel
theorem dX11_copy_40 : decode cX11_copy 40 = .ok (.ifCond .ne 11, 3) := by decide +kernel
theorem dX11_copy_43 : decode cX11_copy 43 = .ok (.aload 7, 2) := by decide +kernel
theorem dX11_copy_45 : decode cX11_copy 45 = .ok (.getfield 142, 3) := by decide +kernel
theorem dX11_copy_48 : decode cX11_copy 48 = .ok (.ifCond .eq 9, 3) := by decide +kernel
theorem dX11_copy_51 : decode cX11_copy 51 = .ok (.aload_n 0, 1) := by decide +kernel
theorem dX11_copy_52 : decode cX11_copy 52 = .ok (.iconst 1, 1) := by decide +kernel
theorem dX11_copy_53 : decode cX11_copy 53 = .ok (.invokevirtual 146, 3) := by decide +kernel
theorem dX11_copy_56 : decode cX11_copy 56 = .ok (.ireturn, 1) := by decide +kernel
theorem dX11_copy_57 : decode cX11_copy 57 = .ok (.aload 6, 2) := by decide +kernel
theorem dX11_copy_59 : decode cX11_copy 59 = .ok (.getfield 286, 3) := by decide +kernel
theorem dX11_copy_62 : decode cX11_copy 62 = .ok (.aload 7, 2) := by decide +kernel
theorem dX11_copy_64 : decode cX11_copy 64 = .ok (.getfield 286, 3) := by decide +kernel
theorem dX11_copy_67 : decode cX11_copy 67 = .ok (.if_icmp .eq 9, 3) := by decide +kernel
theorem dX11_copy_70 : decode cX11_copy 70 = .ok (.aload_n 0, 1) := by decide +kernel
theorem dX11_copy_71 : decode cX11_copy 71 = .ok (.iconst 4, 1) := by decide +kernel
theorem dX11_copy_72 : decode cX11_copy 72 = .ok (.invokevirtual 146, 3) := by decide +kernel
theorem dX11_copy_75 : decode cX11_copy 75 = .ok (.ireturn, 1) := by decide +kernel
theorem dX11_copy_76 : decode cX11_copy 76 = .ok (.aload 6, 2) := by decide +kernel
theorem dX11_copy_78 : decode cX11_copy 78 = .ok (.iload_n 2, 1) := by decide +kernel
theorem dX11_copy_79 : decode cX11_copy 79 = .ok (.iload 5, 2) := by decide +kernel
theorem dX11_copy_81 : decode cX11_copy 81 = .ok (.invokevirtual 289, 3) := by decide +kernel
theorem dX11_copy_84 : decode cX11_copy 84 = .ok (.ifCond .eq 15, 3) := by decide +kernel
theorem dX11_copy_87 : decode cX11_copy 87 = .ok (.aload 7, 2) := by decide +kernel
theorem dX11_copy_89 : decode cX11_copy 89 = .ok (.iload 4, 2) := by decide +kernel
theorem dX11_copy_91 : decode cX11_copy 91 = .ok (.iload 5, 2) := by decide +kernel
theorem dX11_copy_93 : decode cX11_copy 93 = .ok (.invokevirtual 289, 3) := by decide +kernel
theorem dX11_copy_96 : decode cX11_copy 96 = .ok (.ifCond .ne 9, 3) := by decide +kernel
theorem dX11_copy_99 : decode cX11_copy 99 = .ok (.aload_n 0, 1) := by decide +kernel
theorem dX11_copy_100 : decode cX11_copy 100 = .ok (.iconst 2, 1) := by decide +kernel
theorem dX11_copy_101 : decode cX11_copy 101 = .ok (.invokevirtual 146, 3) := by decide +kernel
theorem dX11_copy_104 : decode cX11_copy 104 = .ok (.ireturn, 1) := by decide +kernel
theorem dX11_copy_105 : decode cX11_copy 105 = .ok (.aload 6, 2) := by decide +kernel
theorem dX11_copy_107 : decode cX11_copy 107 = .ok (.getfield 293, 3) := by decide +kernel
theorem dX11_copy_110 : decode cX11_copy 110 = .ok (.iload_n 2, 1) := by decide +kernel
theorem dX11_copy_111 : decode cX11_copy 111 = .ok (.aload 7, 2) := by decide +kernel
theorem dX11_copy_113 : decode cX11_copy 113 = .ok (.getfield 293, 3) := by decide +kernel
theorem dX11_copy_116 : decode cX11_copy 116 = .ok (.iload 4, 2) := by decide +kernel
theorem dX11_copy_118 : decode cX11_copy 118 = .ok (.iload 5, 2) := by decide +kernel
theorem dX11_copy_120 : decode cX11_copy 120 = .ok (.invokestatic 297, 3) := by decide +kernel
theorem dX11_copy_123 : decode cX11_copy 123 = .ok (.iconst 1, 1) := by decide +kernel
theorem dX11_copy_124 : decode cX11_copy 124 = .ok (.ireturn, 1) := by decide +kernel
theorem dX11_write_0 : decode cX11_write 0 = .ok (.aload_n 0, 1) := by decide +kernel
theorem dX11_write_1 : decode cX11_write 1 = .ok (.getfield 12, 3) := by decide +kernel
theorem dX11_write_4 : decode cX11_write 4 = .ok (.iload_n 1, 1) := by decide +kernel
theorem dX11_write_5 : decode cX11_write 5 = .ok (.invokevirtual 94, 3) := by decide +kernel
theorem dX11_write_8 : decode cX11_write 8 = .ok (.ifCond .eq 11, 3) := by decide +kernel
theorem dX11_write_11 : decode cX11_write 11 = .ok (.aload_n 0, 1) := by decide +kernel
theorem dX11_write_12 : decode cX11_write 12 = .ok (.iload_n 2, 1) := by decide +kernel
theorem dX11_write_13 : decode cX11_write 13 = .ok (.invokevirtual 139, 3) := by decide +kernel
theorem dX11_write_16 : decode cX11_write 16 = .ok (.ifCond .ne 6, 3) := by decide +kernel
theorem dX11_write_19 : decode cX11_write 19 = .ok (.bipush (-2), 2) := by decide +kernel
theorem dX11_write_21 : decode cX11_write 21 = .ok (.ireturn, 1) := by decide +kernel
theorem dX11_write_22 : decode cX11_write 22 = .ok (.aload_n 0, 1) := by decide +kernel
theorem dX11_write_23 : decode cX11_write 23 = .ok (.getfield 48, 3) := by decide +kernel
theorem dX11_write_26 : decode cX11_write 26 = .ok (.iload_n 2, 1) := by decide +kernel
theorem dX11_write_27 : decode cX11_write 27 = .ok (.aaload, 1) := by decide +kernel
theorem dX11_write_28 : decode cX11_write 28 = .ok (.astore_n 3, 1) := by decide +kernel
theorem dX11_write_29 : decode cX11_write 29 = .ok (.aload_n 3, 1) := by decide +kernel
theorem dX11_write_30 : decode cX11_write 30 = .ok (.getfield 142, 3) := by decide +kernel
theorem dX11_write_33 : decode cX11_write 33 = .ok (.ifCond .eq 9, 3) := by decide +kernel
theorem dX11_write_36 : decode cX11_write 36 = .ok (.aload_n 0, 1) := by decide +kernel
theorem dX11_write_37 : decode cX11_write 37 = .ok (.iconst 1, 1) := by decide +kernel
theorem dX11_write_38 : decode cX11_write 38 = .ok (.invokevirtual 146, 3) := by decide +kernel
theorem dX11_write_41 : decode cX11_write 41 = .ok (.ireturn, 1) := by decide +kernel
theorem dX11_write_42 : decode cX11_write 42 = .ok (.aload_n 0, 1) := by decide +kernel
theorem dX11_write_43 : decode cX11_write 43 = .ok (.getfield 12, 3) := by decide +kernel
theorem dX11_write_46 : decode cX11_write 46 = .ok (.iload_n 1, 1) := by decide +kernel
theorem dX11_write_47 : decode cX11_write 47 = .ok (.invokevirtual 155, 3) := by decide +kernel
theorem dX11_write_50 : decode cX11_write 50 = .ok (.astore 4, 2) := by decide +kernel
theorem dX11_write_52 : decode cX11_write 52 = .ok (.aload 4, 2) := by decide +kernel
theorem dX11_write_54 : decode cX11_write 54 = .ok (.invokevirtual 159, 3) := by decide +kernel
theorem dX11_write_57 : decode cX11_write 57 = .ok (.aload_n 3, 1) := by decide +kernel
theorem dX11_write_58 : decode cX11_write 58 = .ok (.getfield 149, 3) := by decide +kernel
theorem dX11_write_61 : decode cX11_write 61 = .ok (.bipush 30, 2) := by decide +kernel
theorem dX11_write_63 : decode cX11_write 63 = .ok (.invokestatic 303, 3) := by decide +kernel
theorem dX11_write_66 : decode cX11_write 66 = .ok (.istore 5, 2) := by decide +kernel
theorem dX11_write_68 : decode cX11_write 68 = .ok (.iconst 0, 1) := by decide +kernel
theorem dX11_write_69 : decode cX11_write 69 = .ok (.istore 6, 2) := by decide +kernel
theorem dX11_write_71 : decode cX11_write 71 = .ok (.iload 6, 2) := by decide +kernel
theorem dX11_write_73 : decode cX11_write 73 = .ok (.iload 5, 2) := by decide +kernel
theorem dX11_write_75 : decode cX11_write 75 = .ok (.if_icmp .ge 22, 3) := by decide +kernel
theorem dX11_write_78 : decode cX11_write 78 = .ok (.aload_n 3, 1) := by decide +kernel
theorem dX11_write_79 : decode cX11_write 79 = .ok (.iload 6, 2) := by decide +kernel
theorem dX11_write_81 : decode cX11_write 81 = .ok (.aload 4, 2) := by decide +kernel
theorem dX11_write_83 : decode cX11_write 83 = .ok (.iload 6, 2) := by decide +kernel
theorem dX11_write_85 : decode cX11_write 85 = .ok (.invokevirtual 167, 3) := by decide +kernel
theorem dX11_write_88 : decode cX11_write 88 = .ok (.invokevirtual 282, 3) := by decide +kernel
theorem dX11_write_91 : decode cX11_write 91 = .ok (.iinc 6 1, 3) := by decide +kernel
theorem dX11_write_94 : decode cX11_write 94 = .ok (.goto (-23), 3) := by decide +kernel
theorem dX11_write_97 : decode cX11_write 97 = .ok (.iload 5, 2) := by decide +kernel
theorem dX11_write_99 : decode cX11_write 99 = .ok (.ireturn, 1) := by decide +kernel
theorem dX11_count_0 : decode cX11_count 0 = .ok (.iload_n 1, 1) := by decide +kernel
theorem dX11_count_1 : decode cX11_count 1 = .ok (.tableswitch 141 0 8 #[51, 62, 73, 84, 95, 106, 117, 125, 136], 51) := by decide +kernel
theorem dX11_count_52 : decode cX11_count 52 = .ok (.aload_n 0, 1) := by decide +kernel
theorem dX11_count_53 : decode cX11_count 53 = .ok (.getfield 12, 3) := by decide +kernel
theorem dX11_count_56 : decode cX11_count 56 = .ok (.getfield 78, 3) := by decide +kernel
theorem dX11_count_59 : decode cX11_count 59 = .ok (.getfield 308, 3) := by decide +kernel
theorem dX11_count_62 : decode cX11_count 62 = .ok (.ireturn, 1) := by decide +kernel
theorem dX11_count_63 : decode cX11_count 63 = .ok (.aload_n 0, 1) := by decide +kernel
theorem dX11_count_64 : decode cX11_count 64 = .ok (.getfield 12, 3) := by decide +kernel
theorem dX11_count_67 : decode cX11_count 67 = .ok (.getfield 87, 3) := by decide +kernel
theorem dX11_count_70 : decode cX11_count 70 = .ok (.getfield 309, 3) := by decide +kernel
theorem dX11_count_73 : decode cX11_count 73 = .ok (.ireturn, 1) := by decide +kernel
theorem dX11_count_74 : decode cX11_count 74 = .ok (.aload_n 0, 1) := by decide +kernel
theorem dX11_count_75 : decode cX11_count 75 = .ok (.getfield 12, 3) := by decide +kernel
theorem dX11_count_78 : decode cX11_count 78 = .ok (.getfield 312, 3) := by decide +kernel
theorem dX11_count_81 : decode cX11_count 81 = .ok (.getfield 74, 3) := by decide +kernel
theorem dX11_count_84 : decode cX11_count 84 = .ok (.ireturn, 1) := by decide +kernel
theorem dX11_count_85 : decode cX11_count 85 = .ok (.aload_n 0, 1) := by decide +kernel
theorem dX11_count_86 : decode cX11_count 86 = .ok (.getfield 12, 3) := by decide +kernel
theorem dX11_count_89 : decode cX11_count 89 = .ok (.getfield 316, 3) := by decide +kernel
theorem dX11_count_92 : decode cX11_count 92 = .ok (.getfield 74, 3) := by decide +kernel
theorem dX11_count_95 : decode cX11_count 95 = .ok (.ireturn, 1) := by decide +kernel
theorem dX11_count_96 : decode cX11_count 96 = .ok (.aload_n 0, 1) := by decide +kernel
theorem dX11_count_97 : decode cX11_count 97 = .ok (.getfield 12, 3) := by decide +kernel
theorem dX11_count_100 : decode cX11_count 100 = .ok (.getfield 123, 3) := by decide +kernel
theorem dX11_count_103 : decode cX11_count 103 = .ok (.getfield 134, 3) := by decide +kernel
theorem dX11_count_106 : decode cX11_count 106 = .ok (.ireturn, 1) := by decide +kernel
theorem dX11_count_107 : decode cX11_count 107 = .ok (.aload_n 0, 1) := by decide +kernel
theorem dX11_count_108 : decode cX11_count 108 = .ok (.getfield 12, 3) := by decide +kernel
theorem dX11_count_111 : decode cX11_count 111 = .ok (.getfield 131, 3) := by decide +kernel
theorem dX11_count_114 : decode cX11_count 114 = .ok (.getfield 134, 3) := by decide +kernel
theorem dX11_count_117 : decode cX11_count 117 = .ok (.ireturn, 1) := by decide +kernel
theorem dX11_count_118 : decode cX11_count 118 = .ok (.aload_n 0, 1) := by decide +kernel
theorem dX11_count_119 : decode cX11_count 119 = .ok (.getfield 21, 3) := by decide +kernel
theorem dX11_count_122 : decode cX11_count 122 = .ok (.invokevirtual 319, 3) := by decide +kernel
theorem dX11_count_125 : decode cX11_count 125 = .ok (.ireturn, 1) := by decide +kernel
theorem dX11_count_126 : decode cX11_count 126 = .ok (.aload_n 0, 1) := by decide +kernel
theorem dX11_count_127 : decode cX11_count 127 = .ok (.getfield 12, 3) := by decide +kernel
theorem dX11_count_130 : decode cX11_count 130 = .ok (.getfield 235, 3) := by decide +kernel
theorem dX11_count_133 : decode cX11_count 133 = .ok (.getfield 134, 3) := by decide +kernel
theorem dX11_count_136 : decode cX11_count 136 = .ok (.ireturn, 1) := by decide +kernel
theorem dX11_count_137 : decode cX11_count 137 = .ok (.aload_n 0, 1) := by decide +kernel
theorem dX11_count_138 : decode cX11_count 138 = .ok (.getfield 322, 3) := by decide +kernel
theorem dX11_count_141 : decode cX11_count 141 = .ok (.ireturn, 1) := by decide +kernel
theorem dX11_count_142 : decode cX11_count 142 = .ok (.bipush (-2), 2) := by decide +kernel
theorem dX11_count_144 : decode cX11_count 144 = .ok (.ireturn, 1) := by decide +kernel
theorem dX11_digest_0 : decode cX11_digest 0 = .ok (.ldc2_w 325, 3) := by decide +kernel
theorem dX11_digest_3 : decode cX11_digest 3 = .ok (.lstore_n 1, 1) := by decide +kernel
theorem dX11_digest_4 : decode cX11_digest 4 = .ok (.iconst 0, 1) := by decide +kernel
theorem dX11_digest_5 : decode cX11_digest 5 = .ok (.istore_n 3, 1) := by decide +kernel
theorem dX11_digest_6 : decode cX11_digest 6 = .ok (.iload_n 3, 1) := by decide +kernel
theorem dX11_digest_7 : decode cX11_digest 7 = .ok (.bipush 7, 2) := by decide +kernel
theorem dX11_digest_9 : decode cX11_digest 9 = .ok (.if_icmp .gt 22, 3) := by decide +kernel
theorem dX11_digest_12 : decode cX11_digest 12 = .ok (.ldc2_w 327, 3) := by decide +kernel
theorem dX11_digest_15 : decode cX11_digest 15 = .ok (.lload_n 1, 1) := by decide +kernel
theorem dX11_digest_16 : decode cX11_digest 16 = .ok (.lmul, 1) := by decide +kernel
theorem dX11_digest_17 : decode cX11_digest 17 = .ok (.aload_n 0, 1) := by decide +kernel
theorem dX11_digest_18 : decode cX11_digest 18 = .ok (.iload_n 3, 1) := by decide +kernel
theorem dX11_digest_19 : decode cX11_digest 19 = .ok (.invokevirtual 329, 3) := by decide +kernel
theorem dX11_digest_22 : decode cX11_digest 22 = .ok (.i2l, 1) := by decide +kernel
theorem dX11_digest_23 : decode cX11_digest 23 = .ok (.ladd, 1) := by decide +kernel
theorem dX11_digest_24 : decode cX11_digest 24 = .ok (.lstore_n 1, 1) := by decide +kernel
theorem dX11_digest_25 : decode cX11_digest 25 = .ok (.iinc 3 1, 3) := by decide +kernel
theorem dX11_digest_28 : decode cX11_digest 28 = .ok (.goto (-22), 3) := by decide +kernel
theorem dX11_digest_31 : decode cX11_digest 31 = .ok (.ldc2_w 327, 3) := by decide +kernel
theorem dX11_digest_34 : decode cX11_digest 34 = .ok (.lload_n 1, 1) := by decide +kernel
theorem dX11_digest_35 : decode cX11_digest 35 = .ok (.lmul, 1) := by decide +kernel
theorem dX11_digest_36 : decode cX11_digest 36 = .ok (.aload_n 0, 1) := by decide +kernel
theorem dX11_digest_37 : decode cX11_digest 37 = .ok (.iconst 0, 1) := by decide +kernel
theorem dX11_digest_38 : decode cX11_digest 38 = .ok (.invokevirtual 332, 3) := by decide +kernel
theorem dX11_digest_41 : decode cX11_digest 41 = .ok (.i2l, 1) := by decide +kernel
theorem dX11_digest_42 : decode cX11_digest 42 = .ok (.ladd, 1) := by decide +kernel
theorem dX11_digest_43 : decode cX11_digest 43 = .ok (.lstore_n 1, 1) := by decide +kernel
theorem dX11_digest_44 : decode cX11_digest 44 = .ok (.ldc2_w 327, 3) := by decide +kernel
theorem dX11_digest_47 : decode cX11_digest 47 = .ok (.lload_n 1, 1) := by decide +kernel
theorem dX11_digest_48 : decode cX11_digest 48 = .ok (.lmul, 1) := by decide +kernel
theorem dX11_digest_49 : decode cX11_digest 49 = .ok (.aload_n 0, 1) := by decide +kernel
theorem dX11_digest_50 : decode cX11_digest 50 = .ok (.iconst 1, 1) := by decide +kernel
theorem dX11_digest_51 : decode cX11_digest 51 = .ok (.invokevirtual 332, 3) := by decide +kernel
theorem dX11_digest_54 : decode cX11_digest 54 = .ok (.i2l, 1) := by decide +kernel
theorem dX11_digest_55 : decode cX11_digest 55 = .ok (.ladd, 1) := by decide +kernel
theorem dX11_digest_56 : decode cX11_digest 56 = .ok (.lstore_n 1, 1) := by decide +kernel
theorem dX11_digest_57 : decode cX11_digest 57 = .ok (.iconst 0, 1) := by decide +kernel
theorem dX11_digest_58 : decode cX11_digest 58 = .ok (.istore_n 3, 1) := by decide +kernel
theorem dX11_digest_59 : decode cX11_digest 59 = .ok (.iload_n 3, 1) := by decide +kernel
theorem dX11_digest_60 : decode cX11_digest 60 = .ok (.getstatic 335, 3) := by decide +kernel
theorem dX11_digest_63 : decode cX11_digest 63 = .ok (.arraylength, 1) := by decide +kernel
theorem dX11_digest_64 : decode cX11_digest 64 = .ok (.if_icmp .ge 26, 3) := by decide +kernel
theorem dX11_digest_67 : decode cX11_digest 67 = .ok (.ldc2_w 327, 3) := by decide +kernel
theorem dX11_digest_70 : decode cX11_digest 70 = .ok (.lload_n 1, 1) := by decide +kernel
theorem dX11_digest_71 : decode cX11_digest 71 = .ok (.lmul, 1) := by decide +kernel
theorem dX11_digest_72 : decode cX11_digest 72 = .ok (.aload_n 0, 1) := by decide +kernel
theorem dX11_digest_73 : decode cX11_digest 73 = .ok (.getstatic 335, 3) := by decide +kernel
theorem dX11_digest_76 : decode cX11_digest 76 = .ok (.iload_n 3, 1) := by decide +kernel
theorem dX11_digest_77 : decode cX11_digest 77 = .ok (.iaload, 1) := by decide +kernel
theorem dX11_digest_78 : decode cX11_digest 78 = .ok (.invokevirtual 338, 3) := by decide +kernel
theorem dX11_digest_81 : decode cX11_digest 81 = .ok (.i2l, 1) := by decide +kernel
theorem dX11_digest_82 : decode cX11_digest 82 = .ok (.ladd, 1) := by decide +kernel
theorem dX11_digest_83 : decode cX11_digest 83 = .ok (.lstore_n 1, 1) := by decide +kernel
theorem dX11_digest_84 : decode cX11_digest 84 = .ok (.iinc 3 1, 3) := by decide +kernel
theorem dX11_digest_87 : decode cX11_digest 87 = .ok (.goto (-28), 3) := by decide +kernel
theorem dX11_digest_90 : decode cX11_digest 90 = .ok (.iconst 0, 1) := by decide +kernel
theorem dX11_digest_91 : decode cX11_digest 91 = .ok (.istore_n 3, 1) := by decide +kernel
theorem dX11_digest_92 : decode cX11_digest 92 = .ok (.iload_n 3, 1) := by decide +kernel
theorem dX11_digest_93 : decode cX11_digest 93 = .ok (.aload_n 0, 1) := by decide +kernel
theorem dX11_digest_94 : decode cX11_digest 94 = .ok (.getfield 12, 3) := by decide +kernel
theorem dX11_digest_97 : decode cX11_digest 97 = .ok (.getfield 78, 3) := by decide +kernel
theorem dX11_digest_100 : decode cX11_digest 100 = .ok (.getfield 308, 3) := by decide +kernel
theorem dX11_digest_103 : decode cX11_digest 103 = .ok (.if_icmp .ge 30, 3) := by decide +kernel
theorem dX11_digest_106 : decode cX11_digest 106 = .ok (.aload_n 0, 1) := by decide +kernel
theorem dX11_digest_107 : decode cX11_digest 107 = .ok (.lload_n 1, 1) := by decide +kernel
theorem dX11_digest_108 : decode cX11_digest 108 = .ok (.iload_n 3, 1) := by decide +kernel
theorem dX11_digest_109 : decode cX11_digest 109 = .ok (.invokevirtual 341, 3) := by decide +kernel
theorem dX11_digest_112 : decode cX11_digest 112 = .ok (.lstore_n 1, 1) := by decide +kernel
theorem dX11_digest_113 : decode cX11_digest 113 = .ok (.aload_n 0, 1) := by decide +kernel
theorem dX11_digest_114 : decode cX11_digest 114 = .ok (.lload_n 1, 1) := by decide +kernel
theorem dX11_digest_115 : decode cX11_digest 115 = .ok (.iload_n 3, 1) := by decide +kernel
theorem dX11_digest_116 : decode cX11_digest 116 = .ok (.invokevirtual 345, 3) := by decide +kernel
theorem dX11_digest_119 : decode cX11_digest 119 = .ok (.lstore_n 1, 1) := by decide +kernel
theorem dX11_digest_120 : decode cX11_digest 120 = .ok (.aload_n 0, 1) := by decide +kernel
theorem dX11_digest_121 : decode cX11_digest 121 = .ok (.lload_n 1, 1) := by decide +kernel
theorem dX11_digest_122 : decode cX11_digest 122 = .ok (.iload_n 3, 1) := by decide +kernel
theorem dX11_digest_123 : decode cX11_digest 123 = .ok (.invokevirtual 348, 3) := by decide +kernel
theorem dX11_digest_126 : decode cX11_digest 126 = .ok (.lstore_n 1, 1) := by decide +kernel
theorem dX11_digest_127 : decode cX11_digest 127 = .ok (.iinc 3 1, 3) := by decide +kernel
theorem dX11_digest_130 : decode cX11_digest 130 = .ok (.goto (-38), 3) := by decide +kernel
theorem dX11_digest_133 : decode cX11_digest 133 = .ok (.aload_n 0, 1) := by decide +kernel
theorem dX11_digest_134 : decode cX11_digest 134 = .ok (.lload_n 1, 1) := by decide +kernel
theorem dX11_digest_135 : decode cX11_digest 135 = .ok (.invokevirtual 351, 3) := by decide +kernel
theorem dX11_digest_138 : decode cX11_digest 138 = .ok (.lreturn, 1) := by decide +kernel
theorem dX11_mixNights_0 : decode cX11_mixNights 0 = .ok (.lload_n 1, 1) := by decide +kernel
theorem dX11_mixNights_1 : decode cX11_mixNights 1 = .ok (.lstore 4, 2) := by decide +kernel
theorem dX11_mixNights_3 : decode cX11_mixNights 3 = .ok (.iconst 0, 1) := by decide +kernel
theorem dX11_mixNights_4 : decode cX11_mixNights 4 = .ok (.istore 6, 2) := by decide +kernel
theorem dX11_mixNights_6 : decode cX11_mixNights 6 = .ok (.iload 6, 2) := by decide +kernel
theorem dX11_mixNights_8 : decode cX11_mixNights 8 = .ok (.bipush 7, 2) := by decide +kernel
theorem dX11_mixNights_10 : decode cX11_mixNights 10 = .ok (.if_icmp .gt 26, 3) := by decide +kernel
theorem dX11_mixNights_13 : decode cX11_mixNights 13 = .ok (.ldc2_w 327, 3) := by decide +kernel
theorem dX11_mixNights_16 : decode cX11_mixNights 16 = .ok (.lload 4, 2) := by decide +kernel
theorem dX11_mixNights_18 : decode cX11_mixNights 18 = .ok (.lmul, 1) := by decide +kernel
theorem dX11_mixNights_19 : decode cX11_mixNights 19 = .ok (.aload_n 0, 1) := by decide +kernel
theorem dX11_mixNights_20 : decode cX11_mixNights 20 = .ok (.iload_n 3, 1) := by decide +kernel
theorem dX11_mixNights_21 : decode cX11_mixNights 21 = .ok (.iload 6, 2) := by decide +kernel
theorem dX11_mixNights_23 : decode cX11_mixNights 23 = .ok (.invokevirtual 355, 3) := by decide +kernel
theorem dX11_mixNights_26 : decode cX11_mixNights 26 = .ok (.i2l, 1) := by decide +kernel
theorem dX11_mixNights_27 : decode cX11_mixNights 27 = .ok (.ladd, 1) := by decide +kernel
theorem dX11_mixNights_28 : decode cX11_mixNights 28 = .ok (.lstore 4, 2) := by decide +kernel
theorem dX11_mixNights_30 : decode cX11_mixNights 30 = .ok (.iinc 6 1, 3) := by decide +kernel
theorem dX11_mixNights_33 : decode cX11_mixNights 33 = .ok (.goto (-27), 3) := by decide +kernel
theorem dX11_mixNights_36 : decode cX11_mixNights 36 = .ok (.aload_n 0, 1) := by decide +kernel
theorem dX11_mixNights_37 : decode cX11_mixNights 37 = .ok (.getfield 12, 3) := by decide +kernel
theorem dX11_mixNights_40 : decode cX11_mixNights 40 = .ok (.iload_n 3, 1) := by decide +kernel
theorem dX11_mixNights_41 : decode cX11_mixNights 41 = .ok (.invokevirtual 155, 3) := by decide +kernel
theorem dX11_mixNights_44 : decode cX11_mixNights 44 = .ok (.astore 6, 2) := by decide +kernel
theorem dX11_mixNights_46 : decode cX11_mixNights 46 = .ok (.aload 6, 2) := by decide +kernel
theorem dX11_mixNights_48 : decode cX11_mixNights 48 = .ok (.invokevirtual 159, 3) := by decide +kernel
theorem dX11_mixNights_51 : decode cX11_mixNights 51 = .ok (.iconst 0, 1) := by decide +kernel
theorem dX11_mixNights_52 : decode cX11_mixNights 52 = .ok (.istore 7, 2) := by decide +kernel
theorem dX11_mixNights_54 : decode cX11_mixNights 54 = .ok (.iload 7, 2) := by decide +kernel
theorem dX11_mixNights_56 : decode cX11_mixNights 56 = .ok (.getstatic 358, 3) := by decide +kernel
theorem dX11_mixNights_59 : decode cX11_mixNights 59 = .ok (.arraylength, 1) := by decide +kernel
theorem dX11_mixNights_60 : decode cX11_mixNights 60 = .ok (.if_icmp .ge 68, 3) := by decide +kernel
theorem dX11_mixNights_63 : decode cX11_mixNights 63 = .ok (.getstatic 358, 3) := by decide +kernel
theorem dX11_mixNights_66 : decode cX11_mixNights 66 = .ok (.iload 7, 2) := by decide +kernel
theorem dX11_mixNights_68 : decode cX11_mixNights 68 = .ok (.iaload, 1) := by decide +kernel
theorem dX11_mixNights_69 : decode cX11_mixNights 69 = .ok (.istore 8, 2) := by decide +kernel
theorem dX11_mixNights_71 : decode cX11_mixNights 71 = .ok (.ldc2_w 327, 3) := by decide +kernel
theorem dX11_mixNights_74 : decode cX11_mixNights 74 = .ok (.lload 4, 2) := by decide +kernel
theorem dX11_mixNights_76 : decode cX11_mixNights 76 = .ok (.lmul, 1) := by decide +kernel
theorem dX11_mixNights_77 : decode cX11_mixNights 77 = .ok (.aload 6, 2) := by decide +kernel
theorem dX11_mixNights_79 : decode cX11_mixNights 79 = .ok (.iload 8, 2) := by decide +kernel
theorem dX11_mixNights_81 : decode cX11_mixNights 81 = .ok (.invokevirtual 164, 3) := by decide +kernel
theorem dX11_mixNights_84 : decode cX11_mixNights 84 = .ok (.i2l, 1) := by decide +kernel
theorem dX11_mixNights_85 : decode cX11_mixNights 85 = .ok (.ladd, 1) := by decide +kernel
theorem dX11_mixNights_86 : decode cX11_mixNights 86 = .ok (.lstore 4, 2) := by decide +kernel
theorem dX11_mixNights_88 : decode cX11_mixNights 88 = .ok (.ldc2_w 327, 3) := by decide +kernel
theorem dX11_mixNights_91 : decode cX11_mixNights 91 = .ok (.lload 4, 2) := by decide +kernel
theorem dX11_mixNights_93 : decode cX11_mixNights 93 = .ok (.lmul, 1) := by decide +kernel
theorem dX11_mixNights_94 : decode cX11_mixNights 94 = .ok (.aload 6, 2) := by decide +kernel
theorem dX11_mixNights_96 : decode cX11_mixNights 96 = .ok (.iload 8, 2) := by decide +kernel
theorem dX11_mixNights_98 : decode cX11_mixNights 98 = .ok (.invokevirtual 167, 3) := by decide +kernel
theorem dX11_mixNights_101 : decode cX11_mixNights 101 = .ok (.i2l, 1) := by decide +kernel
theorem dX11_mixNights_102 : decode cX11_mixNights 102 = .ok (.ladd, 1) := by decide +kernel
theorem dX11_mixNights_103 : decode cX11_mixNights 103 = .ok (.lstore 4, 2) := by decide +kernel
theorem dX11_mixNights_105 : decode cX11_mixNights 105 = .ok (.ldc2_w 327, 3) := by decide +kernel
theorem dX11_mixNights_108 : decode cX11_mixNights 108 = .ok (.lload 4, 2) := by decide +kernel
theorem dX11_mixNights_110 : decode cX11_mixNights 110 = .ok (.lmul, 1) := by decide +kernel
theorem dX11_mixNights_111 : decode cX11_mixNights 111 = .ok (.aload 6, 2) := by decide +kernel
theorem dX11_mixNights_113 : decode cX11_mixNights 113 = .ok (.iload 8, 2) := by decide +kernel
theorem dX11_mixNights_115 : decode cX11_mixNights 115 = .ok (.invokevirtual 170, 3) := by decide +kernel
theorem dX11_mixNights_118 : decode cX11_mixNights 118 = .ok (.i2l, 1) := by decide +kernel
theorem dX11_mixNights_119 : decode cX11_mixNights 119 = .ok (.ladd, 1) := by decide +kernel
theorem dX11_mixNights_120 : decode cX11_mixNights 120 = .ok (.lstore 4, 2) := by decide +kernel
theorem dX11_mixNights_122 : decode cX11_mixNights 122 = .ok (.iinc 7 1, 3) := by decide +kernel
theorem dX11_mixNights_125 : decode cX11_mixNights 125 = .ok (.goto (-71), 3) := by decide +kernel
theorem dX11_mixNights_128 : decode cX11_mixNights 128 = .ok (.ldc2_w 327, 3) := by decide +kernel
theorem dX11_mixNights_131 : decode cX11_mixNights 131 = .ok (.lload 4, 2) := by decide +kernel
theorem dX11_mixNights_133 : decode cX11_mixNights 133 = .ok (.lmul, 1) := by decide +kernel
theorem dX11_mixNights_134 : decode cX11_mixNights 134 = .ok (.aload 6, 2) := by decide +kernel
theorem dX11_mixNights_136 : decode cX11_mixNights 136 = .ok (.invokevirtual 173, 3) := by decide +kernel
theorem dX11_mixNights_139 : decode cX11_mixNights 139 = .ok (.i2l, 1) := by decide +kernel
theorem dX11_mixNights_140 : decode cX11_mixNights 140 = .ok (.ladd, 1) := by decide +kernel
theorem dX11_mixNights_141 : decode cX11_mixNights 141 = .ok (.lreturn, 1) := by decide +kernel
theorem dX11_mixPlans_0 : decode cX11_mixPlans 0 = .ok (.aload_n 0, 1) := by decide +kernel
theorem dX11_mixPlans_1 : decode cX11_mixPlans 1 = .ok (.getfield 28, 3) := by decide +kernel
theorem dX11_mixPlans_4 : decode cX11_mixPlans 4 = .ok (.iload_n 3, 1) := by decide +kernel
theorem dX11_mixPlans_5 : decode cX11_mixPlans 5 = .ok (.bipush 12, 2) := by decide +kernel
theorem dX11_mixPlans_7 : decode cX11_mixPlans 7 = .ok (.invokevirtual 201, 3) := by decide +kernel
theorem dX11_mixPlans_10 : decode cX11_mixPlans 10 = .ok (.aload_n 0, 1) := by decide +kernel
theorem dX11_mixPlans_11 : decode cX11_mixPlans 11 = .ok (.getfield 28, 3) := by decide +kernel
theorem dX11_mixPlans_14 : decode cX11_mixPlans 14 = .ok (.iload_n 3, 1) := by decide +kernel
theorem dX11_mixPlans_15 : decode cX11_mixPlans 15 = .ok (.invokevirtual 214, 3) := by decide +kernel
theorem dX11_mixPlans_18 : decode cX11_mixPlans 18 = .ok (.aload_n 0, 1) := by decide +kernel
theorem dX11_mixPlans_19 : decode cX11_mixPlans 19 = .ok (.getfield 28, 3) := by decide +kernel
theorem dX11_mixPlans_22 : decode cX11_mixPlans 22 = .ok (.iload_n 3, 1) := by decide +kernel
theorem dX11_mixPlans_23 : decode cX11_mixPlans 23 = .ok (.invokevirtual 223, 3) := by decide +kernel
theorem dX11_mixPlans_26 : decode cX11_mixPlans 26 = .ok (.ldc2_w 327, 3) := by decide +kernel
theorem dX11_mixPlans_29 : decode cX11_mixPlans 29 = .ok (.lload_n 1, 1) := by decide +kernel
theorem dX11_mixPlans_30 : decode cX11_mixPlans 30 = .ok (.lmul, 1) := by decide +kernel
theorem dX11_mixPlans_31 : decode cX11_mixPlans 31 = .ok (.aload_n 0, 1) := by decide +kernel
theorem dX11_mixPlans_32 : decode cX11_mixPlans 32 = .ok (.getfield 28, 3) := by decide +kernel
theorem dX11_mixPlans_35 : decode cX11_mixPlans 35 = .ok (.getfield 205, 3) := by decide +kernel
theorem dX11_mixPlans_38 : decode cX11_mixPlans 38 = .ok (.i2l, 1) := by decide +kernel
theorem dX11_mixPlans_39 : decode cX11_mixPlans 39 = .ok (.ladd, 1) := by decide +kernel
theorem dX11_mixPlans_40 : decode cX11_mixPlans 40 = .ok (.lstore 4, 2) := by decide +kernel
theorem dX11_mixPlans_42 : decode cX11_mixPlans 42 = .ok (.ldc2_w 327, 3) := by decide +kernel
theorem dX11_mixPlans_45 : decode cX11_mixPlans 45 = .ok (.lload 4, 2) := by decide +kernel
theorem dX11_mixPlans_47 : decode cX11_mixPlans 47 = .ok (.lmul, 1) := by decide +kernel
theorem dX11_mixPlans_48 : decode cX11_mixPlans 48 = .ok (.aload_n 0, 1) := by decide +kernel
theorem dX11_mixPlans_49 : decode cX11_mixPlans 49 = .ok (.getfield 28, 3) := by decide +kernel
theorem dX11_mixPlans_52 : decode cX11_mixPlans 52 = .ok (.getfield 208, 3) := by decide +kernel
theorem dX11_mixPlans_55 : decode cX11_mixPlans 55 = .ok (.i2l, 1) := by decide +kernel
theorem dX11_mixPlans_56 : decode cX11_mixPlans 56 = .ok (.ladd, 1) := by decide +kernel
theorem dX11_mixPlans_57 : decode cX11_mixPlans 57 = .ok (.lstore 4, 2) := by decide +kernel
theorem dX11_mixPlans_59 : decode cX11_mixPlans 59 = .ok (.ldc2_w 327, 3) := by decide +kernel
theorem dX11_mixPlans_62 : decode cX11_mixPlans 62 = .ok (.lload 4, 2) := by decide +kernel
theorem dX11_mixPlans_64 : decode cX11_mixPlans 64 = .ok (.lmul, 1) := by decide +kernel
theorem dX11_mixPlans_65 : decode cX11_mixPlans 65 = .ok (.aload_n 0, 1) := by decide +kernel
theorem dX11_mixPlans_66 : decode cX11_mixPlans 66 = .ok (.getfield 28, 3) := by decide +kernel
theorem dX11_mixPlans_69 : decode cX11_mixPlans 69 = .ok (.getfield 217, 3) := by decide +kernel
theorem dX11_mixPlans_72 : decode cX11_mixPlans 72 = .ok (.i2l, 1) := by decide +kernel
theorem dX11_mixPlans_73 : decode cX11_mixPlans 73 = .ok (.ladd, 1) := by decide +kernel
theorem dX11_mixPlans_74 : decode cX11_mixPlans 74 = .ok (.lstore 4, 2) := by decide +kernel
theorem dX11_mixPlans_76 : decode cX11_mixPlans 76 = .ok (.ldc2_w 327, 3) := by decide +kernel
theorem dX11_mixPlans_79 : decode cX11_mixPlans 79 = .ok (.lload 4, 2) := by decide +kernel
theorem dX11_mixPlans_81 : decode cX11_mixPlans 81 = .ok (.lmul, 1) := by decide +kernel
theorem dX11_mixPlans_82 : decode cX11_mixPlans 82 = .ok (.aload_n 0, 1) := by decide +kernel
theorem dX11_mixPlans_83 : decode cX11_mixPlans 83 = .ok (.getfield 28, 3) := by decide +kernel
theorem dX11_mixPlans_86 : decode cX11_mixPlans 86 = .ok (.getfield 220, 3) := by decide +kernel
theorem dX11_mixPlans_89 : decode cX11_mixPlans 89 = .ok (.i2l, 1) := by decide +kernel
theorem dX11_mixPlans_90 : decode cX11_mixPlans 90 = .ok (.ladd, 1) := by decide +kernel
theorem dX11_mixPlans_91 : decode cX11_mixPlans 91 = .ok (.lstore 4, 2) := by decide +kernel
theorem dX11_mixPlans_93 : decode cX11_mixPlans 93 = .ok (.ldc2_w 327, 3) := by decide +kernel
theorem dX11_mixPlans_96 : decode cX11_mixPlans 96 = .ok (.lload 4, 2) := by decide +kernel
theorem dX11_mixPlans_98 : decode cX11_mixPlans 98 = .ok (.lmul, 1) := by decide +kernel
theorem dX11_mixPlans_99 : decode cX11_mixPlans 99 = .ok (.aload_n 0, 1) := by decide +kernel
theorem dX11_mixPlans_100 : decode cX11_mixPlans 100 = .ok (.getfield 28, 3) := by decide +kernel
theorem dX11_mixPlans_103 : decode cX11_mixPlans 103 = .ok (.getfield 226, 3) := by decide +kernel
theorem dX11_mixPlans_106 : decode cX11_mixPlans 106 = .ok (.i2l, 1) := by decide +kernel
theorem dX11_mixPlans_107 : decode cX11_mixPlans 107 = .ok (.ladd, 1) := by decide +kernel
theorem dX11_mixPlans_108 : decode cX11_mixPlans 108 = .ok (.lstore 4, 2) := by decide +kernel
theorem dX11_mixPlans_110 : decode cX11_mixPlans 110 = .ok (.ldc2_w 327, 3) := by decide +kernel
theorem dX11_mixPlans_113 : decode cX11_mixPlans 113 = .ok (.lload 4, 2) := by decide +kernel
theorem dX11_mixPlans_115 : decode cX11_mixPlans 115 = .ok (.lmul, 1) := by decide +kernel
theorem dX11_mixPlans_116 : decode cX11_mixPlans 116 = .ok (.aload_n 0, 1) := by decide +kernel
theorem dX11_mixPlans_117 : decode cX11_mixPlans 117 = .ok (.getfield 28, 3) := by decide +kernel
theorem dX11_mixPlans_120 : decode cX11_mixPlans 120 = .ok (.getfield 229, 3) := by decide +kernel
theorem dX11_mixPlans_123 : decode cX11_mixPlans 123 = .ok (.i2l, 1) := by decide +kernel
theorem dX11_mixPlans_124 : decode cX11_mixPlans 124 = .ok (.ladd, 1) := by decide +kernel
theorem dX11_mixPlans_125 : decode cX11_mixPlans 125 = .ok (.lreturn, 1) := by decide +kernel
theorem dX11_mixClues_0 : decode cX11_mixClues 0 = .ok (.aload_n 0, 1) := by decide +kernel
theorem dX11_mixClues_1 : decode cX11_mixClues 1 = .ok (.getfield 35, 3) := by decide +kernel
theorem dX11_mixClues_4 : decode cX11_mixClues 4 = .ok (.iload_n 3, 1) := by decide +kernel
theorem dX11_mixClues_5 : decode cX11_mixClues 5 = .ok (.invokevirtual 241, 3) := by decide +kernel
theorem dX11_mixClues_8 : decode cX11_mixClues 8 = .ok (.istore 4, 2) := by decide +kernel
theorem dX11_mixClues_10 : decode cX11_mixClues 10 = .ok (.ldc2_w 327, 3) := by decide +kernel
theorem dX11_mixClues_13 : decode cX11_mixClues 13 = .ok (.lload_n 1, 1) := by decide +kernel
theorem dX11_mixClues_14 : decode cX11_mixClues 14 = .ok (.lmul, 1) := by decide +kernel
theorem dX11_mixClues_15 : decode cX11_mixClues 15 = .ok (.iload 4, 2) := by decide +kernel
theorem dX11_mixClues_17 : decode cX11_mixClues 17 = .ok (.i2l, 1) := by decide +kernel
theorem dX11_mixClues_18 : decode cX11_mixClues 18 = .ok (.ladd, 1) := by decide +kernel
theorem dX11_mixClues_19 : decode cX11_mixClues 19 = .ok (.lstore 5, 2) := by decide +kernel
theorem dX11_mixClues_21 : decode cX11_mixClues 21 = .ok (.ldc2_w 327, 3) := by decide +kernel
theorem dX11_mixClues_24 : decode cX11_mixClues 24 = .ok (.lload 5, 2) := by decide +kernel
theorem dX11_mixClues_26 : decode cX11_mixClues 26 = .ok (.lmul, 1) := by decide +kernel
theorem dX11_mixClues_27 : decode cX11_mixClues 27 = .ok (.aload_n 0, 1) := by decide +kernel
theorem dX11_mixClues_28 : decode cX11_mixClues 28 = .ok (.getfield 35, 3) := by decide +kernel
theorem dX11_mixClues_31 : decode cX11_mixClues 31 = .ok (.iload_n 3, 1) := by decide +kernel
theorem dX11_mixClues_32 : decode cX11_mixClues 32 = .ok (.invokevirtual 244, 3) := by decide +kernel
theorem dX11_mixClues_35 : decode cX11_mixClues 35 = .ok (.i2l, 1) := by decide +kernel
theorem dX11_mixClues_36 : decode cX11_mixClues 36 = .ok (.ladd, 1) := by decide +kernel
theorem dX11_mixClues_37 : decode cX11_mixClues 37 = .ok (.lstore 5, 2) := by decide +kernel
theorem dX11_mixClues_39 : decode cX11_mixClues 39 = .ok (.ldc2_w 327, 3) := by decide +kernel
theorem dX11_mixClues_42 : decode cX11_mixClues 42 = .ok (.lload 5, 2) := by decide +kernel
theorem dX11_mixClues_44 : decode cX11_mixClues 44 = .ok (.lmul, 1) := by decide +kernel
theorem dX11_mixClues_45 : decode cX11_mixClues 45 = .ok (.aload_n 0, 1) := by decide +kernel
theorem dX11_mixClues_46 : decode cX11_mixClues 46 = .ok (.getfield 35, 3) := by decide +kernel
theorem dX11_mixClues_49 : decode cX11_mixClues 49 = .ok (.iload_n 3, 1) := by decide +kernel
theorem dX11_mixClues_50 : decode cX11_mixClues 50 = .ok (.iload 4, 2) := by decide +kernel
theorem dX11_mixClues_52 : decode cX11_mixClues 52 = .ok (.invokevirtual 247, 3) := by decide +kernel
theorem dX11_mixClues_55 : decode cX11_mixClues 55 = .ok (.i2l, 1) := by decide +kernel
theorem dX11_mixClues_56 : decode cX11_mixClues 56 = .ok (.ladd, 1) := by decide +kernel
theorem dX11_mixClues_57 : decode cX11_mixClues 57 = .ok (.lstore 5, 2) := by decide +kernel
theorem dX11_mixClues_59 : decode cX11_mixClues 59 = .ok (.aload_n 0, 1) := by decide +kernel
theorem dX11_mixClues_60 : decode cX11_mixClues 60 = .ok (.getfield 42, 3) := by decide +kernel
theorem dX11_mixClues_63 : decode cX11_mixClues 63 = .ok (.iconst 5, 1) := by decide +kernel
theorem dX11_mixClues_64 : decode cX11_mixClues 64 = .ok (.iconst 5, 1) := by decide +kernel
theorem dX11_mixClues_65 : decode cX11_mixClues 65 = .ok (.iload_n 3, 1) := by decide +kernel
theorem dX11_mixClues_66 : decode cX11_mixClues 66 = .ok (.bipush 12, 2) := by decide +kernel
theorem dX11_mixClues_68 : decode cX11_mixClues 68 = .ok (.invokevirtual 252, 3) := by decide +kernel
theorem dX11_mixClues_71 : decode cX11_mixClues 71 = .ok (.ldc2_w 327, 3) := by decide +kernel
theorem dX11_mixClues_74 : decode cX11_mixClues 74 = .ok (.lload 5, 2) := by decide +kernel
theorem dX11_mixClues_76 : decode cX11_mixClues 76 = .ok (.lmul, 1) := by decide +kernel
theorem dX11_mixClues_77 : decode cX11_mixClues 77 = .ok (.aload_n 0, 1) := by decide +kernel
theorem dX11_mixClues_78 : decode cX11_mixClues 78 = .ok (.getfield 42, 3) := by decide +kernel
theorem dX11_mixClues_81 : decode cX11_mixClues 81 = .ok (.getfield 256, 3) := by decide +kernel
theorem dX11_mixClues_84 : decode cX11_mixClues 84 = .ok (.ladd, 1) := by decide +kernel
theorem dX11_mixClues_85 : decode cX11_mixClues 85 = .ok (.lstore 5, 2) := by decide +kernel
theorem dX11_mixClues_87 : decode cX11_mixClues 87 = .ok (.ldc2_w 327, 3) := by decide +kernel
theorem dX11_mixClues_90 : decode cX11_mixClues 90 = .ok (.lload 5, 2) := by decide +kernel
theorem dX11_mixClues_92 : decode cX11_mixClues 92 = .ok (.lmul, 1) := by decide +kernel
theorem dX11_mixClues_93 : decode cX11_mixClues 93 = .ok (.aload_n 0, 1) := by decide +kernel
theorem dX11_mixClues_94 : decode cX11_mixClues 94 = .ok (.getfield 42, 3) := by decide +kernel
theorem dX11_mixClues_97 : decode cX11_mixClues 97 = .ok (.getfield 260, 3) := by decide +kernel
theorem dX11_mixClues_100 : decode cX11_mixClues 100 = .ok (.ladd, 1) := by decide +kernel
theorem dX11_mixClues_101 : decode cX11_mixClues 101 = .ok (.lreturn, 1) := by decide +kernel
theorem dX11_mixAll_0 : decode cX11_mixAll 0 = .ok (.aload_n 0, 1) := by decide +kernel
theorem dX11_mixAll_1 : decode cX11_mixAll 1 = .ok (.getfield 21, 3) := by decide +kernel
theorem dX11_mixAll_4 : decode cX11_mixAll 4 = .ok (.invokevirtual 177, 3) := by decide +kernel
theorem dX11_mixAll_7 : decode cX11_mixAll 7 = .ok (.ldc2_w 327, 3) := by decide +kernel
theorem dX11_mixAll_10 : decode cX11_mixAll 10 = .ok (.lload_n 1, 1) := by decide +kernel
theorem dX11_mixAll_11 : decode cX11_mixAll 11 = .ok (.lmul, 1) := by decide +kernel
theorem dX11_mixAll_12 : decode cX11_mixAll 12 = .ok (.aload_n 0, 1) := by decide +kernel
theorem dX11_mixAll_13 : decode cX11_mixAll 13 = .ok (.getfield 21, 3) := by decide +kernel
theorem dX11_mixAll_16 : decode cX11_mixAll 16 = .ok (.getfield 180, 3) := by decide +kernel
theorem dX11_mixAll_19 : decode cX11_mixAll 19 = .ok (.i2l, 1) := by decide +kernel
theorem dX11_mixAll_20 : decode cX11_mixAll 20 = .ok (.ladd, 1) := by decide +kernel
theorem dX11_mixAll_21 : decode cX11_mixAll 21 = .ok (.lstore_n 3, 1) := by decide +kernel
theorem dX11_mixAll_22 : decode cX11_mixAll 22 = .ok (.ldc2_w 327, 3) := by decide +kernel
theorem dX11_mixAll_25 : decode cX11_mixAll 25 = .ok (.lload_n 3, 1) := by decide +kernel
theorem dX11_mixAll_26 : decode cX11_mixAll 26 = .ok (.lmul, 1) := by decide +kernel
theorem dX11_mixAll_27 : decode cX11_mixAll 27 = .ok (.aload_n 0, 1) := by decide +kernel
theorem dX11_mixAll_28 : decode cX11_mixAll 28 = .ok (.getfield 21, 3) := by decide +kernel
theorem dX11_mixAll_31 : decode cX11_mixAll 31 = .ok (.getfield 183, 3) := by decide +kernel
theorem dX11_mixAll_34 : decode cX11_mixAll 34 = .ok (.i2l, 1) := by decide +kernel
theorem dX11_mixAll_35 : decode cX11_mixAll 35 = .ok (.ladd, 1) := by decide +kernel
theorem dX11_mixAll_36 : decode cX11_mixAll 36 = .ok (.lstore_n 3, 1) := by decide +kernel
theorem dX11_mixAll_37 : decode cX11_mixAll 37 = .ok (.aload_n 0, 1) := by decide +kernel
theorem dX11_mixAll_38 : decode cX11_mixAll 38 = .ok (.getfield 21, 3) := by decide +kernel
theorem dX11_mixAll_41 : decode cX11_mixAll 41 = .ok (.invokevirtual 186, 3) := by decide +kernel
theorem dX11_mixAll_44 : decode cX11_mixAll 44 = .ok (.iconst 0, 1) := by decide +kernel
theorem dX11_mixAll_45 : decode cX11_mixAll 45 = .ok (.istore 5, 2) := by decide +kernel
theorem dX11_mixAll_47 : decode cX11_mixAll 47 = .ok (.iload 5, 2) := by decide +kernel
theorem dX11_mixAll_49 : decode cX11_mixAll 49 = .ok (.bipush 8, 2) := by decide +kernel
theorem dX11_mixAll_51 : decode cX11_mixAll 51 = .ok (.if_icmp .ge 48, 3) := by decide +kernel
theorem dX11_mixAll_54 : decode cX11_mixAll 54 = .ok (.aload_n 0, 1) := by decide +kernel
theorem dX11_mixAll_55 : decode cX11_mixAll 55 = .ok (.getfield 21, 3) := by decide +kernel
theorem dX11_mixAll_58 : decode cX11_mixAll 58 = .ok (.iload 5, 2) := by decide +kernel
theorem dX11_mixAll_60 : decode cX11_mixAll 60 = .ok (.invokevirtual 189, 3) := by decide +kernel
theorem dX11_mixAll_63 : decode cX11_mixAll 63 = .ok (.ldc2_w 327, 3) := by decide +kernel
theorem dX11_mixAll_66 : decode cX11_mixAll 66 = .ok (.lload_n 3, 1) := by decide +kernel
theorem dX11_mixAll_67 : decode cX11_mixAll 67 = .ok (.lmul, 1) := by decide +kernel
theorem dX11_mixAll_68 : decode cX11_mixAll 68 = .ok (.aload_n 0, 1) := by decide +kernel
theorem dX11_mixAll_69 : decode cX11_mixAll 69 = .ok (.getfield 21, 3) := by decide +kernel
theorem dX11_mixAll_72 : decode cX11_mixAll 72 = .ok (.getfield 192, 3) := by decide +kernel
theorem dX11_mixAll_75 : decode cX11_mixAll 75 = .ok (.i2l, 1) := by decide +kernel
theorem dX11_mixAll_76 : decode cX11_mixAll 76 = .ok (.ladd, 1) := by decide +kernel
theorem dX11_mixAll_77 : decode cX11_mixAll 77 = .ok (.lstore_n 3, 1) := by decide +kernel
theorem dX11_mixAll_78 : decode cX11_mixAll 78 = .ok (.ldc2_w 327, 3) := by decide +kernel
theorem dX11_mixAll_81 : decode cX11_mixAll 81 = .ok (.lload_n 3, 1) := by decide +kernel
theorem dX11_mixAll_82 : decode cX11_mixAll 82 = .ok (.lmul, 1) := by decide +kernel
theorem dX11_mixAll_83 : decode cX11_mixAll 83 = .ok (.aload_n 0, 1) := by decide +kernel
theorem dX11_mixAll_84 : decode cX11_mixAll 84 = .ok (.getfield 21, 3) := by decide +kernel
theorem dX11_mixAll_87 : decode cX11_mixAll 87 = .ok (.getfield 195, 3) := by decide +kernel
theorem dX11_mixAll_90 : decode cX11_mixAll 90 = .ok (.i2l, 1) := by decide +kernel
theorem dX11_mixAll_91 : decode cX11_mixAll 91 = .ok (.ladd, 1) := by decide +kernel
theorem dX11_mixAll_92 : decode cX11_mixAll 92 = .ok (.lstore_n 3, 1) := by decide +kernel
theorem dX11_mixAll_93 : decode cX11_mixAll 93 = .ok (.iinc 5 1, 3) := by decide +kernel
theorem dX11_mixAll_96 : decode cX11_mixAll 96 = .ok (.goto (-49), 3) := by decide +kernel
theorem dX11_mixAll_99 : decode cX11_mixAll 99 = .ok (.ldc2_w 327, 3) := by decide +kernel
theorem dX11_mixAll_102 : decode cX11_mixAll 102 = .ok (.lload_n 3, 1) := by decide +kernel
theorem dX11_mixAll_103 : decode cX11_mixAll 103 = .ok (.lmul, 1) := by decide +kernel
theorem dX11_mixAll_104 : decode cX11_mixAll 104 = .ok (.aload_n 0, 1) := by decide +kernel
theorem dX11_mixAll_105 : decode cX11_mixAll 105 = .ok (.getfield 21, 3) := by decide +kernel
theorem dX11_mixAll_108 : decode cX11_mixAll 108 = .ok (.invokevirtual 198, 3) := by decide +kernel
theorem dX11_mixAll_111 : decode cX11_mixAll 111 = .ok (.i2l, 1) := by decide +kernel
theorem dX11_mixAll_112 : decode cX11_mixAll 112 = .ok (.ladd, 1) := by decide +kernel
theorem dX11_mixAll_113 : decode cX11_mixAll 113 = .ok (.lstore_n 3, 1) := by decide +kernel
theorem dX11_mixAll_114 : decode cX11_mixAll 114 = .ok (.ldc2_w 327, 3) := by decide +kernel
theorem dX11_mixAll_117 : decode cX11_mixAll 117 = .ok (.lload_n 3, 1) := by decide +kernel
theorem dX11_mixAll_118 : decode cX11_mixAll 118 = .ok (.lmul, 1) := by decide +kernel
theorem dX11_mixAll_119 : decode cX11_mixAll 119 = .ok (.aload_n 0, 1) := by decide +kernel
theorem dX11_mixAll_120 : decode cX11_mixAll 120 = .ok (.getfield 28, 3) := by decide +kernel
theorem dX11_mixAll_123 : decode cX11_mixAll 123 = .ok (.invokevirtual 232, 3) := by decide +kernel
theorem dX11_mixAll_126 : decode cX11_mixAll 126 = .ok (.i2l, 1) := by decide +kernel
theorem dX11_mixAll_127 : decode cX11_mixAll 127 = .ok (.ladd, 1) := by decide +kernel
theorem dX11_mixAll_128 : decode cX11_mixAll 128 = .ok (.lstore_n 3, 1) := by decide +kernel
theorem dX11_mixAll_129 : decode cX11_mixAll 129 = .ok (.ldc2_w 327, 3) := by decide +kernel
theorem dX11_mixAll_132 : decode cX11_mixAll 132 = .ok (.lload_n 3, 1) := by decide +kernel
theorem dX11_mixAll_133 : decode cX11_mixAll 133 = .ok (.lmul, 1) := by decide +kernel
theorem dX11_mixAll_134 : decode cX11_mixAll 134 = .ok (.aload_n 0, 1) := by decide +kernel
theorem dX11_mixAll_135 : decode cX11_mixAll 135 = .ok (.getfield 35, 3) := by decide +kernel
theorem dX11_mixAll_138 : decode cX11_mixAll 138 = .ok (.invokevirtual 238, 3) := by decide +kernel
theorem dX11_mixAll_141 : decode cX11_mixAll 141 = .ok (.i2l, 1) := by decide +kernel
theorem dX11_mixAll_142 : decode cX11_mixAll 142 = .ok (.ladd, 1) := by decide +kernel
theorem dX11_mixAll_143 : decode cX11_mixAll 143 = .ok (.lstore_n 3, 1) := by decide +kernel
theorem dX11_mixAll_144 : decode cX11_mixAll 144 = .ok (.aload_n 0, 1) := by decide +kernel
theorem dX11_mixAll_145 : decode cX11_mixAll 145 = .ok (.getfield 42, 3) := by decide +kernel
theorem dX11_mixAll_148 : decode cX11_mixAll 148 = .ok (.bipush 7, 2) := by decide +kernel
theorem dX11_mixAll_150 : decode cX11_mixAll 150 = .ok (.bipush 20, 2) := by decide +kernel
theorem dX11_mixAll_152 : decode cX11_mixAll 152 = .ok (.invokevirtual 263, 3) := by decide +kernel
theorem dX11_mixAll_155 : decode cX11_mixAll 155 = .ok (.ldc2_w 327, 3) := by decide +kernel
theorem dX11_mixAll_158 : decode cX11_mixAll 158 = .ok (.lload_n 3, 1) := by decide +kernel
theorem dX11_mixAll_159 : decode cX11_mixAll 159 = .ok (.lmul, 1) := by decide +kernel
theorem dX11_mixAll_160 : decode cX11_mixAll 160 = .ok (.aload_n 0, 1) := by decide +kernel
theorem dX11_mixAll_161 : decode cX11_mixAll 161 = .ok (.getfield 42, 3) := by decide +kernel
theorem dX11_mixAll_164 : decode cX11_mixAll 164 = .ok (.getfield 266, 3) := by decide +kernel
theorem dX11_mixAll_167 : decode cX11_mixAll 167 = .ok (.i2l, 1) := by decide +kernel
theorem dX11_mixAll_168 : decode cX11_mixAll 168 = .ok (.ladd, 1) := by decide +kernel
theorem dX11_mixAll_169 : decode cX11_mixAll 169 = .ok (.lstore_n 3, 1) := by decide +kernel
theorem dX11_mixAll_170 : decode cX11_mixAll 170 = .ok (.ldc2_w 327, 3) := by decide +kernel
theorem dX11_mixAll_173 : decode cX11_mixAll 173 = .ok (.lload_n 3, 1) := by decide +kernel
theorem dX11_mixAll_174 : decode cX11_mixAll 174 = .ok (.lmul, 1) := by decide +kernel
theorem dX11_mixAll_175 : decode cX11_mixAll 175 = .ok (.aload_n 0, 1) := by decide +kernel
theorem dX11_mixAll_176 : decode cX11_mixAll 176 = .ok (.getfield 42, 3) := by decide +kernel
theorem dX11_mixAll_179 : decode cX11_mixAll 179 = .ok (.getfield 269, 3) := by decide +kernel
theorem dX11_mixAll_182 : decode cX11_mixAll 182 = .ok (.i2l, 1) := by decide +kernel
theorem dX11_mixAll_183 : decode cX11_mixAll 183 = .ok (.ladd, 1) := by decide +kernel
theorem dX11_mixAll_184 : decode cX11_mixAll 184 = .ok (.lreturn, 1) := by decide +kernel
theorem dX11_isText_0 : decode cX11_isText 0 = .ok (.iload_n 0, 1) := by decide +kernel
theorem dX11_isText_1 : decode cX11_isText 1 = .ok (.ifCond .eq 8, 3) := by decide +kernel
theorem dX11_isText_4 : decode cX11_isText 4 = .ok (.iload_n 0, 1) := by decide +kernel
theorem dX11_isText_5 : decode cX11_isText 5 = .ok (.iconst 1, 1) := by decide +kernel
theorem dX11_isText_6 : decode cX11_isText 6 = .ok (.if_icmp .ne 7, 3) := by decide +kernel
theorem dX11_isText_9 : decode cX11_isText 9 = .ok (.iconst 1, 1) := by decide +kernel
theorem dX11_isText_10 : decode cX11_isText 10 = .ok (.goto 4, 3) := by decide +kernel
theorem dX11_isText_13 : decode cX11_isText 13 = .ok (.iconst 0, 1) := by decide +kernel
theorem dX11_isText_14 : decode cX11_isText 14 = .ok (.ireturn, 1) := by decide +kernel
theorem dX11_isNight_0 : decode cX11_isNight 0 = .ok (.iload_n 0, 1) := by decide +kernel
theorem dX11_isNight_1 : decode cX11_isNight 1 = .ok (.ifCond .lt 13, 3) := by decide +kernel
theorem dX11_isNight_4 : decode cX11_isNight 4 = .ok (.iload_n 0, 1) := by decide +kernel
theorem dX11_isNight_5 : decode cX11_isNight 5 = .ok (.bipush 30, 2) := by decide +kernel
theorem dX11_isNight_7 : decode cX11_isNight 7 = .ok (.if_icmp .ge 7, 3) := by decide +kernel
theorem dX11_isNight_10 : decode cX11_isNight 10 = .ok (.iconst 1, 1) := by decide +kernel
theorem dX11_isNight_11 : decode cX11_isNight 11 = .ok (.goto 4, 3) := by decide +kernel
theorem dX11_isNight_14 : decode cX11_isNight 14 = .ok (.iconst 0, 1) := by decide +kernel
theorem dX11_isNight_15 : decode cX11_isNight 15 = .ok (.ireturn, 1) := by decide +kernel
theorem dX11_isForm_0 : decode cX11_isForm 0 = .ok (.iload_n 0, 1) := by decide +kernel
theorem dX11_isForm_1 : decode cX11_isForm 1 = .ok (.ifCond .lt 12, 3) := by decide +kernel
theorem dX11_isForm_4 : decode cX11_isForm 4 = .ok (.iload_n 0, 1) := by decide +kernel
theorem dX11_isForm_5 : decode cX11_isForm 5 = .ok (.iconst 3, 1) := by decide +kernel
theorem dX11_isForm_6 : decode cX11_isForm 6 = .ok (.if_icmp .ge 7, 3) := by decide +kernel
theorem dX11_isForm_9 : decode cX11_isForm 9 = .ok (.iconst 1, 1) := by decide +kernel
theorem dX11_isForm_10 : decode cX11_isForm 10 = .ok (.goto 4, 3) := by decide +kernel
theorem dX11_isForm_13 : decode cX11_isForm 13 = .ok (.iconst 0, 1) := by decide +kernel
theorem dX11_isForm_14 : decode cX11_isForm 14 = .ok (.ireturn, 1) := by decide +kernel
theorem dX11_isSheet_0 : decode cX11_isSheet 0 = .ok (.iload_n 1, 1) := by decide +kernel
theorem dX11_isSheet_1 : decode cX11_isSheet 1 = .ok (.ifCond .lt 16, 3) := by decide +kernel
theorem dX11_isSheet_4 : decode cX11_isSheet 4 = .ok (.iload_n 1, 1) := by decide +kernel
theorem dX11_isSheet_5 : decode cX11_isSheet 5 = .ok (.aload_n 0, 1) := by decide +kernel
theorem dX11_isSheet_6 : decode cX11_isSheet 6 = .ok (.getfield 48, 3) := by decide +kernel
theorem dX11_isSheet_9 : decode cX11_isSheet 9 = .ok (.arraylength, 1) := by decide +kernel
theorem dX11_isSheet_10 : decode cX11_isSheet 10 = .ok (.if_icmp .ge 7, 3) := by decide +kernel
theorem dX11_isSheet_13 : decode cX11_isSheet 13 = .ok (.iconst 1, 1) := by decide +kernel
theorem dX11_isSheet_14 : decode cX11_isSheet 14 = .ok (.goto 4, 3) := by decide +kernel
theorem dX11_isSheet_17 : decode cX11_isSheet 17 = .ok (.iconst 0, 1) := by decide +kernel
theorem dX11_isSheet_18 : decode cX11_isSheet 18 = .ok (.ireturn, 1) := by decide +kernel
theorem dX11_addMark_0 : decode cX11_addMark 0 = .ok (.iload_n 1, 1) := by decide +kernel
theorem dX11_addMark_1 : decode cX11_addMark 1 = .ok (.invokestatic 111, 3) := by decide +kernel
theorem dX11_addMark_4 : decode cX11_addMark 4 = .ok (.ifCond .eq 13, 3) := by decide +kernel
theorem dX11_addMark_7 : decode cX11_addMark 7 = .ok (.iload_n 2, 1) := by decide +kernel
theorem dX11_addMark_8 : decode cX11_addMark 8 = .ok (.ifCond .lt 9, 3) := by decide +kernel
theorem dX11_addMark_11 : decode cX11_addMark 11 = .ok (.iload_n 2, 1) := by decide +kernel
theorem dX11_addMark_12 : decode cX11_addMark 12 = .ok (.bipush 8, 2) := by decide +kernel
theorem dX11_addMark_14 : decode cX11_addMark 14 = .ok (.if_icmp .lt 6, 3) := by decide +kernel
theorem dX11_addMark_17 : decode cX11_addMark 17 = .ok (.bipush (-2), 2) := by decide +kernel
theorem dX11_addMark_19 : decode cX11_addMark 19 = .ok (.ireturn, 1) := by decide +kernel
theorem dX11_addMark_20 : decode cX11_addMark 20 = .ok (.aload_n 0, 1) := by decide +kernel
theorem dX11_addMark_21 : decode cX11_addMark 21 = .ok (.invokevirtual 361, 3) := by decide +kernel
theorem dX11_addMark_24 : decode cX11_addMark 24 = .ok (.ifCond .eq 6, 3) := by decide +kernel
theorem dX11_addMark_27 : decode cX11_addMark 27 = .ok (.bipush (-4), 2) := by decide +kernel
theorem dX11_addMark_29 : decode cX11_addMark 29 = .ok (.ireturn, 1) := by decide +kernel
theorem dX11_addMark_30 : decode cX11_addMark 30 = .ok (.aload_n 0, 1) := by decide +kernel
theorem dX11_addMark_31 : decode cX11_addMark 31 = .ok (.iload_n 1, 1) := by decide +kernel
theorem dX11_addMark_32 : decode cX11_addMark 32 = .ok (.iload_n 2, 1) := by decide +kernel
theorem dX11_addMark_33 : decode cX11_addMark 33 = .ok (.iload_n 3, 1) := by decide +kernel
theorem dX11_addMark_34 : decode cX11_addMark 34 = .ok (.invokevirtual 362, 3) := by decide +kernel
theorem dX11_addMark_37 : decode cX11_addMark 37 = .ok (.aload_n 0, 1) := by decide +kernel
theorem dX11_addMark_38 : decode cX11_addMark 38 = .ok (.getfield 134, 3) := by decide +kernel
theorem dX11_addMark_41 : decode cX11_addMark 41 = .ok (.ireturn, 1) := by decide +kernel
theorem dX11_found_0 : decode cX11_found 0 = .ok (.aload_n 0, 1) := by decide +kernel
theorem dX11_found_1 : decode cX11_found 1 = .ok (.iload_n 1, 1) := by decide +kernel
theorem dX11_found_2 : decode cX11_found 2 = .ok (.putfield 322, 3) := by decide +kernel
theorem dX11_found_5 : decode cX11_found 5 = .ok (.bipush (-10), 2) := by decide +kernel
theorem dX11_found_7 : decode cX11_found 7 = .ok (.iload_n 1, 1) := by decide +kernel
theorem dX11_found_8 : decode cX11_found 8 = .ok (.isub, 1) := by decide +kernel
theorem dX11_found_9 : decode cX11_found 9 = .ok (.ireturn, 1) := by decide +kernel
theorem dX11_findingAt_0 : decode cX11_findingAt 0 = .ok (.aload_n 0, 1) := by decide +kernel
theorem dX11_findingAt_1 : decode cX11_findingAt 1 = .ok (.getfield 142, 3) := by decide +kernel
theorem dX11_findingAt_4 : decode cX11_findingAt 4 = .ok (.ifCond .eq 5, 3) := by decide +kernel
theorem dX11_findingAt_7 : decode cX11_findingAt 7 = .ok (.iconst 1, 1) := by decide +kernel
theorem dX11_findingAt_8 : decode cX11_findingAt 8 = .ok (.ireturn, 1) := by decide +kernel
theorem dX11_findingAt_9 : decode cX11_findingAt 9 = .ok (.aload_n 0, 1) := by decide +kernel
theorem dX11_findingAt_10 : decode cX11_findingAt 10 = .ok (.getfield 286, 3) := by decide +kernel
theorem dX11_findingAt_13 : decode cX11_findingAt 13 = .ok (.iload_n 1, 1) := by decide +kernel
theorem dX11_findingAt_14 : decode cX11_findingAt 14 = .ok (.if_icmp .eq 5, 3) := by decide +kernel
theorem dX11_findingAt_17 : decode cX11_findingAt 17 = .ok (.iconst 3, 1) := by decide +kernel
theorem dX11_findingAt_18 : decode cX11_findingAt 18 = .ok (.ireturn, 1) := by decide +kernel
theorem dX11_findingAt_19 : decode cX11_findingAt 19 = .ok (.iload_n 2, 1) := by decide +kernel
theorem dX11_findingAt_20 : decode cX11_findingAt 20 = .ok (.ifCond .lt 11, 3) := by decide +kernel
theorem dX11_findingAt_23 : decode cX11_findingAt 23 = .ok (.iload_n 2, 1) := by decide +kernel
theorem dX11_findingAt_24 : decode cX11_findingAt 24 = .ok (.aload_n 0, 1) := by decide +kernel
theorem dX11_findingAt_25 : decode cX11_findingAt 25 = .ok (.getfield 149, 3) := by decide +kernel
theorem dX11_findingAt_28 : decode cX11_findingAt 28 = .ok (.if_icmp .lt 7, 3) := by decide +kernel
theorem dX11_findingAt_31 : decode cX11_findingAt 31 = .ok (.iconst 2, 1) := by decide +kernel
theorem dX11_findingAt_32 : decode cX11_findingAt 32 = .ok (.goto 4, 3) := by decide +kernel
theorem dX11_findingAt_35 : decode cX11_findingAt 35 = .ok (.iconst 0, 1) := by decide +kernel
theorem dX11_findingAt_36 : decode cX11_findingAt 36 = .ok (.ireturn, 1) := by decide +kernel
theorem dX11_itemOr_0 : decode cX11_itemOr 0 = .ok (.iload_n 1, 1) := by decide +kernel
theorem dX11_itemOr_1 : decode cX11_itemOr 1 = .ok (.ifCond .lt 15, 3) := by decide +kernel
theorem dX11_itemOr_4 : decode cX11_itemOr 4 = .ok (.iload_n 1, 1) := by decide +kernel
theorem dX11_itemOr_5 : decode cX11_itemOr 5 = .ok (.aload_n 0, 1) := by decide +kernel
theorem dX11_itemOr_6 : decode cX11_itemOr 6 = .ok (.arraylength, 1) := by decide +kernel
theorem dX11_itemOr_7 : decode cX11_itemOr 7 = .ok (.if_icmp .ge 9, 3) := by decide +kernel
theorem dX11_itemOr_10 : decode cX11_itemOr 10 = .ok (.aload_n 0, 1) := by decide +kernel
theorem dX11_itemOr_11 : decode cX11_itemOr 11 = .ok (.iload_n 1, 1) := by decide +kernel
theorem dX11_itemOr_12 : decode cX11_itemOr 12 = .ok (.iaload, 1) := by decide +kernel
theorem dX11_itemOr_13 : decode cX11_itemOr 13 = .ok (.goto 4, 3) := by decide +kernel
theorem dX11_itemOr_16 : decode cX11_itemOr 16 = .ok (.iload_n 2, 1) := by decide +kernel
theorem dX11_itemOr_17 : decode cX11_itemOr 17 = .ok (.ireturn, 1) := by decide +kernel
theorem dX11_isOn_0 : decode cX11_isOn 0 = .ok (.iload_n 1, 1) := by decide +kernel
theorem dX11_isOn_1 : decode cX11_isOn 1 = .ok (.ifCond .lt 21, 3) := by decide +kernel
theorem dX11_isOn_4 : decode cX11_isOn 4 = .ok (.iload_n 1, 1) := by decide +kernel
theorem dX11_isOn_5 : decode cX11_isOn 5 = .ok (.bipush 31, 2) := by decide +kernel
theorem dX11_isOn_7 : decode cX11_isOn 7 = .ok (.if_icmp .ge 15, 3) := by decide +kernel
theorem dX11_isOn_10 : decode cX11_isOn 10 = .ok (.iload_n 0, 1) := by decide +kernel
theorem dX11_isOn_11 : decode cX11_isOn 11 = .ok (.iload_n 1, 1) := by decide +kernel
theorem dX11_isOn_12 : decode cX11_isOn 12 = .ok (.ishr, 1) := by decide +kernel
theorem dX11_isOn_13 : decode cX11_isOn 13 = .ok (.iconst 1, 1) := by decide +kernel
theorem dX11_isOn_14 : decode cX11_isOn 14 = .ok (.iand, 1) := by decide +kernel
theorem dX11_isOn_15 : decode cX11_isOn 15 = .ok (.ifCond .eq 7, 3) := by decide +kernel
theorem dX11_isOn_18 : decode cX11_isOn 18 = .ok (.iconst 1, 1) := by decide +kernel
theorem dX11_isOn_19 : decode cX11_isOn 19 = .ok (.goto 4, 3) := by decide +kernel
theorem dX11_isOn_22 : decode cX11_isOn 22 = .ok (.iconst 0, 1) := by decide +kernel
theorem dX11_isOn_23 : decode cX11_isOn 23 = .ok (.ireturn, 1) := by decide +kernel
end
section
theorem dX12_init_0 : decode cX12_init 0 = .ok (.aload_n 0, 1) := by decide +kernel
theorem dX12_init_1 : decode cX12_init 1 = .ok (.invokespecial 1, 3) := by decide +kernel
theorem dX12_init_4 : decode cX12_init 4 = .ok (.aload_n 0, 1) := by decide +kernel
theorem dX12_init_5 : decode cX12_init 5 = .ok (.iconst 2, 1) := by decide +kernel
theorem dX12_init_6 : decode cX12_init 6 = .ok (.newarray .int, 2) := by decide +kernel
theorem dX12_init_8 : decode cX12_init 8 = .ok (.putfield 7, 3) := by decide +kernel
theorem dX12_init_11 : decode cX12_init 11 = .ok (.aload_n 0, 1) := by decide +kernel
theorem dX12_init_12 : decode cX12_init 12 = .ok (.sipush 142, 3) := by decide +kernel
theorem dX12_init_15 : decode cX12_init 15 = .ok (.newarray .int, 2) := by decide +kernel
theorem dX12_init_17 : decode cX12_init 17 = .ok (.putfield 13, 3) := by decide +kernel
theorem dX12_init_20 : decode cX12_init 20 = .ok (.aload_n 0, 1) := by decide +kernel
theorem dX12_init_21 : decode cX12_init 21 = .ok (.bipush 9, 2) := by decide +kernel
theorem dX12_init_23 : decode cX12_init 23 = .ok (.newarray .int, 2) := by decide +kernel
theorem dX12_init_25 : decode cX12_init 25 = .ok (.putfield 16, 3) := by decide +kernel
theorem dX12_init_28 : decode cX12_init 28 = .ok (.aload_n 0, 1) := by decide +kernel
theorem dX12_init_29 : decode cX12_init 29 = .ok (.bipush 9, 2) := by decide +kernel
theorem dX12_init_31 : decode cX12_init 31 = .ok (.newarray .int, 2) := by decide +kernel
theorem dX12_init_33 : decode cX12_init 33 = .ok (.putfield 19, 3) := by decide +kernel
theorem dX12_init_36 : decode cX12_init 36 = .ok (.aload_n 0, 1) := by decide +kernel
theorem dX12_init_37 : decode cX12_init 37 = .ok (.bipush 9, 2) := by decide +kernel
theorem dX12_init_39 : decode cX12_init 39 = .ok (.newarray .int, 2) := by decide +kernel
theorem dX12_init_41 : decode cX12_init 41 = .ok (.putfield 22, 3) := by decide +kernel
theorem dX12_init_44 : decode cX12_init 44 = .ok (.aload_n 0, 1) := by decide +kernel
theorem dX12_init_45 : decode cX12_init 45 = .ok (.bipush 45, 2) := by decide +kernel
theorem dX12_init_47 : decode cX12_init 47 = .ok (.newarray .int, 2) := by decide +kernel
theorem dX12_init_49 : decode cX12_init 49 = .ok (.putfield 25, 3) := by decide +kernel
theorem dX12_init_52 : decode cX12_init 52 = .ok (.aload_n 0, 1) := by decide +kernel
theorem dX12_init_53 : decode cX12_init 53 = .ok (.bipush 30, 2) := by decide +kernel
theorem dX12_init_55 : decode cX12_init 55 = .ok (.newarray .int, 2) := by decide +kernel
theorem dX12_init_57 : decode cX12_init 57 = .ok (.putfield 28, 3) := by decide +kernel
theorem dX12_init_60 : decode cX12_init 60 = .ok (.aload_n 0, 1) := by decide +kernel
theorem dX12_init_61 : decode cX12_init 61 = .ok (.bipush 8, 2) := by decide +kernel
theorem dX12_init_63 : decode cX12_init 63 = .ok (.newarray .int, 2) := by decide +kernel
theorem dX12_init_65 : decode cX12_init 65 = .ok (.putfield 31, 3) := by decide +kernel
theorem dX12_init_68 : decode cX12_init 68 = .ok (.aload_n 0, 1) := by decide +kernel
theorem dX12_init_69 : decode cX12_init 69 = .ok (.bipush 8, 2) := by decide +kernel
theorem dX12_init_71 : decode cX12_init 71 = .ok (.newarray .int, 2) := by decide +kernel
theorem dX12_init_73 : decode cX12_init 73 = .ok (.putfield 34, 3) := by decide +kernel
theorem dX12_init_76 : decode cX12_init 76 = .ok (.aload_n 0, 1) := by decide +kernel
theorem dX12_init_77 : decode cX12_init 77 = .ok (.iconst 4, 1) := by decide +kernel
theorem dX12_init_78 : decode cX12_init 78 = .ok (.newarray .int, 2) := by decide +kernel
theorem dX12_init_80 : decode cX12_init 80 = .ok (.putfield 37, 3) := by decide +kernel
theorem dX12_init_83 : decode cX12_init 83 = .ok (.aload_n 0, 1) := by decide +kernel
theorem dX12_init_84 : decode cX12_init 84 = .ok (.iconst 4, 1) := by decide +kernel
theorem dX12_init_85 : decode cX12_init 85 = .ok (.newarray .int, 2) := by decide +kernel
theorem dX12_init_87 : decode cX12_init 87 = .ok (.putfield 40, 3) := by decide +kernel
theorem dX12_init_90 : decode cX12_init 90 = .ok (.aload_n 0, 1) := by decide +kernel
theorem dX12_init_91 : decode cX12_init 91 = .ok (.bipush 30, 2) := by decide +kernel
theorem dX12_init_93 : decode cX12_init 93 = .ok (.newarray .int, 2) := by decide +kernel
theorem dX12_init_95 : decode cX12_init 95 = .ok (.putfield 43, 3) := by decide +kernel
theorem dX12_init_98 : decode cX12_init 98 = .ok (.aload_n 0, 1) := by decide +kernel
theorem dX12_init_99 : decode cX12_init 99 = .ok (.bipush 30, 2) := by decide +kernel
theorem dX12_init_101 : decode cX12_init 101 = .ok (.newarray .int, 2) := by decide +kernel
theorem dX12_init_103 : decode cX12_init 103 = .ok (.putfield 46, 3) := by decide +kernel
theorem dX12_init_106 : decode cX12_init 106 = .ok (.aload_n 0, 1) := by decide +kernel
theorem dX12_init_107 : decode cX12_init 107 = .ok (.bipush 30, 2) := by decide +kernel
theorem dX12_init_109 : decode cX12_init 109 = .ok (.newarray .int, 2) := by decide +kernel
theorem dX12_init_111 : decode cX12_init 111 = .ok (.putfield 49, 3) := by decide +kernel
theorem dX12_init_114 : decode cX12_init 114 = .ok (.aload_n 0, 1) := by decide +kernel
theorem dX12_init_115 : decode cX12_init 115 = .ok (.bipush 30, 2) := by decide +kernel
theorem dX12_init_117 : decode cX12_init 117 = .ok (.newarray .int, 2) := by decide +kernel
theorem dX12_init_119 : decode cX12_init 119 = .ok (.putfield 52, 3) := by decide +kernel
theorem dX12_init_122 : decode cX12_init 122 = .ok (.aload_n 0, 1) := by decide +kernel
theorem dX12_init_123 : decode cX12_init 123 = .ok (.bipush 30, 2) := by decide +kernel
theorem dX12_init_125 : decode cX12_init 125 = .ok (.newarray .int, 2) := by decide +kernel
theorem dX12_init_127 : decode cX12_init 127 = .ok (.putfield 55, 3) := by decide +kernel
theorem dX12_init_130 : decode cX12_init 130 = .ok (.aload_n 0, 1) := by decide +kernel
theorem dX12_init_131 : decode cX12_init 131 = .ok (.iconst 2, 1) := by decide +kernel
theorem dX12_init_132 : decode cX12_init 132 = .ok (.newarray .int, 2) := by decide +kernel
theorem dX12_init_134 : decode cX12_init 134 = .ok (.putfield 58, 3) := by decide +kernel
theorem dX12_init_137 : decode cX12_init 137 = .ok (.aload_n 0, 1) := by decide +kernel
theorem dX12_init_138 : decode cX12_init 138 = .ok (.sipush 240, 3) := by decide +kernel
theorem dX12_init_141 : decode cX12_init 141 = .ok (.newarray .int, 2) := by decide +kernel
theorem dX12_init_143 : decode cX12_init 143 = .ok (.putfield 61, 3) := by decide +kernel
theorem dX12_init_146 : decode cX12_init 146 = .ok (.aload_n 0, 1) := by decide +kernel
theorem dX12_init_147 : decode cX12_init 147 = .ok (.sipush 256, 3) := by decide +kernel
theorem dX12_init_150 : decode cX12_init 150 = .ok (.newarray .int, 2) := by decide +kernel
theorem dX12_init_152 : decode cX12_init 152 = .ok (.putfield 64, 3) := by decide +kernel
theorem dX12_init_155 : decode cX12_init 155 = .ok (.aload_n 0, 1) := by decide +kernel
theorem dX12_init_156 : decode cX12_init 156 = .ok (.bipush 8, 2) := by decide +kernel
theorem dX12_init_158 : decode cX12_init 158 = .ok (.newarray .int, 2) := by decide +kernel
theorem dX12_init_160 : decode cX12_init 160 = .ok (.putfield 67, 3) := by decide +kernel
theorem dX12_init_163 : decode cX12_init 163 = .ok (.aload_n 0, 1) := by decide +kernel
theorem dX12_init_164 : decode cX12_init 164 = .ok (.bipush 8, 2) := by decide +kernel
theorem dX12_init_166 : decode cX12_init 166 = .ok (.newarray .int, 2) := by decide +kernel
theorem dX12_init_168 : decode cX12_init 168 = .ok (.putfield 70, 3) := by decide +kernel
theorem dX12_init_171 : decode cX12_init 171 = .ok (.aload_n 0, 1) := by decide +kernel
theorem dX12_init_172 : decode cX12_init 172 = .ok (.bipush 8, 2) := by decide +kernel
theorem dX12_init_174 : decode cX12_init 174 = .ok (.newarray .int, 2) := by decide +kernel
theorem dX12_init_176 : decode cX12_init 176 = .ok (.putfield 73, 3) := by decide +kernel
theorem dX12_init_179 : decode cX12_init 179 = .ok (.aload_n 0, 1) := by decide +kernel
theorem dX12_init_180 : decode cX12_init 180 = .ok (.sipush 600, 3) := by decide +kernel
theorem dX12_init_183 : decode cX12_init 183 = .ok (.newarray .int, 2) := by decide +kernel
theorem dX12_init_185 : decode cX12_init 185 = .ok (.putfield 76, 3) := by decide +kernel
theorem dX12_init_188 : decode cX12_init 188 = .ok (.aload_n 0, 1) := by decide +kernel
theorem dX12_init_189 : decode cX12_init 189 = .ok (.iconst 4, 1) := by decide +kernel
theorem dX12_init_190 : decode cX12_init 190 = .ok (.newarray .boolean, 2) := by decide +kernel
theorem dX12_init_192 : decode cX12_init 192 = .ok (.putfield 79, 3) := by decide +kernel
theorem dX12_init_195 : decode cX12_init 195 = .ok (.aload_n 0, 1) := by decide +kernel
theorem dX12_init_196 : decode cX12_init 196 = .ok (.iconst 4, 1) := by decide +kernel
theorem dX12_init_197 : decode cX12_init 197 = .ok (.newarray .int, 2) := by decide +kernel
theorem dX12_init_199 : decode cX12_init 199 = .ok (.putfield 83, 3) := by decide +kernel
theorem dX12_init_202 : decode cX12_init 202 = .ok (.aload_n 0, 1) := by decide +kernel
theorem dX12_init_203 : decode cX12_init 203 = .ok (.iconst 4, 1) := by decide +kernel
theorem dX12_init_204 : decode cX12_init 204 = .ok (.newarray .int, 2) := by decide +kernel
theorem dX12_init_206 : decode cX12_init 206 = .ok (.putfield 86, 3) := by decide +kernel
theorem dX12_init_209 : decode cX12_init 209 = .ok (.aload_n 0, 1) := by decide +kernel
theorem dX12_init_210 : decode cX12_init 210 = .ok (.sipush 240, 3) := by decide +kernel
theorem dX12_init_213 : decode cX12_init 213 = .ok (.newarray .int, 2) := by decide +kernel
theorem dX12_init_215 : decode cX12_init 215 = .ok (.putfield 89, 3) := by decide +kernel
theorem dX12_init_218 : decode cX12_init 218 = .ok (.aload_n 0, 1) := by decide +kernel
theorem dX12_init_219 : decode cX12_init 219 = .ok (.bipush 60, 2) := by decide +kernel
theorem dX12_init_221 : decode cX12_init 221 = .ok (.newarray .int, 2) := by decide +kernel
theorem dX12_init_223 : decode cX12_init 223 = .ok (.putfield 92, 3) := by decide +kernel
theorem dX12_init_226 : decode cX12_init 226 = .ok (.aload_n 0, 1) := by decide +kernel
theorem dX12_init_227 : decode cX12_init 227 = .ok (.bipush 8, 2) := by decide +kernel
theorem dX12_init_229 : decode cX12_init 229 = .ok (.putfield 95, 3) := by decide +kernel
theorem dX12_init_232 : decode cX12_init 232 = .ok (.aload_n 0, 1) := by decide +kernel
theorem dX12_init_233 : decode cX12_init 233 = .ok (.bipush 7, 2) := by decide +kernel
theorem dX12_init_235 : decode cX12_init 235 = .ok (.putfield 99, 3) := by decide +kernel
theorem dX12_init_238 : decode cX12_init 238 = .ok (.return_, 1) := by decide +kernel
theorem dX12_in_0 : decode cX12_in 0 = .ok (.iload_n 0, 1) := by decide +kernel
theorem dX12_in_1 : decode cX12_in 1 = .ok (.iload_n 1, 1) := by decide +kernel
theorem dX12_in_2 : decode cX12_in 2 = .ok (.if_icmp .lt 12, 3) := by decide +kernel
theorem dX12_in_5 : decode cX12_in 5 = .ok (.iload_n 0, 1) := by decide +kernel
theorem dX12_in_6 : decode cX12_in 6 = .ok (.iload_n 2, 1) := by decide +kernel
theorem dX12_in_7 : decode cX12_in 7 = .ok (.if_icmp .gt 7, 3) := by decide +kernel
theorem dX12_in_10 : decode cX12_in 10 = .ok (.iconst 1, 1) := by decide +kernel
theorem dX12_in_11 : decode cX12_in 11 = .ok (.goto 4, 3) := by decide +kernel
theorem dX12_in_14 : decode cX12_in 14 = .ok (.iconst 0, 1) := by decide +kernel
theorem dX12_in_15 : decode cX12_in 15 = .ok (.ireturn, 1) := by decide +kernel
theorem dX12_isIn_0 : decode cX12_isIn 0 = .ok (.iload_n 0, 1) := by decide +kernel
theorem dX12_isIn_1 : decode cX12_isIn 1 = .ok (.iload_n 1, 1) := by decide +kernel
theorem dX12_isIn_2 : decode cX12_isIn 2 = .ok (.ishr, 1) := by decide +kernel
theorem dX12_isIn_3 : decode cX12_isIn 3 = .ok (.iconst 1, 1) := by decide +kernel
theorem dX12_isIn_4 : decode cX12_isIn 4 = .ok (.iand, 1) := by decide +kernel
theorem dX12_isIn_5 : decode cX12_isIn 5 = .ok (.iconst 1, 1) := by decide +kernel
theorem dX12_isIn_6 : decode cX12_isIn 6 = .ok (.if_icmp .ne 7, 3) := by decide +kernel
theorem dX12_isIn_9 : decode cX12_isIn 9 = .ok (.iconst 1, 1) := by decide +kernel
theorem dX12_isIn_10 : decode cX12_isIn 10 = .ok (.goto 4, 3) := by decide +kernel
theorem dX12_isIn_13 : decode cX12_isIn 13 = .ok (.iconst 0, 1) := by decide +kernel
theorem dX12_isIn_14 : decode cX12_isIn 14 = .ok (.ireturn, 1) := by decide +kernel
theorem dX12_no_0 : decode cX12_no 0 = .ok (.ldc2_w 102, 3) := by decide +kernel
theorem dX12_no_3 : decode cX12_no 3 = .ok (.iload_n 0, 1) := by decide +kernel
theorem dX12_no_4 : decode cX12_no 4 = .ok (.i2l, 1) := by decide +kernel
theorem dX12_no_5 : decode cX12_no 5 = .ok (.lsub, 1) := by decide +kernel
theorem dX12_no_6 : decode cX12_no 6 = .ok (.lreturn, 1) := by decide +kernel
theorem dX12_lowest_0 : decode cX12_lowest 0 = .ok (.lload_n 0, 1) := by decide +kernel
theorem dX12_lowest_1 : decode cX12_lowest 1 = .ok (.lstore 5, 2) := by decide +kernel
theorem dX12_lowest_3 : decode cX12_lowest 3 = .ok (.lload_n 2, 1) := by decide +kernel
theorem dX12_lowest_4 : decode cX12_lowest 4 = .ok (.lstore 7, 2) := by decide +kernel
theorem dX12_lowest_6 : decode cX12_lowest 6 = .ok (.lload 7, 2) := by decide +kernel
theorem dX12_lowest_8 : decode cX12_lowest 8 = .ok (.lconst 0, 1) := by decide +kernel
theorem dX12_lowest_9 : decode cX12_lowest 9 = .ok (.lcmp, 1) := by decide +kernel
theorem dX12_lowest_10 : decode cX12_lowest 10 = .ok (.ifCond .eq 21, 3) := by decide +kernel
theorem dX12_lowest_13 : decode cX12_lowest 13 = .ok (.lload 5, 2) := by decide +kernel
theorem dX12_lowest_15 : decode cX12_lowest 15 = .ok (.lload 7, 2) := by decide +kernel
theorem dX12_lowest_17 : decode cX12_lowest 17 = .ok (.lrem, 1) := by decide +kernel
theorem dX12_lowest_18 : decode cX12_lowest 18 = .ok (.lstore 9, 2) := by decide +kernel
theorem dX12_lowest_20 : decode cX12_lowest 20 = .ok (.lload 7, 2) := by decide +kernel
theorem dX12_lowest_22 : decode cX12_lowest 22 = .ok (.lstore 5, 2) := by decide +kernel
theorem dX12_lowest_24 : decode cX12_lowest 24 = .ok (.lload 9, 2) := by decide +kernel
theorem dX12_lowest_26 : decode cX12_lowest 26 = .ok (.lstore 7, 2) := by decide +kernel
theorem dX12_lowest_28 : decode cX12_lowest 28 = .ok (.goto (-22), 3) := by decide +kernel
theorem dX12_lowest_31 : decode cX12_lowest 31 = .ok (.iload 4, 2) := by decide +kernel
theorem dX12_lowest_33 : decode cX12_lowest 33 = .ok (.ifCond .ne 10, 3) := by decide +kernel
theorem dX12_lowest_36 : decode cX12_lowest 36 = .ok (.lload_n 0, 1) := by decide +kernel
theorem dX12_lowest_37 : decode cX12_lowest 37 = .ok (.lload 5, 2) := by decide +kernel
theorem dX12_lowest_39 : decode cX12_lowest 39 = .ok (.ldiv, 1) := by decide +kernel
theorem dX12_lowest_40 : decode cX12_lowest 40 = .ok (.goto 7, 3) := by decide +kernel
theorem dX12_lowest_43 : decode cX12_lowest 43 = .ok (.lload_n 2, 1) := by decide +kernel
theorem dX12_lowest_44 : decode cX12_lowest 44 = .ok (.lload 5, 2) := by decide +kernel
theorem dX12_lowest_46 : decode cX12_lowest 46 = .ok (.ldiv, 1) := by decide +kernel
theorem dX12_lowest_47 : decode cX12_lowest 47 = .ok (.lreturn, 1) := by decide +kernel
theorem dX12_isText_0 : decode cX12_isText 0 = .ok (.iload_n 0, 1) := by decide +kernel
theorem dX12_isText_1 : decode cX12_isText 1 = .ok (.iconst 0, 1) := by decide +kernel
theorem dX12_isText_2 : decode cX12_isText 2 = .ok (.iconst 1, 1) := by decide +kernel
theorem dX12_isText_3 : decode cX12_isText 3 = .ok (.invokestatic 104, 3) := by decide +kernel
theorem dX12_isText_6 : decode cX12_isText 6 = .ok (.ireturn, 1) := by decide +kernel
theorem dX12_isNight_0 : decode cX12_isNight 0 = .ok (.iload_n 0, 1) := by decide +kernel
theorem dX12_isNight_1 : decode cX12_isNight 1 = .ok (.iconst 0, 1) := by decide +kernel
theorem dX12_isNight_2 : decode cX12_isNight 2 = .ok (.bipush 29, 2) := by decide +kernel
theorem dX12_isNight_4 : decode cX12_isNight 4 = .ok (.invokestatic 104, 3) := by decide +kernel
theorem dX12_isNight_7 : decode cX12_isNight 7 = .ok (.ireturn, 1) := by decide +kernel
theorem dX12_type_0 : decode cX12_type 0 = .ok (.iload_n 1, 1) := by decide +kernel
theorem dX12_type_1 : decode cX12_type 1 = .ok (.invokestatic 108, 3) := by decide +kernel
theorem dX12_type_4 : decode cX12_type 4 = .ok (.ifCond .eq 14, 3) := by decide +kernel
theorem dX12_type_7 : decode cX12_type 7 = .ok (.iload_n 2, 1) := by decide +kernel
theorem dX12_type_8 : decode cX12_type 8 = .ok (.iconst 0, 1) := by decide +kernel
theorem dX12_type_9 : decode cX12_type 9 = .ok (.sipush 255, 3) := by decide +kernel
theorem dX12_type_12 : decode cX12_type 12 = .ok (.invokestatic 104, 3) := by decide +kernel
theorem dX12_type_15 : decode cX12_type 15 = .ok (.ifCond .ne 6, 3) := by decide +kernel
theorem dX12_type_18 : decode cX12_type 18 = .ok (.bipush (-2), 2) := by decide +kernel
theorem dX12_type_20 : decode cX12_type 20 = .ok (.ireturn, 1) := by decide +kernel
theorem dX12_type_21 : decode cX12_type 21 = .ok (.aload_n 0, 1) := by decide +kernel
theorem dX12_type_22 : decode cX12_type 22 = .ok (.getfield 7, 3) := by decide +kernel
theorem dX12_type_25 : decode cX12_type 25 = .ok (.iload_n 1, 1) := by decide +kernel
theorem dX12_type_26 : decode cX12_type 26 = .ok (.iaload, 1) := by decide +kernel
theorem dX12_type_27 : decode cX12_type 27 = .ok (.iload_n 1, 1) := by decide +kernel
theorem dX12_type_28 : decode cX12_type 28 = .ok (.ifCond .ne 8, 3) := by decide +kernel
theorem dX12_type_31 : decode cX12_type 31 = .ok (.bipush 71, 2) := by decide +kernel
theorem dX12_type_33 : decode cX12_type 33 = .ok (.goto 5, 3) := by decide +kernel
theorem dX12_type_36 : decode cX12_type 36 = .ok (.bipush 30, 2) := by decide +kernel
theorem dX12_type_38 : decode cX12_type 38 = .ok (.if_icmp .ne 6, 3) := by decide +kernel
theorem dX12_type_41 : decode cX12_type 41 = .ok (.bipush (-4), 2) := by decide +kernel
theorem dX12_type_43 : decode cX12_type 43 = .ok (.ireturn, 1) := by decide +kernel
theorem dX12_type_44 : decode cX12_type 44 = .ok (.aload_n 0, 1) := by decide +kernel
theorem dX12_type_45 : decode cX12_type 45 = .ok (.getfield 13, 3) := by decide +kernel
theorem dX12_type_48 : decode cX12_type 48 = .ok (.bipush 71, 2) := by decide +kernel
theorem dX12_type_50 : decode cX12_type 50 = .ok (.iload_n 1, 1) := by decide +kernel
theorem dX12_type_51 : decode cX12_type 51 = .ok (.imul, 1) := by decide +kernel
theorem dX12_type_52 : decode cX12_type 52 = .ok (.aload_n 0, 1) := by decide +kernel
theorem dX12_type_53 : decode cX12_type 53 = .ok (.getfield 7, 3) := by decide +kernel
theorem dX12_type_56 : decode cX12_type 56 = .ok (.iload_n 1, 1) := by decide +kernel
theorem dX12_type_57 : decode cX12_type 57 = .ok (.iaload, 1) := by decide +kernel
theorem dX12_type_58 : decode cX12_type 58 = .ok (.iadd, 1) := by decide +kernel
theorem dX12_type_59 : decode cX12_type 59 = .ok (.iload_n 2, 1) := by decide +kernel
theorem dX12_type_60 : decode cX12_type 60 = .ok (.iastore, 1) := by decide +kernel
theorem dX12_type_61 : decode cX12_type 61 = .ok (.aload_n 0, 1) := by decide +kernel
theorem dX12_type_62 : decode cX12_type 62 = .ok (.getfield 7, 3) := by decide +kernel
theorem dX12_type_65 : decode cX12_type 65 = .ok (.iload_n 1, 1) := by decide +kernel
theorem dX12_type_66 : decode cX12_type 66 = .ok (.dup2, 1) := by decide +kernel
theorem dX12_type_67 : decode cX12_type 67 = .ok (.iaload, 1) := by decide +kernel
theorem dX12_type_68 : decode cX12_type 68 = .ok (.iconst 1, 1) := by decide +kernel
theorem dX12_type_69 : decode cX12_type 69 = .ok (.iadd, 1) := by decide +kernel
theorem dX12_type_70 : decode cX12_type 70 = .ok (.iastore, 1) := by decide +kernel
theorem dX12_type_71 : decode cX12_type 71 = .ok (.aload_n 0, 1) := by decide +kernel
theorem dX12_type_72 : decode cX12_type 72 = .ok (.getfield 7, 3) := by decide +kernel
theorem dX12_type_75 : decode cX12_type 75 = .ok (.iload_n 1, 1) := by decide +kernel
theorem dX12_type_76 : decode cX12_type 76 = .ok (.iaload, 1) := by decide +kernel
theorem dX12_type_77 : decode cX12_type 77 = .ok (.ireturn, 1) := by decide +kernel
theorem dX12_wipe_0 : decode cX12_wipe 0 = .ok (.iload_n 1, 1) := by decide +kernel
theorem dX12_wipe_1 : decode cX12_wipe 1 = .ok (.invokestatic 108, 3) := by decide +kernel
theorem dX12_wipe_4 : decode cX12_wipe 4 = .ok (.ifCond .ne 6, 3) := by decide +kernel
theorem dX12_wipe_7 : decode cX12_wipe 7 = .ok (.bipush (-2), 2) := by decide +kernel
theorem dX12_wipe_9 : decode cX12_wipe 9 = .ok (.ireturn, 1) := by decide +kernel
theorem dX12_wipe_10 : decode cX12_wipe 10 = .ok (.aload_n 0, 1) := by decide +kernel
theorem dX12_wipe_11 : decode cX12_wipe 11 = .ok (.getfield 7, 3) := by decide +kernel
theorem dX12_wipe_14 : decode cX12_wipe 14 = .ok (.iload_n 1, 1) := by decide +kernel
theorem dX12_wipe_15 : decode cX12_wipe 15 = .ok (.iaload, 1) := by decide +kernel
theorem dX12_wipe_16 : decode cX12_wipe 16 = .ok (.istore_n 2, 1) := by decide +kernel
theorem dX12_wipe_17 : decode cX12_wipe 17 = .ok (.aload_n 0, 1) := by decide +kernel
theorem dX12_wipe_18 : decode cX12_wipe 18 = .ok (.getfield 7, 3) := by decide +kernel
theorem dX12_wipe_21 : decode cX12_wipe 21 = .ok (.iload_n 1, 1) := by decide +kernel
theorem dX12_wipe_22 : decode cX12_wipe 22 = .ok (.iconst 0, 1) := by decide +kernel
theorem dX12_wipe_23 : decode cX12_wipe 23 = .ok (.iastore, 1) := by decide +kernel
theorem dX12_wipe_24 : decode cX12_wipe 24 = .ok (.iload_n 2, 1) := by decide +kernel
theorem dX12_wipe_25 : decode cX12_wipe 25 = .ok (.ireturn, 1) := by decide +kernel
theorem dX12_undo_0 : decode cX12_undo 0 = .ok (.iload_n 1, 1) := by decide +kernel
theorem dX12_undo_1 : decode cX12_undo 1 = .ok (.invokestatic 108, 3) := by decide +kernel
theorem dX12_undo_4 : decode cX12_undo 4 = .ok (.ifCond .ne 6, 3) := by decide +kernel
theorem dX12_undo_7 : decode cX12_undo 7 = .ok (.bipush (-2), 2) := by decide +kernel
theorem dX12_undo_9 : decode cX12_undo 9 = .ok (.ireturn, 1) := by decide +kernel
theorem dX12_undo_10 : decode cX12_undo 10 = .ok (.aload_n 0, 1) := by decide +kernel
theorem dX12_undo_11 : decode cX12_undo 11 = .ok (.getfield 7, 3) := by decide +kernel
theorem dX12_undo_14 : decode cX12_undo 14 = .ok (.iload_n 1, 1) := by decide +kernel
theorem dX12_undo_15 : decode cX12_undo 15 = .ok (.iaload, 1) := by decide +kernel
theorem dX12_undo_16 : decode cX12_undo 16 = .ok (.ifCond .ne 6, 3) := by decide +kernel
theorem dX12_undo_19 : decode cX12_undo 19 = .ok (.bipush (-3), 2) := by decide +kernel
theorem dX12_undo_21 : decode cX12_undo 21 = .ok (.ireturn, 1) := by decide +kernel
theorem dX12_undo_22 : decode cX12_undo 22 = .ok (.aload_n 0, 1) := by decide +kernel
theorem dX12_undo_23 : decode cX12_undo 23 = .ok (.getfield 7, 3) := by decide +kernel
theorem dX12_undo_26 : decode cX12_undo 26 = .ok (.iload_n 1, 1) := by decide +kernel
theorem dX12_undo_27 : decode cX12_undo 27 = .ok (.dup2, 1) := by decide +kernel
theorem dX12_undo_28 : decode cX12_undo 28 = .ok (.iaload, 1) := by decide +kernel
theorem dX12_undo_29 : decode cX12_undo 29 = .ok (.iconst 1, 1) := by decide +kernel
theorem dX12_undo_30 : decode cX12_undo 30 = .ok (.isub, 1) := by decide +kernel
theorem dX12_undo_31 : decode cX12_undo 31 = .ok (.iastore, 1) := by decide +kernel
theorem dX12_undo_32 : decode cX12_undo 32 = .ok (.aload_n 0, 1) := by decide +kernel
theorem dX12_undo_33 : decode cX12_undo 33 = .ok (.getfield 7, 3) := by decide +kernel
theorem dX12_undo_36 : decode cX12_undo 36 = .ok (.iload_n 1, 1) := by decide +kernel
theorem dX12_undo_37 : decode cX12_undo 37 = .ok (.iaload, 1) := by decide +kernel
theorem dX12_undo_38 : decode cX12_undo 38 = .ok (.ireturn, 1) := by decide +kernel
theorem dX12_byteAt_0 : decode cX12_byteAt 0 = .ok (.iload_n 1, 1) := by decide +kernel
theorem dX12_byteAt_1 : decode cX12_byteAt 1 = .ok (.aload_n 0, 1) := by decide +kernel
theorem dX12_byteAt_2 : decode cX12_byteAt 2 = .ok (.getfield 7, 3) := by decide +kernel
theorem dX12_byteAt_5 : decode cX12_byteAt 5 = .ok (.iconst 0, 1) := by decide +kernel
theorem dX12_byteAt_6 : decode cX12_byteAt 6 = .ok (.iaload, 1) := by decide +kernel
theorem dX12_byteAt_7 : decode cX12_byteAt 7 = .ok (.if_icmp .ge 12, 3) := by decide +kernel
theorem dX12_byteAt_10 : decode cX12_byteAt 10 = .ok (.aload_n 0, 1) := by decide +kernel
theorem dX12_byteAt_11 : decode cX12_byteAt 11 = .ok (.getfield 13, 3) := by decide +kernel
theorem dX12_byteAt_14 : decode cX12_byteAt 14 = .ok (.iload_n 1, 1) := by decide +kernel
theorem dX12_byteAt_15 : decode cX12_byteAt 15 = .ok (.iaload, 1) := by decide +kernel
theorem dX12_byteAt_16 : decode cX12_byteAt 16 = .ok (.goto 4, 3) := by decide +kernel
theorem dX12_byteAt_19 : decode cX12_byteAt 19 = .ok (.iconst (-1), 1) := by decide +kernel
theorem dX12_byteAt_20 : decode cX12_byteAt 20 = .ok (.ireturn, 1) := by decide +kernel
theorem dX12_isSound_0 : decode cX12_isSound 0 = .ok (.aload_n 0, 1) := by decide +kernel
theorem dX12_isSound_1 : decode cX12_isSound 1 = .ok (.iload_n 1, 1) := by decide +kernel
theorem dX12_isSound_2 : decode cX12_isSound 2 = .ok (.invokevirtual 112, 3) := by decide +kernel
theorem dX12_isSound_5 : decode cX12_isSound 5 = .ok (.bipush 97, 2) := by decide +kernel
theorem dX12_isSound_7 : decode cX12_isSound 7 = .ok (.bipush 104, 2) := by decide +kernel
theorem dX12_isSound_9 : decode cX12_isSound 9 = .ok (.invokestatic 104, 3) := by decide +kernel
theorem dX12_isSound_12 : decode cX12_isSound 12 = .ok (.ireturn, 1) := by decide +kernel
theorem dX12_readsWheel_0 : decode cX12_readsWheel 0 = .ok (.aload_n 0, 1) := by decide +kernel
theorem dX12_readsWheel_1 : decode cX12_readsWheel 1 = .ok (.iload_n 2, 1) := by decide +kernel
theorem dX12_readsWheel_2 : decode cX12_readsWheel 2 = .ok (.invokevirtual 112, 3) := by decide +kernel
theorem dX12_readsWheel_5 : decode cX12_readsWheel 5 = .ok (.istore_n 3, 1) := by decide +kernel
theorem dX12_readsWheel_6 : decode cX12_readsWheel 6 = .ok (.iload_n 3, 1) := by decide +kernel
theorem dX12_readsWheel_7 : decode cX12_readsWheel 7 = .ok (.bipush 104, 2) := by decide +kernel
theorem dX12_readsWheel_9 : decode cX12_readsWheel 9 = .ok (.if_icmp .ne 7, 3) := by decide +kernel
theorem dX12_readsWheel_12 : decode cX12_readsWheel 12 = .ok (.iconst 0, 1) := by decide +kernel
theorem dX12_readsWheel_13 : decode cX12_readsWheel 13 = .ok (.goto 24, 3) := by decide +kernel
theorem dX12_readsWheel_16 : decode cX12_readsWheel 16 = .ok (.iload_n 3, 1) := by decide +kernel
theorem dX12_readsWheel_17 : decode cX12_readsWheel 17 = .ok (.bipush 115, 2) := by decide +kernel
theorem dX12_readsWheel_19 : decode cX12_readsWheel 19 = .ok (.if_icmp .ne 7, 3) := by decide +kernel
theorem dX12_readsWheel_22 : decode cX12_readsWheel 22 = .ok (.iconst 1, 1) := by decide +kernel
theorem dX12_readsWheel_23 : decode cX12_readsWheel 23 = .ok (.goto 14, 3) := by decide +kernel
theorem dX12_readsWheel_26 : decode cX12_readsWheel 26 = .ok (.iload_n 3, 1) := by decide +kernel
theorem dX12_readsWheel_27 : decode cX12_readsWheel 27 = .ok (.bipush 98, 2) := by decide +kernel
theorem dX12_readsWheel_29 : decode cX12_readsWheel 29 = .ok (.if_icmp .ne 7, 3) := by decide +kernel
theorem dX12_readsWheel_32 : decode cX12_readsWheel 32 = .ok (.iconst 2, 1) := by decide +kernel
theorem dX12_readsWheel_33 : decode cX12_readsWheel 33 = .ok (.goto 4, 3) := by decide +kernel
theorem dX12_readsWheel_36 : decode cX12_readsWheel 36 = .ok (.iconst (-1), 1) := by decide +kernel
theorem dX12_readsWheel_37 : decode cX12_readsWheel 37 = .ok (.istore 4, 2) := by decide +kernel
theorem dX12_readsWheel_39 : decode cX12_readsWheel 39 = .ok (.iload_n 1, 1) := by decide +kernel
theorem dX12_readsWheel_40 : decode cX12_readsWheel 40 = .ok (.bipush 8, 2) := by decide +kernel
theorem dX12_readsWheel_42 : decode cX12_readsWheel 42 = .ok (.if_icmp .eq 9, 3) := by decide +kernel
theorem dX12_readsWheel_45 : decode cX12_readsWheel 45 = .ok (.iload 4, 2) := by decide +kernel
theorem dX12_readsWheel_47 : decode cX12_readsWheel 47 = .ok (.iconst (-1), 1) := by decide +kernel
theorem dX12_readsWheel_48 : decode cX12_readsWheel 48 = .ok (.if_icmp .ne 5, 3) := by decide +kernel
theorem dX12_readsWheel_51 : decode cX12_readsWheel 51 = .ok (.iconst (-1), 1) := by decide +kernel
theorem dX12_readsWheel_52 : decode cX12_readsWheel 52 = .ok (.ireturn, 1) := by decide +kernel
theorem dX12_readsWheel_53 : decode cX12_readsWheel 53 = .ok (.aload_n 0, 1) := by decide +kernel
theorem dX12_readsWheel_54 : decode cX12_readsWheel 54 = .ok (.iload_n 2, 1) := by decide +kernel
theorem dX12_readsWheel_55 : decode cX12_readsWheel 55 = .ok (.iconst 1, 1) := by decide +kernel
theorem dX12_readsWheel_56 : decode cX12_readsWheel 56 = .ok (.iadd, 1) := by decide +kernel
theorem dX12_readsWheel_57 : decode cX12_readsWheel 57 = .ok (.invokevirtual 112, 3) := by decide +kernel
theorem dX12_readsWheel_60 : decode cX12_readsWheel 60 = .ok (.bipush 48, 2) := by decide +kernel
theorem dX12_readsWheel_62 : decode cX12_readsWheel 62 = .ok (.bipush 49, 2) := by decide +kernel
theorem dX12_readsWheel_64 : decode cX12_readsWheel 64 = .ok (.invokestatic 104, 3) := by decide +kernel
theorem dX12_readsWheel_67 : decode cX12_readsWheel 67 = .ok (.ifCond .ne 6, 3) := by decide +kernel
theorem dX12_readsWheel_70 : decode cX12_readsWheel 70 = .ok (.bipush (-2), 2) := by decide +kernel
theorem dX12_readsWheel_72 : decode cX12_readsWheel 72 = .ok (.ireturn, 1) := by decide +kernel
theorem dX12_readsWheel_73 : decode cX12_readsWheel 73 = .ok (.aload_n 0, 1) := by decide +kernel
theorem dX12_readsWheel_74 : decode cX12_readsWheel 74 = .ok (.iload_n 2, 1) := by decide +kernel
theorem dX12_readsWheel_75 : decode cX12_readsWheel 75 = .ok (.iconst 2, 1) := by decide +kernel
theorem dX12_readsWheel_76 : decode cX12_readsWheel 76 = .ok (.iadd, 1) := by decide +kernel
theorem dX12_readsWheel_77 : decode cX12_readsWheel 77 = .ok (.invokevirtual 112, 3) := by decide +kernel
theorem dX12_readsWheel_80 : decode cX12_readsWheel 80 = .ok (.bipush 48, 2) := by decide +kernel
theorem dX12_readsWheel_82 : decode cX12_readsWheel 82 = .ok (.bipush 57, 2) := by decide +kernel
theorem dX12_readsWheel_84 : decode cX12_readsWheel 84 = .ok (.invokestatic 104, 3) := by decide +kernel
theorem dX12_readsWheel_87 : decode cX12_readsWheel 87 = .ok (.ifCond .ne 6, 3) := by decide +kernel
theorem dX12_readsWheel_90 : decode cX12_readsWheel 90 = .ok (.bipush (-3), 2) := by decide +kernel
theorem dX12_readsWheel_92 : decode cX12_readsWheel 92 = .ok (.ireturn, 1) := by decide +kernel
theorem dX12_readsWheel_93 : decode cX12_readsWheel 93 = .ok (.aload_n 0, 1) := by decide +kernel
theorem dX12_readsWheel_94 : decode cX12_readsWheel 94 = .ok (.iload_n 2, 1) := by decide +kernel
theorem dX12_readsWheel_95 : decode cX12_readsWheel 95 = .ok (.iconst 3, 1) := by decide +kernel
theorem dX12_readsWheel_96 : decode cX12_readsWheel 96 = .ok (.iadd, 1) := by decide +kernel
theorem dX12_readsWheel_97 : decode cX12_readsWheel 97 = .ok (.invokevirtual 116, 3) := by decide +kernel
theorem dX12_readsWheel_100 : decode cX12_readsWheel 100 = .ok (.ifCond .ne 6, 3) := by decide +kernel
theorem dX12_readsWheel_103 : decode cX12_readsWheel 103 = .ok (.bipush (-4), 2) := by decide +kernel
theorem dX12_readsWheel_105 : decode cX12_readsWheel 105 = .ok (.ireturn, 1) := by decide +kernel
theorem dX12_readsWheel_106 : decode cX12_readsWheel 106 = .ok (.iconst 0, 1) := by decide +kernel
theorem dX12_readsWheel_107 : decode cX12_readsWheel 107 = .ok (.istore 5, 2) := by decide +kernel
theorem dX12_readsWheel_109 : decode cX12_readsWheel 109 = .ok (.iload 5, 2) := by decide +kernel
theorem dX12_readsWheel_111 : decode cX12_readsWheel 111 = .ok (.iconst 5, 1) := by decide +kernel
theorem dX12_readsWheel_112 : decode cX12_readsWheel 112 = .ok (.if_icmp .ge 46, 3) := by decide +kernel
theorem dX12_readsWheel_115 : decode cX12_readsWheel 115 = .ok (.aload_n 0, 1) := by decide +kernel
theorem dX12_readsWheel_116 : decode cX12_readsWheel 116 = .ok (.iload_n 2, 1) := by decide +kernel
theorem dX12_readsWheel_117 : decode cX12_readsWheel 117 = .ok (.iconst 3, 1) := by decide +kernel
theorem dX12_readsWheel_118 : decode cX12_readsWheel 118 = .ok (.iadd, 1) := by decide +kernel
theorem dX12_readsWheel_119 : decode cX12_readsWheel 119 = .ok (.iload 5, 2) := by decide +kernel
theorem dX12_readsWheel_121 : decode cX12_readsWheel 121 = .ok (.iadd, 1) := by decide +kernel
theorem dX12_readsWheel_122 : decode cX12_readsWheel 122 = .ok (.invokevirtual 116, 3) := by decide +kernel
theorem dX12_readsWheel_125 : decode cX12_readsWheel 125 = .ok (.ifCond .eq 33, 3) := by decide +kernel
theorem dX12_readsWheel_128 : decode cX12_readsWheel 128 = .ok (.aload_n 0, 1) := by decide +kernel
theorem dX12_readsWheel_129 : decode cX12_readsWheel 129 = .ok (.getfield 25, 3) := by decide +kernel
theorem dX12_readsWheel_132 : decode cX12_readsWheel 132 = .ok (.iconst 5, 1) := by decide +kernel
theorem dX12_readsWheel_133 : decode cX12_readsWheel 133 = .ok (.iload_n 1, 1) := by decide +kernel
theorem dX12_readsWheel_134 : decode cX12_readsWheel 134 = .ok (.imul, 1) := by decide +kernel
theorem dX12_readsWheel_135 : decode cX12_readsWheel 135 = .ok (.iload 5, 2) := by decide +kernel
theorem dX12_readsWheel_137 : decode cX12_readsWheel 137 = .ok (.iadd, 1) := by decide +kernel
theorem dX12_readsWheel_138 : decode cX12_readsWheel 138 = .ok (.aload_n 0, 1) := by decide +kernel
theorem dX12_readsWheel_139 : decode cX12_readsWheel 139 = .ok (.iload_n 2, 1) := by decide +kernel
theorem dX12_readsWheel_140 : decode cX12_readsWheel 140 = .ok (.iconst 3, 1) := by decide +kernel
theorem dX12_readsWheel_141 : decode cX12_readsWheel 141 = .ok (.iadd, 1) := by decide +kernel
theorem dX12_readsWheel_142 : decode cX12_readsWheel 142 = .ok (.iload 5, 2) := by decide +kernel
theorem dX12_readsWheel_144 : decode cX12_readsWheel 144 = .ok (.iadd, 1) := by decide +kernel
theorem dX12_readsWheel_145 : decode cX12_readsWheel 145 = .ok (.invokevirtual 112, 3) := by decide +kernel
theorem dX12_readsWheel_148 : decode cX12_readsWheel 148 = .ok (.bipush 97, 2) := by decide +kernel
theorem dX12_readsWheel_150 : decode cX12_readsWheel 150 = .ok (.isub, 1) := by decide +kernel
theorem dX12_readsWheel_151 : decode cX12_readsWheel 151 = .ok (.iastore, 1) := by decide +kernel
theorem dX12_readsWheel_152 : decode cX12_readsWheel 152 = .ok (.iinc 5 1, 3) := by decide +kernel
theorem dX12_readsWheel_155 : decode cX12_readsWheel 155 = .ok (.goto (-46), 3) := by decide +kernel
theorem dX12_readsWheel_158 : decode cX12_readsWheel 158 = .ok (.aload_n 0, 1) := by decide +kernel
theorem dX12_readsWheel_159 : decode cX12_readsWheel 159 = .ok (.getfield 16, 3) := by decide +kernel
theorem dX12_readsWheel_162 : decode cX12_readsWheel 162 = .ok (.iload_n 1, 1) := by decide +kernel
theorem dX12_readsWheel_163 : decode cX12_readsWheel 163 = .ok (.iload 4, 2) := by decide +kernel
theorem dX12_readsWheel_165 : decode cX12_readsWheel 165 = .ok (.iastore, 1) := by decide +kernel
theorem dX12_readsWheel_166 : decode cX12_readsWheel 166 = .ok (.aload_n 0, 1) := by decide +kernel
theorem dX12_readsWheel_167 : decode cX12_readsWheel 167 = .ok (.getfield 19, 3) := by decide +kernel
theorem dX12_readsWheel_170 : decode cX12_readsWheel 170 = .ok (.iload_n 1, 1) := by decide +kernel
theorem dX12_readsWheel_171 : decode cX12_readsWheel 171 = .ok (.bipush 10, 2) := by decide +kernel
theorem dX12_readsWheel_173 : decode cX12_readsWheel 173 = .ok (.aload_n 0, 1) := by decide +kernel
theorem dX12_readsWheel_174 : decode cX12_readsWheel 174 = .ok (.iload_n 2, 1) := by decide +kernel
theorem dX12_readsWheel_175 : decode cX12_readsWheel 175 = .ok (.iconst 1, 1) := by decide +kernel
theorem dX12_readsWheel_176 : decode cX12_readsWheel 176 = .ok (.iadd, 1) := by decide +kernel
theorem dX12_readsWheel_177 : decode cX12_readsWheel 177 = .ok (.invokevirtual 112, 3) := by decide +kernel
theorem dX12_readsWheel_180 : decode cX12_readsWheel 180 = .ok (.bipush 48, 2) := by decide +kernel
theorem dX12_readsWheel_182 : decode cX12_readsWheel 182 = .ok (.isub, 1) := by decide +kernel
theorem dX12_readsWheel_183 : decode cX12_readsWheel 183 = .ok (.imul, 1) := by decide +kernel
theorem dX12_readsWheel_184 : decode cX12_readsWheel 184 = .ok (.aload_n 0, 1) := by decide +kernel
theorem dX12_readsWheel_185 : decode cX12_readsWheel 185 = .ok (.iload_n 2, 1) := by decide +kernel
theorem dX12_readsWheel_186 : decode cX12_readsWheel 186 = .ok (.iconst 2, 1) := by decide +kernel
theorem dX12_readsWheel_187 : decode cX12_readsWheel 187 = .ok (.iadd, 1) := by decide +kernel
theorem dX12_readsWheel_188 : decode cX12_readsWheel 188 = .ok (.invokevirtual 112, 3) := by decide +kernel
theorem dX12_readsWheel_191 : decode cX12_readsWheel 191 = .ok (.iadd, 1) := by decide +kernel
theorem dX12_readsWheel_192 : decode cX12_readsWheel 192 = .ok (.bipush 48, 2) := by decide +kernel
theorem dX12_readsWheel_194 : decode cX12_readsWheel 194 = .ok (.isub, 1) := by decide +kernel
theorem dX12_readsWheel_195 : decode cX12_readsWheel 195 = .ok (.iastore, 1) := by decide +kernel
theorem dX12_readsWheel_196 : decode cX12_readsWheel 196 = .ok (.aload_n 0, 1) := by decide +kernel
theorem dX12_readsWheel_197 : decode cX12_readsWheel 197 = .ok (.getfield 22, 3) := by decide +kernel
theorem dX12_readsWheel_200 : decode cX12_readsWheel 200 = .ok (.iload_n 1, 1) := by decide +kernel
theorem dX12_readsWheel_201 : decode cX12_readsWheel 201 = .ok (.iload 5, 2) := by decide +kernel
theorem dX12_readsWheel_203 : decode cX12_readsWheel 203 = .ok (.iastore, 1) := by decide +kernel
theorem dX12_readsWheel_204 : decode cX12_readsWheel 204 = .ok (.iconst 3, 1) := by decide +kernel
theorem dX12_readsWheel_205 : decode cX12_readsWheel 205 = .ok (.iload 5, 2) := by decide +kernel
theorem dX12_readsWheel_207 : decode cX12_readsWheel 207 = .ok (.iadd, 1) := by decide +kernel
theorem dX12_readsWheel_208 : decode cX12_readsWheel 208 = .ok (.ireturn, 1) := by decide +kernel
theorem dX12_readsWheels_0 : decode cX12_readsWheels 0 = .ok (.iconst 0, 1) := by decide +kernel
theorem dX12_readsWheels_1 : decode cX12_readsWheels 1 = .ok (.istore_n 1, 1) := by decide +kernel
theorem dX12_readsWheels_2 : decode cX12_readsWheels 2 = .ok (.iconst 0, 1) := by decide +kernel
theorem dX12_readsWheels_3 : decode cX12_readsWheels 3 = .ok (.istore_n 2, 1) := by decide +kernel
theorem dX12_readsWheels_4 : decode cX12_readsWheels 4 = .ok (.aload_n 0, 1) := by decide +kernel
theorem dX12_readsWheels_5 : decode cX12_readsWheels 5 = .ok (.iconst 0, 1) := by decide +kernel
theorem dX12_readsWheels_6 : decode cX12_readsWheels 6 = .ok (.putfield 119, 3) := by decide +kernel
theorem dX12_readsWheels_9 : decode cX12_readsWheels 9 = .ok (.iload_n 2, 1) := by decide +kernel
theorem dX12_readsWheels_10 : decode cX12_readsWheels 10 = .ok (.aload_n 0, 1) := by decide +kernel
theorem dX12_readsWheels_11 : decode cX12_readsWheels 11 = .ok (.getfield 7, 3) := by decide +kernel
theorem dX12_readsWheels_14 : decode cX12_readsWheels 14 = .ok (.iconst 0, 1) := by decide +kernel
theorem dX12_readsWheels_15 : decode cX12_readsWheels 15 = .ok (.iaload, 1) := by decide +kernel
theorem dX12_readsWheels_16 : decode cX12_readsWheels 16 = .ok (.if_icmp .lt 7, 3) := by decide +kernel
theorem dX12_readsWheels_19 : decode cX12_readsWheels 19 = .ok (.iload_n 2, 1) := by decide +kernel
theorem dX12_readsWheels_20 : decode cX12_readsWheels 20 = .ok (.ifCond .le 62, 3) := by decide +kernel
theorem dX12_readsWheels_23 : decode cX12_readsWheels 23 = .ok (.aload_n 0, 1) := by decide +kernel
theorem dX12_readsWheels_24 : decode cX12_readsWheels 24 = .ok (.iload_n 1, 1) := by decide +kernel
theorem dX12_readsWheels_25 : decode cX12_readsWheels 25 = .ok (.iload_n 2, 1) := by decide +kernel
theorem dX12_readsWheels_26 : decode cX12_readsWheels 26 = .ok (.invokevirtual 122, 3) := by decide +kernel
theorem dX12_readsWheels_29 : decode cX12_readsWheels 29 = .ok (.istore_n 3, 1) := by decide +kernel
theorem dX12_readsWheels_30 : decode cX12_readsWheels 30 = .ok (.iload_n 3, 1) := by decide +kernel
theorem dX12_readsWheels_31 : decode cX12_readsWheels 31 = .ok (.ifCond .ge 9, 3) := by decide +kernel
theorem dX12_readsWheels_34 : decode cX12_readsWheels 34 = .ok (.iload_n 2, 1) := by decide +kernel
theorem dX12_readsWheels_35 : decode cX12_readsWheels 35 = .ok (.iload_n 3, 1) := by decide +kernel
theorem dX12_readsWheels_36 : decode cX12_readsWheels 36 = .ok (.isub, 1) := by decide +kernel
theorem dX12_readsWheels_37 : decode cX12_readsWheels 37 = .ok (.iconst 1, 1) := by decide +kernel
theorem dX12_readsWheels_38 : decode cX12_readsWheels 38 = .ok (.isub, 1) := by decide +kernel
theorem dX12_readsWheels_39 : decode cX12_readsWheels 39 = .ok (.ireturn, 1) := by decide +kernel
theorem dX12_readsWheels_40 : decode cX12_readsWheels 40 = .ok (.iinc 1 1, 3) := by decide +kernel
theorem dX12_readsWheels_43 : decode cX12_readsWheels 43 = .ok (.iload_n 2, 1) := by decide +kernel
theorem dX12_readsWheels_44 : decode cX12_readsWheels 44 = .ok (.iload_n 3, 1) := by decide +kernel
theorem dX12_readsWheels_45 : decode cX12_readsWheels 45 = .ok (.iadd, 1) := by decide +kernel
theorem dX12_readsWheels_46 : decode cX12_readsWheels 46 = .ok (.istore_n 2, 1) := by decide +kernel
theorem dX12_readsWheels_47 : decode cX12_readsWheels 47 = .ok (.iload_n 2, 1) := by decide +kernel
theorem dX12_readsWheels_48 : decode cX12_readsWheels 48 = .ok (.aload_n 0, 1) := by decide +kernel
theorem dX12_readsWheels_49 : decode cX12_readsWheels 49 = .ok (.getfield 7, 3) := by decide +kernel
theorem dX12_readsWheels_52 : decode cX12_readsWheels 52 = .ok (.iconst 0, 1) := by decide +kernel
theorem dX12_readsWheels_53 : decode cX12_readsWheels 53 = .ok (.iaload, 1) := by decide +kernel
theorem dX12_readsWheels_54 : decode cX12_readsWheels 54 = .ok (.if_icmp .ne 10, 3) := by decide +kernel
theorem dX12_readsWheels_57 : decode cX12_readsWheels 57 = .ok (.aload_n 0, 1) := by decide +kernel
theorem dX12_readsWheels_58 : decode cX12_readsWheels 58 = .ok (.iload_n 1, 1) := by decide +kernel
theorem dX12_readsWheels_59 : decode cX12_readsWheels 59 = .ok (.putfield 119, 3) := by decide +kernel
theorem dX12_readsWheels_62 : decode cX12_readsWheels 62 = .ok (.iconst (-1), 1) := by decide +kernel
theorem dX12_readsWheels_63 : decode cX12_readsWheels 63 = .ok (.ireturn, 1) := by decide +kernel
theorem dX12_readsWheels_64 : decode cX12_readsWheels 64 = .ok (.aload_n 0, 1) := by decide +kernel
theorem dX12_readsWheels_65 : decode cX12_readsWheels 65 = .ok (.iload_n 2, 1) := by decide +kernel
theorem dX12_readsWheels_66 : decode cX12_readsWheels 66 = .ok (.invokevirtual 112, 3) := by decide +kernel
theorem dX12_readsWheels_69 : decode cX12_readsWheels 69 = .ok (.bipush 59, 2) := by decide +kernel
theorem dX12_readsWheels_71 : decode cX12_readsWheels 71 = .ok (.if_icmp .eq 5, 3) := by decide +kernel
theorem dX12_readsWheels_74 : decode cX12_readsWheels 74 = .ok (.iload_n 2, 1) := by decide +kernel
theorem dX12_readsWheels_75 : decode cX12_readsWheels 75 = .ok (.ireturn, 1) := by decide +kernel
theorem dX12_readsWheels_76 : decode cX12_readsWheels 76 = .ok (.iinc 2 1, 3) := by decide +kernel
theorem dX12_readsWheels_79 : decode cX12_readsWheels 79 = .ok (.goto (-70), 3) := by decide +kernel
theorem dX12_readsWheels_82 : decode cX12_readsWheels 82 = .ok (.iconst (-1), 1) := by decide +kernel
theorem dX12_readsWheels_83 : decode cX12_readsWheels 83 = .ok (.ireturn, 1) := by decide +kernel
theorem dX12_readsCave_0 : decode cX12_readsCave 0 = .ok (.aload_n 0, 1) := by decide +kernel
theorem dX12_readsCave_1 : decode cX12_readsCave 1 = .ok (.iconst 0, 1) := by decide +kernel
theorem dX12_readsCave_2 : decode cX12_readsCave 2 = .ok (.putfield 126, 3) := by decide +kernel
theorem dX12_readsCave_5 : decode cX12_readsCave 5 = .ok (.iconst 0, 1) := by decide +kernel
theorem dX12_readsCave_6 : decode cX12_readsCave 6 = .ok (.istore_n 1, 1) := by decide +kernel
theorem dX12_readsCave_7 : decode cX12_readsCave 7 = .ok (.iload_n 1, 1) := by decide +kernel
theorem dX12_readsCave_8 : decode cX12_readsCave 8 = .ok (.bipush 30, 2) := by decide +kernel
theorem dX12_readsCave_10 : decode cX12_readsCave 10 = .ok (.if_icmp .ge 16, 3) := by decide +kernel
theorem dX12_readsCave_13 : decode cX12_readsCave 13 = .ok (.aload_n 0, 1) := by decide +kernel
theorem dX12_readsCave_14 : decode cX12_readsCave 14 = .ok (.getfield 28, 3) := by decide +kernel
theorem dX12_readsCave_17 : decode cX12_readsCave 17 = .ok (.iload_n 1, 1) := by decide +kernel
theorem dX12_readsCave_18 : decode cX12_readsCave 18 = .ok (.iconst 5, 1) := by decide +kernel
theorem dX12_readsCave_19 : decode cX12_readsCave 19 = .ok (.iastore, 1) := by decide +kernel
theorem dX12_readsCave_20 : decode cX12_readsCave 20 = .ok (.iinc 1 1, 3) := by decide +kernel
theorem dX12_readsCave_23 : decode cX12_readsCave 23 = .ok (.goto (-16), 3) := by decide +kernel
theorem dX12_readsCave_26 : decode cX12_readsCave 26 = .ok (.iconst 0, 1) := by decide +kernel
theorem dX12_readsCave_27 : decode cX12_readsCave 27 = .ok (.istore_n 1, 1) := by decide +kernel
theorem dX12_readsCave_28 : decode cX12_readsCave 28 = .ok (.iload_n 1, 1) := by decide +kernel
theorem dX12_readsCave_29 : decode cX12_readsCave 29 = .ok (.aload_n 0, 1) := by decide +kernel
theorem dX12_readsCave_30 : decode cX12_readsCave 30 = .ok (.getfield 7, 3) := by decide +kernel
theorem dX12_readsCave_33 : decode cX12_readsCave 33 = .ok (.iconst 1, 1) := by decide +kernel
theorem dX12_readsCave_34 : decode cX12_readsCave 34 = .ok (.iaload, 1) := by decide +kernel
theorem dX12_readsCave_35 : decode cX12_readsCave 35 = .ok (.if_icmp .ge 30, 3) := by decide +kernel
theorem dX12_readsCave_38 : decode cX12_readsCave 38 = .ok (.aload_n 0, 1) := by decide +kernel
theorem dX12_readsCave_39 : decode cX12_readsCave 39 = .ok (.getfield 13, 3) := by decide +kernel
theorem dX12_readsCave_42 : decode cX12_readsCave 42 = .ok (.bipush 71, 2) := by decide +kernel
theorem dX12_readsCave_44 : decode cX12_readsCave 44 = .ok (.iload_n 1, 1) := by decide +kernel
theorem dX12_readsCave_45 : decode cX12_readsCave 45 = .ok (.iadd, 1) := by decide +kernel
theorem dX12_readsCave_46 : decode cX12_readsCave 46 = .ok (.iaload, 1) := by decide +kernel
theorem dX12_readsCave_47 : decode cX12_readsCave 47 = .ok (.bipush 48, 2) := by decide +kernel
theorem dX12_readsCave_49 : decode cX12_readsCave 49 = .ok (.bipush 57, 2) := by decide +kernel
theorem dX12_readsCave_51 : decode cX12_readsCave 51 = .ok (.invokestatic 104, 3) := by decide +kernel
theorem dX12_readsCave_54 : decode cX12_readsCave 54 = .ok (.ifCond .ne 5, 3) := by decide +kernel
theorem dX12_readsCave_57 : decode cX12_readsCave 57 = .ok (.iload_n 1, 1) := by decide +kernel
theorem dX12_readsCave_58 : decode cX12_readsCave 58 = .ok (.ireturn, 1) := by decide +kernel
theorem dX12_readsCave_59 : decode cX12_readsCave 59 = .ok (.iinc 1 1, 3) := by decide +kernel
theorem dX12_readsCave_62 : decode cX12_readsCave 62 = .ok (.goto (-34), 3) := by decide +kernel
theorem dX12_readsCave_65 : decode cX12_readsCave 65 = .ok (.iconst 0, 1) := by decide +kernel
theorem dX12_readsCave_66 : decode cX12_readsCave 66 = .ok (.istore_n 1, 1) := by decide +kernel
theorem dX12_readsCave_67 : decode cX12_readsCave 67 = .ok (.iload_n 1, 1) := by decide +kernel
theorem dX12_readsCave_68 : decode cX12_readsCave 68 = .ok (.aload_n 0, 1) := by decide +kernel
theorem dX12_readsCave_69 : decode cX12_readsCave 69 = .ok (.getfield 7, 3) := by decide +kernel
theorem dX12_readsCave_72 : decode cX12_readsCave 72 = .ok (.iconst 1, 1) := by decide +kernel
theorem dX12_readsCave_73 : decode cX12_readsCave 73 = .ok (.iaload, 1) := by decide +kernel
theorem dX12_readsCave_74 : decode cX12_readsCave 74 = .ok (.if_icmp .ge 27, 3) := by decide +kernel
theorem dX12_readsCave_77 : decode cX12_readsCave 77 = .ok (.aload_n 0, 1) := by decide +kernel
theorem dX12_readsCave_78 : decode cX12_readsCave 78 = .ok (.getfield 28, 3) := by decide +kernel
theorem dX12_readsCave_81 : decode cX12_readsCave 81 = .ok (.iload_n 1, 1) := by decide +kernel
theorem dX12_readsCave_82 : decode cX12_readsCave 82 = .ok (.aload_n 0, 1) := by decide +kernel
theorem dX12_readsCave_83 : decode cX12_readsCave 83 = .ok (.getfield 13, 3) := by decide +kernel
theorem dX12_readsCave_86 : decode cX12_readsCave 86 = .ok (.bipush 71, 2) := by decide +kernel
theorem dX12_readsCave_88 : decode cX12_readsCave 88 = .ok (.iload_n 1, 1) := by decide +kernel
theorem dX12_readsCave_89 : decode cX12_readsCave 89 = .ok (.iadd, 1) := by decide +kernel
theorem dX12_readsCave_90 : decode cX12_readsCave 90 = .ok (.iaload, 1) := by decide +kernel
theorem dX12_readsCave_91 : decode cX12_readsCave 91 = .ok (.bipush 48, 2) := by decide +kernel
theorem dX12_readsCave_93 : decode cX12_readsCave 93 = .ok (.isub, 1) := by decide +kernel
theorem dX12_readsCave_94 : decode cX12_readsCave 94 = .ok (.iastore, 1) := by decide +kernel
theorem dX12_readsCave_95 : decode cX12_readsCave 95 = .ok (.iinc 1 1, 3) := by decide +kernel
theorem dX12_readsCave_98 : decode cX12_readsCave 98 = .ok (.goto (-31), 3) := by decide +kernel
theorem dX12_readsCave_101 : decode cX12_readsCave 101 = .ok (.aload_n 0, 1) := by decide +kernel
theorem dX12_readsCave_102 : decode cX12_readsCave 102 = .ok (.aload_n 0, 1) := by decide +kernel
theorem dX12_readsCave_103 : decode cX12_readsCave 103 = .ok (.getfield 7, 3) := by decide +kernel
theorem dX12_readsCave_106 : decode cX12_readsCave 106 = .ok (.iconst 1, 1) := by decide +kernel
theorem dX12_readsCave_107 : decode cX12_readsCave 107 = .ok (.iaload, 1) := by decide +kernel
theorem dX12_readsCave_108 : decode cX12_readsCave 108 = .ok (.putfield 126, 3) := by decide +kernel
theorem dX12_readsCave_111 : decode cX12_readsCave 111 = .ok (.iconst (-1), 1) := by decide +kernel
theorem dX12_readsCave_112 : decode cX12_readsCave 112 = .ok (.ireturn, 1) := by decide +kernel
theorem dX12_faultOf_0 : decode cX12_faultOf 0 = .ok (.aload_n 0, 1) := by decide +kernel
theorem dX12_faultOf_1 : decode cX12_faultOf 1 = .ok (.invokevirtual 129, 3) := by decide +kernel
theorem dX12_faultOf_4 : decode cX12_faultOf 4 = .ok (.istore_n 2, 1) := by decide +kernel
theorem dX12_faultOf_5 : decode cX12_faultOf 5 = .ok (.aload_n 0, 1) := by decide +kernel
theorem dX12_faultOf_6 : decode cX12_faultOf 6 = .ok (.invokevirtual 133, 3) := by decide +kernel
theorem dX12_faultOf_9 : decode cX12_faultOf 9 = .ok (.istore_n 3, 1) := by decide +kernel
theorem dX12_faultOf_10 : decode cX12_faultOf 10 = .ok (.iload_n 1, 1) := by decide +kernel
theorem dX12_faultOf_11 : decode cX12_faultOf 11 = .ok (.ifCond .ne 7, 3) := by decide +kernel
theorem dX12_faultOf_14 : decode cX12_faultOf 14 = .ok (.iload_n 2, 1) := by decide +kernel
theorem dX12_faultOf_15 : decode cX12_faultOf 15 = .ok (.goto 4, 3) := by decide +kernel
theorem dX12_faultOf_18 : decode cX12_faultOf 18 = .ok (.iload_n 3, 1) := by decide +kernel
theorem dX12_faultOf_19 : decode cX12_faultOf 19 = .ok (.ireturn, 1) := by decide +kernel
theorem dX12_reads_0 : decode cX12_reads 0 = .ok (.aload_n 0, 1) := by decide +kernel
theorem dX12_reads_1 : decode cX12_reads 1 = .ok (.iconst 0, 1) := by decide +kernel
theorem dX12_reads_2 : decode cX12_reads 2 = .ok (.invokevirtual 136, 3) := by decide +kernel
theorem dX12_reads_5 : decode cX12_reads 5 = .ok (.istore_n 1, 1) := by decide +kernel
theorem dX12_reads_6 : decode cX12_reads 6 = .ok (.return_, 1) := by decide +kernel
theorem dX12_fault_0 : decode cX12_fault 0 = .ok (.iload_n 1, 1) := by decide +kernel
theorem dX12_fault_1 : decode cX12_fault 1 = .ok (.invokestatic 108, 3) := by decide +kernel
theorem dX12_fault_4 : decode cX12_fault 4 = .ok (.ifCond .eq 11, 3) := by decide +kernel
theorem dX12_fault_7 : decode cX12_fault 7 = .ok (.aload_n 0, 1) := by decide +kernel
theorem dX12_fault_8 : decode cX12_fault 8 = .ok (.iload_n 1, 1) := by decide +kernel
theorem dX12_fault_9 : decode cX12_fault 9 = .ok (.invokevirtual 136, 3) := by decide +kernel
theorem dX12_fault_12 : decode cX12_fault 12 = .ok (.goto 5, 3) := by decide +kernel
theorem dX12_fault_15 : decode cX12_fault 15 = .ok (.bipush (-2), 2) := by decide +kernel
theorem dX12_fault_17 : decode cX12_fault 17 = .ok (.ireturn, 1) := by decide +kernel
theorem dX12_isWheel_0 : decode cX12_isWheel 0 = .ok (.aload_n 0, 1) := by decide +kernel
theorem dX12_isWheel_1 : decode cX12_isWheel 1 = .ok (.invokevirtual 139, 3) := by decide +kernel
theorem dX12_isWheel_4 : decode cX12_isWheel 4 = .ok (.iload_n 1, 1) := by decide +kernel
theorem dX12_isWheel_5 : decode cX12_isWheel 5 = .ok (.iconst 0, 1) := by decide +kernel
theorem dX12_isWheel_6 : decode cX12_isWheel 6 = .ok (.aload_n 0, 1) := by decide +kernel
theorem dX12_isWheel_7 : decode cX12_isWheel 7 = .ok (.getfield 119, 3) := by decide +kernel
theorem dX12_isWheel_10 : decode cX12_isWheel 10 = .ok (.iconst 1, 1) := by decide +kernel
theorem dX12_isWheel_11 : decode cX12_isWheel 11 = .ok (.isub, 1) := by decide +kernel
theorem dX12_isWheel_12 : decode cX12_isWheel 12 = .ok (.invokestatic 104, 3) := by decide +kernel
theorem dX12_isWheel_15 : decode cX12_isWheel 15 = .ok (.ireturn, 1) := by decide +kernel
theorem dX12_wheelOf_0 : decode cX12_wheelOf 0 = .ok (.iload_n 2, 1) := by decide +kernel
theorem dX12_wheelOf_1 : decode cX12_wheelOf 1 = .ok (.ifCond .ne 12, 3) := by decide +kernel
theorem dX12_wheelOf_4 : decode cX12_wheelOf 4 = .ok (.aload_n 0, 1) := by decide +kernel
theorem dX12_wheelOf_5 : decode cX12_wheelOf 5 = .ok (.getfield 16, 3) := by decide +kernel
theorem dX12_wheelOf_8 : decode cX12_wheelOf 8 = .ok (.iload_n 1, 1) := by decide +kernel
theorem dX12_wheelOf_9 : decode cX12_wheelOf 9 = .ok (.iaload, 1) := by decide +kernel
theorem dX12_wheelOf_10 : decode cX12_wheelOf 10 = .ok (.goto 59, 3) := by decide +kernel
theorem dX12_wheelOf_13 : decode cX12_wheelOf 13 = .ok (.iload_n 2, 1) := by decide +kernel
theorem dX12_wheelOf_14 : decode cX12_wheelOf 14 = .ok (.iconst 1, 1) := by decide +kernel
theorem dX12_wheelOf_15 : decode cX12_wheelOf 15 = .ok (.if_icmp .ne 12, 3) := by decide +kernel
theorem dX12_wheelOf_18 : decode cX12_wheelOf 18 = .ok (.aload_n 0, 1) := by decide +kernel
theorem dX12_wheelOf_19 : decode cX12_wheelOf 19 = .ok (.getfield 19, 3) := by decide +kernel
theorem dX12_wheelOf_22 : decode cX12_wheelOf 22 = .ok (.iload_n 1, 1) := by decide +kernel
theorem dX12_wheelOf_23 : decode cX12_wheelOf 23 = .ok (.iaload, 1) := by decide +kernel
theorem dX12_wheelOf_24 : decode cX12_wheelOf 24 = .ok (.goto 45, 3) := by decide +kernel
theorem dX12_wheelOf_27 : decode cX12_wheelOf 27 = .ok (.iload_n 2, 1) := by decide +kernel
theorem dX12_wheelOf_28 : decode cX12_wheelOf 28 = .ok (.iconst 2, 1) := by decide +kernel
theorem dX12_wheelOf_29 : decode cX12_wheelOf 29 = .ok (.if_icmp .ne 12, 3) := by decide +kernel
theorem dX12_wheelOf_32 : decode cX12_wheelOf 32 = .ok (.aload_n 0, 1) := by decide +kernel
theorem dX12_wheelOf_33 : decode cX12_wheelOf 33 = .ok (.getfield 22, 3) := by decide +kernel
theorem dX12_wheelOf_36 : decode cX12_wheelOf 36 = .ok (.iload_n 1, 1) := by decide +kernel
theorem dX12_wheelOf_37 : decode cX12_wheelOf 37 = .ok (.iaload, 1) := by decide +kernel
theorem dX12_wheelOf_38 : decode cX12_wheelOf 38 = .ok (.goto 31, 3) := by decide +kernel
theorem dX12_wheelOf_41 : decode cX12_wheelOf 41 = .ok (.iload_n 2, 1) := by decide +kernel
theorem dX12_wheelOf_42 : decode cX12_wheelOf 42 = .ok (.iconst 3, 1) := by decide +kernel
theorem dX12_wheelOf_43 : decode cX12_wheelOf 43 = .ok (.isub, 1) := by decide +kernel
theorem dX12_wheelOf_44 : decode cX12_wheelOf 44 = .ok (.aload_n 0, 1) := by decide +kernel
theorem dX12_wheelOf_45 : decode cX12_wheelOf 45 = .ok (.getfield 22, 3) := by decide +kernel
theorem dX12_wheelOf_48 : decode cX12_wheelOf 48 = .ok (.iload_n 1, 1) := by decide +kernel
theorem dX12_wheelOf_49 : decode cX12_wheelOf 49 = .ok (.iaload, 1) := by decide +kernel
theorem dX12_wheelOf_50 : decode cX12_wheelOf 50 = .ok (.if_icmp .ge 18, 3) := by decide +kernel
theorem dX12_wheelOf_53 : decode cX12_wheelOf 53 = .ok (.aload_n 0, 1) := by decide +kernel
theorem dX12_wheelOf_54 : decode cX12_wheelOf 54 = .ok (.getfield 25, 3) := by decide +kernel
theorem dX12_wheelOf_57 : decode cX12_wheelOf 57 = .ok (.iconst 5, 1) := by decide +kernel
theorem dX12_wheelOf_58 : decode cX12_wheelOf 58 = .ok (.iload_n 1, 1) := by decide +kernel
theorem dX12_wheelOf_59 : decode cX12_wheelOf 59 = .ok (.imul, 1) := by decide +kernel
theorem dX12_wheelOf_60 : decode cX12_wheelOf 60 = .ok (.iload_n 2, 1) := by decide +kernel
theorem dX12_wheelOf_61 : decode cX12_wheelOf 61 = .ok (.iadd, 1) := by decide +kernel
theorem dX12_wheelOf_62 : decode cX12_wheelOf 62 = .ok (.iconst 3, 1) := by decide +kernel
theorem dX12_wheelOf_63 : decode cX12_wheelOf 63 = .ok (.isub, 1) := by decide +kernel
theorem dX12_wheelOf_64 : decode cX12_wheelOf 64 = .ok (.iaload, 1) := by decide +kernel
theorem dX12_wheelOf_65 : decode cX12_wheelOf 65 = .ok (.goto 4, 3) := by decide +kernel
theorem dX12_wheelOf_68 : decode cX12_wheelOf 68 = .ok (.iconst (-1), 1) := by decide +kernel
theorem dX12_wheelOf_69 : decode cX12_wheelOf 69 = .ok (.ireturn, 1) := by decide +kernel
theorem dX12_wheel_0 : decode cX12_wheel 0 = .ok (.aload_n 0, 1) := by decide +kernel
theorem dX12_wheel_1 : decode cX12_wheel 1 = .ok (.iload_n 1, 1) := by decide +kernel
theorem dX12_wheel_2 : decode cX12_wheel 2 = .ok (.invokevirtual 142, 3) := by decide +kernel
theorem dX12_wheel_5 : decode cX12_wheel 5 = .ok (.ifCond .eq 22, 3) := by decide +kernel
theorem dX12_wheel_8 : decode cX12_wheel 8 = .ok (.iload_n 2, 1) := by decide +kernel
theorem dX12_wheel_9 : decode cX12_wheel 9 = .ok (.iconst 0, 1) := by decide +kernel
theorem dX12_wheel_10 : decode cX12_wheel 10 = .ok (.bipush 7, 2) := by decide +kernel
theorem dX12_wheel_12 : decode cX12_wheel 12 = .ok (.invokestatic 104, 3) := by decide +kernel
theorem dX12_wheel_15 : decode cX12_wheel 15 = .ok (.ifCond .eq 12, 3) := by decide +kernel
theorem dX12_wheel_18 : decode cX12_wheel 18 = .ok (.aload_n 0, 1) := by decide +kernel
theorem dX12_wheel_19 : decode cX12_wheel 19 = .ok (.iload_n 1, 1) := by decide +kernel
theorem dX12_wheel_20 : decode cX12_wheel 20 = .ok (.iload_n 2, 1) := by decide +kernel
theorem dX12_wheel_21 : decode cX12_wheel 21 = .ok (.invokevirtual 145, 3) := by decide +kernel
theorem dX12_wheel_24 : decode cX12_wheel 24 = .ok (.goto 5, 3) := by decide +kernel
theorem dX12_wheel_27 : decode cX12_wheel 27 = .ok (.bipush (-2), 2) := by decide +kernel
theorem dX12_wheel_29 : decode cX12_wheel 29 = .ok (.ireturn, 1) := by decide +kernel
theorem dX12_warmOf_0 : decode cX12_warmOf 0 = .ok (.aload_n 0, 1) := by decide +kernel
theorem dX12_warmOf_1 : decode cX12_warmOf 1 = .ok (.invokevirtual 139, 3) := by decide +kernel
theorem dX12_warmOf_4 : decode cX12_warmOf 4 = .ok (.aload_n 0, 1) := by decide +kernel
theorem dX12_warmOf_5 : decode cX12_warmOf 5 = .ok (.getfield 28, 3) := by decide +kernel
theorem dX12_warmOf_8 : decode cX12_warmOf 8 = .ok (.iload_n 1, 1) := by decide +kernel
theorem dX12_warmOf_9 : decode cX12_warmOf 9 = .ok (.iaload, 1) := by decide +kernel
theorem dX12_warmOf_10 : decode cX12_warmOf 10 = .ok (.ireturn, 1) := by decide +kernel
theorem dX12_warm_0 : decode cX12_warm 0 = .ok (.iload_n 1, 1) := by decide +kernel
theorem dX12_warm_1 : decode cX12_warm 1 = .ok (.invokestatic 148, 3) := by decide +kernel
theorem dX12_warm_4 : decode cX12_warm 4 = .ok (.ifCond .eq 11, 3) := by decide +kernel
theorem dX12_warm_7 : decode cX12_warm 7 = .ok (.aload_n 0, 1) := by decide +kernel
theorem dX12_warm_8 : decode cX12_warm 8 = .ok (.iload_n 1, 1) := by decide +kernel
theorem dX12_warm_9 : decode cX12_warm 9 = .ok (.invokevirtual 151, 3) := by decide +kernel
theorem dX12_warm_12 : decode cX12_warm 12 = .ok (.goto 5, 3) := by decide +kernel
theorem dX12_warm_15 : decode cX12_warm 15 = .ok (.bipush (-2), 2) := by decide +kernel
theorem dX12_warm_17 : decode cX12_warm 17 = .ok (.ireturn, 1) := by decide +kernel
theorem dX12_set_0 : decode cX12_set 0 = .ok (.iload_n 1, 1) := by decide +kernel
theorem dX12_set_1 : decode cX12_set 1 = .ok (.iconst 0, 1) := by decide +kernel
theorem dX12_set_2 : decode cX12_set 2 = .ok (.iconst 1, 1) := by decide +kernel
theorem dX12_set_3 : decode cX12_set 3 = .ok (.invokestatic 104, 3) := by decide +kernel
theorem dX12_set_6 : decode cX12_set 6 = .ok (.ifCond .eq 30, 3) := by decide +kernel
theorem dX12_set_9 : decode cX12_set 9 = .ok (.iload_n 2, 1) := by decide +kernel
theorem dX12_set_10 : decode cX12_set 10 = .ok (.iload_n 1, 1) := by decide +kernel
theorem dX12_set_11 : decode cX12_set 11 = .ok (.ifCond .ne 7, 3) := by decide +kernel
theorem dX12_set_14 : decode cX12_set 14 = .ok (.iconst 1, 1) := by decide +kernel
theorem dX12_set_15 : decode cX12_set 15 = .ok (.goto 4, 3) := by decide +kernel
theorem dX12_set_18 : decode cX12_set 18 = .ok (.iconst 0, 1) := by decide +kernel
theorem dX12_set_19 : decode cX12_set 19 = .ok (.iload_n 1, 1) := by decide +kernel
theorem dX12_set_20 : decode cX12_set 20 = .ok (.ifCond .ne 8, 3) := by decide +kernel
theorem dX12_set_23 : decode cX12_set 23 = .ok (.bipush 20, 2) := by decide +kernel
theorem dX12_set_25 : decode cX12_set 25 = .ok (.goto 5, 3) := by decide +kernel
theorem dX12_set_28 : decode cX12_set 28 = .ok (.bipush 8, 2) := by decide +kernel
theorem dX12_set_30 : decode cX12_set 30 = .ok (.invokestatic 104, 3) := by decide +kernel
theorem dX12_set_33 : decode cX12_set 33 = .ok (.ifCond .ne 6, 3) := by decide +kernel
theorem dX12_set_36 : decode cX12_set 36 = .ok (.bipush (-2), 2) := by decide +kernel
theorem dX12_set_38 : decode cX12_set 38 = .ok (.ireturn, 1) := by decide +kernel
theorem dX12_set_39 : decode cX12_set 39 = .ok (.iload_n 1, 1) := by decide +kernel
theorem dX12_set_40 : decode cX12_set 40 = .ok (.ifCond .ne 10, 3) := by decide +kernel
theorem dX12_set_43 : decode cX12_set 43 = .ok (.aload_n 0, 1) := by decide +kernel
theorem dX12_set_44 : decode cX12_set 44 = .ok (.getfield 95, 3) := by decide +kernel
theorem dX12_set_47 : decode cX12_set 47 = .ok (.goto 7, 3) := by decide +kernel
theorem dX12_set_50 : decode cX12_set 50 = .ok (.aload_n 0, 1) := by decide +kernel
theorem dX12_set_51 : decode cX12_set 51 = .ok (.getfield 99, 3) := by decide +kernel
theorem dX12_set_54 : decode cX12_set 54 = .ok (.istore_n 3, 1) := by decide +kernel
theorem dX12_set_55 : decode cX12_set 55 = .ok (.aload_n 0, 1) := by decide +kernel
theorem dX12_set_56 : decode cX12_set 56 = .ok (.iload_n 1, 1) := by decide +kernel
theorem dX12_set_57 : decode cX12_set 57 = .ok (.ifCond .ne 7, 3) := by decide +kernel
theorem dX12_set_60 : decode cX12_set 60 = .ok (.iload_n 2, 1) := by decide +kernel
theorem dX12_set_61 : decode cX12_set 61 = .ok (.goto 7, 3) := by decide +kernel
theorem dX12_set_64 : decode cX12_set 64 = .ok (.aload_n 0, 1) := by decide +kernel
theorem dX12_set_65 : decode cX12_set 65 = .ok (.getfield 95, 3) := by decide +kernel
theorem dX12_set_68 : decode cX12_set 68 = .ok (.putfield 95, 3) := by decide +kernel
theorem dX12_set_71 : decode cX12_set 71 = .ok (.aload_n 0, 1) := by decide +kernel
theorem dX12_set_72 : decode cX12_set 72 = .ok (.iload_n 1, 1) := by decide +kernel
theorem dX12_set_73 : decode cX12_set 73 = .ok (.iconst 1, 1) := by decide +kernel
theorem dX12_set_74 : decode cX12_set 74 = .ok (.if_icmp .ne 7, 3) := by decide +kernel
theorem dX12_set_77 : decode cX12_set 77 = .ok (.iload_n 2, 1) := by decide +kernel
theorem dX12_set_78 : decode cX12_set 78 = .ok (.goto 7, 3) := by decide +kernel
theorem dX12_set_81 : decode cX12_set 81 = .ok (.aload_n 0, 1) := by decide +kernel
theorem dX12_set_82 : decode cX12_set 82 = .ok (.getfield 99, 3) := by decide +kernel
theorem dX12_set_85 : decode cX12_set 85 = .ok (.putfield 99, 3) := by decide +kernel
theorem dX12_set_88 : decode cX12_set 88 = .ok (.iload_n 3, 1) := by decide +kernel
theorem dX12_set_89 : decode cX12_set 89 = .ok (.ireturn, 1) := by decide +kernel
theorem dX12_turning_0 : decode cX12_turning 0 = .ok (.iload_n 1, 1) := by decide +kernel
theorem dX12_turning_1 : decode cX12_turning 1 = .ok (.invokestatic 148, 3) := by decide +kernel
theorem dX12_turning_4 : decode cX12_turning 4 = .ok (.ifCond .eq 13, 3) := by decide +kernel
theorem dX12_turning_7 : decode cX12_turning 7 = .ok (.iload_n 2, 1) := by decide +kernel
theorem dX12_turning_8 : decode cX12_turning 8 = .ok (.iconst 0, 1) := by decide +kernel
theorem dX12_turning_9 : decode cX12_turning 9 = .ok (.bipush 7, 2) := by decide +kernel
theorem dX12_turning_11 : decode cX12_turning 11 = .ok (.invokestatic 104, 3) := by decide +kernel
theorem dX12_turning_14 : decode cX12_turning 14 = .ok (.ifCond .ne 6, 3) := by decide +kernel
theorem dX12_turning_17 : decode cX12_turning 17 = .ok (.bipush (-2), 2) := by decide +kernel
theorem dX12_turning_19 : decode cX12_turning 19 = .ok (.ireturn, 1) := by decide +kernel
theorem dX12_turning_20 : decode cX12_turning 20 = .ok (.aload_n 0, 1) := by decide +kernel
theorem dX12_turning_21 : decode cX12_turning 21 = .ok (.getfield 154, 3) := by decide +kernel
theorem dX12_turning_24 : decode cX12_turning 24 = .ok (.bipush 8, 2) := by decide +kernel
theorem dX12_turning_26 : decode cX12_turning 26 = .ok (.if_icmp .ne 6, 3) := by decide +kernel
theorem dX12_turning_29 : decode cX12_turning 29 = .ok (.bipush (-4), 2) := by decide +kernel
theorem dX12_turning_31 : decode cX12_turning 31 = .ok (.ireturn, 1) := by decide +kernel
theorem dX12_turning_32 : decode cX12_turning 32 = .ok (.aload_n 0, 1) := by decide +kernel
theorem dX12_turning_33 : decode cX12_turning 33 = .ok (.getfield 31, 3) := by decide +kernel
theorem dX12_turning_36 : decode cX12_turning 36 = .ok (.aload_n 0, 1) := by decide +kernel
theorem dX12_turning_37 : decode cX12_turning 37 = .ok (.getfield 154, 3) := by decide +kernel
theorem dX12_turning_40 : decode cX12_turning 40 = .ok (.iload_n 1, 1) := by decide +kernel
theorem dX12_turning_41 : decode cX12_turning 41 = .ok (.iastore, 1) := by decide +kernel
theorem dX12_turning_42 : decode cX12_turning 42 = .ok (.aload_n 0, 1) := by decide +kernel
theorem dX12_turning_43 : decode cX12_turning 43 = .ok (.getfield 34, 3) := by decide +kernel
theorem dX12_turning_46 : decode cX12_turning 46 = .ok (.aload_n 0, 1) := by decide +kernel
theorem dX12_turning_47 : decode cX12_turning 47 = .ok (.getfield 154, 3) := by decide +kernel
theorem dX12_turning_50 : decode cX12_turning 50 = .ok (.iload_n 2, 1) := by decide +kernel
theorem dX12_turning_51 : decode cX12_turning 51 = .ok (.iastore, 1) := by decide +kernel
theorem dX12_turning_52 : decode cX12_turning 52 = .ok (.aload_n 0, 1) := by decide +kernel
theorem dX12_turning_53 : decode cX12_turning 53 = .ok (.dup, 1) := by decide +kernel
theorem dX12_turning_54 : decode cX12_turning 54 = .ok (.getfield 154, 3) := by decide +kernel
theorem dX12_turning_57 : decode cX12_turning 57 = .ok (.iconst 1, 1) := by decide +kernel
theorem dX12_turning_58 : decode cX12_turning 58 = .ok (.iadd, 1) := by decide +kernel
theorem dX12_turning_59 : decode cX12_turning 59 = .ok (.putfield 154, 3) := by decide +kernel
theorem dX12_turning_62 : decode cX12_turning 62 = .ok (.aload_n 0, 1) := by decide +kernel
theorem dX12_turning_63 : decode cX12_turning 63 = .ok (.getfield 154, 3) := by decide +kernel
theorem dX12_turning_66 : decode cX12_turning 66 = .ok (.ireturn, 1) := by decide +kernel
theorem dX12_knock_0 : decode cX12_knock 0 = .ok (.iload_n 1, 1) := by decide +kernel
theorem dX12_knock_1 : decode cX12_knock 1 = .ok (.invokestatic 148, 3) := by decide +kernel
theorem dX12_knock_4 : decode cX12_knock 4 = .ok (.ifCond .eq 13, 3) := by decide +kernel
theorem dX12_knock_7 : decode cX12_knock 7 = .ok (.iload_n 2, 1) := by decide +kernel
theorem dX12_knock_8 : decode cX12_knock 8 = .ok (.iconst 0, 1) := by decide +kernel
theorem dX12_knock_9 : decode cX12_knock 9 = .ok (.bipush 7, 2) := by decide +kernel
theorem dX12_knock_11 : decode cX12_knock 11 = .ok (.invokestatic 104, 3) := by decide +kernel
theorem dX12_knock_14 : decode cX12_knock 14 = .ok (.ifCond .ne 6, 3) := by decide +kernel
theorem dX12_knock_17 : decode cX12_knock 17 = .ok (.bipush (-2), 2) := by decide +kernel
theorem dX12_knock_19 : decode cX12_knock 19 = .ok (.ireturn, 1) := by decide +kernel
theorem dX12_knock_20 : decode cX12_knock 20 = .ok (.aload_n 0, 1) := by decide +kernel
theorem dX12_knock_21 : decode cX12_knock 21 = .ok (.getfield 157, 3) := by decide +kernel
theorem dX12_knock_24 : decode cX12_knock 24 = .ok (.iconst 4, 1) := by decide +kernel
theorem dX12_knock_25 : decode cX12_knock 25 = .ok (.if_icmp .ne 6, 3) := by decide +kernel
theorem dX12_knock_28 : decode cX12_knock 28 = .ok (.bipush (-4), 2) := by decide +kernel
theorem dX12_knock_30 : decode cX12_knock 30 = .ok (.ireturn, 1) := by decide +kernel
theorem dX12_knock_31 : decode cX12_knock 31 = .ok (.aload_n 0, 1) := by decide +kernel
theorem dX12_knock_32 : decode cX12_knock 32 = .ok (.getfield 37, 3) := by decide +kernel
theorem dX12_knock_35 : decode cX12_knock 35 = .ok (.aload_n 0, 1) := by decide +kernel
theorem dX12_knock_36 : decode cX12_knock 36 = .ok (.getfield 157, 3) := by decide +kernel
theorem dX12_knock_39 : decode cX12_knock 39 = .ok (.iload_n 1, 1) := by decide +kernel
theorem dX12_knock_40 : decode cX12_knock 40 = .ok (.iastore, 1) := by decide +kernel
theorem dX12_knock_41 : decode cX12_knock 41 = .ok (.aload_n 0, 1) := by decide +kernel
theorem dX12_knock_42 : decode cX12_knock 42 = .ok (.getfield 40, 3) := by decide +kernel
theorem dX12_knock_45 : decode cX12_knock 45 = .ok (.aload_n 0, 1) := by decide +kernel
theorem dX12_knock_46 : decode cX12_knock 46 = .ok (.getfield 157, 3) := by decide +kernel
theorem dX12_knock_49 : decode cX12_knock 49 = .ok (.iload_n 2, 1) := by decide +kernel
theorem dX12_knock_50 : decode cX12_knock 50 = .ok (.iastore, 1) := by decide +kernel
theorem dX12_knock_51 : decode cX12_knock 51 = .ok (.aload_n 0, 1) := by decide +kernel
theorem dX12_knock_52 : decode cX12_knock 52 = .ok (.dup, 1) := by decide +kernel
theorem dX12_knock_53 : decode cX12_knock 53 = .ok (.getfield 157, 3) := by decide +kernel
theorem dX12_knock_56 : decode cX12_knock 56 = .ok (.iconst 1, 1) := by decide +kernel
theorem dX12_knock_57 : decode cX12_knock 57 = .ok (.iadd, 1) := by decide +kernel
theorem dX12_knock_58 : decode cX12_knock 58 = .ok (.putfield 157, 3) := by decide +kernel
theorem dX12_knock_61 : decode cX12_knock 61 = .ok (.aload_n 0, 1) := by decide +kernel
theorem dX12_knock_62 : decode cX12_knock 62 = .ok (.getfield 157, 3) := by decide +kernel
theorem dX12_knock_65 : decode cX12_knock 65 = .ok (.ireturn, 1) := by decide +kernel
theorem dX12_back_0 : decode cX12_back 0 = .ok (.iload_n 1, 1) := by decide +kernel
theorem dX12_back_1 : decode cX12_back 1 = .ok (.iconst 0, 1) := by decide +kernel
theorem dX12_back_2 : decode cX12_back 2 = .ok (.iconst 1, 1) := by decide +kernel
theorem dX12_back_3 : decode cX12_back 3 = .ok (.invokestatic 104, 3) := by decide +kernel
theorem dX12_back_6 : decode cX12_back 6 = .ok (.ifCond .ne 6, 3) := by decide +kernel
theorem dX12_back_9 : decode cX12_back 9 = .ok (.bipush (-2), 2) := by decide +kernel
theorem dX12_back_11 : decode cX12_back 11 = .ok (.ireturn, 1) := by decide +kernel
theorem dX12_back_12 : decode cX12_back 12 = .ok (.iload_n 1, 1) := by decide +kernel
theorem dX12_back_13 : decode cX12_back 13 = .ok (.ifCond .ne 10, 3) := by decide +kernel
theorem dX12_back_16 : decode cX12_back 16 = .ok (.aload_n 0, 1) := by decide +kernel
theorem dX12_back_17 : decode cX12_back 17 = .ok (.getfield 154, 3) := by decide +kernel
theorem dX12_back_20 : decode cX12_back 20 = .ok (.goto 7, 3) := by decide +kernel
theorem dX12_back_23 : decode cX12_back 23 = .ok (.aload_n 0, 1) := by decide +kernel
theorem dX12_back_24 : decode cX12_back 24 = .ok (.getfield 157, 3) := by decide +kernel
theorem dX12_back_27 : decode cX12_back 27 = .ok (.istore_n 2, 1) := by decide +kernel
theorem dX12_back_28 : decode cX12_back 28 = .ok (.iload_n 2, 1) := by decide +kernel
theorem dX12_back_29 : decode cX12_back 29 = .ok (.ifCond .ne 6, 3) := by decide +kernel
theorem dX12_back_32 : decode cX12_back 32 = .ok (.bipush (-3), 2) := by decide +kernel
theorem dX12_back_34 : decode cX12_back 34 = .ok (.ireturn, 1) := by decide +kernel
theorem dX12_back_35 : decode cX12_back 35 = .ok (.aload_n 0, 1) := by decide +kernel
theorem dX12_back_36 : decode cX12_back 36 = .ok (.dup, 1) := by decide +kernel
theorem dX12_back_37 : decode cX12_back 37 = .ok (.getfield 154, 3) := by decide +kernel
theorem dX12_back_40 : decode cX12_back 40 = .ok (.iload_n 1, 1) := by decide +kernel
theorem dX12_back_41 : decode cX12_back 41 = .ok (.ifCond .ne 7, 3) := by decide +kernel
theorem dX12_back_44 : decode cX12_back 44 = .ok (.iconst 1, 1) := by decide +kernel
theorem dX12_back_45 : decode cX12_back 45 = .ok (.goto 4, 3) := by decide +kernel
theorem dX12_back_48 : decode cX12_back 48 = .ok (.iconst 0, 1) := by decide +kernel
theorem dX12_back_49 : decode cX12_back 49 = .ok (.isub, 1) := by decide +kernel
theorem dX12_back_50 : decode cX12_back 50 = .ok (.putfield 154, 3) := by decide +kernel
theorem dX12_back_53 : decode cX12_back 53 = .ok (.aload_n 0, 1) := by decide +kernel
theorem dX12_back_54 : decode cX12_back 54 = .ok (.dup, 1) := by decide +kernel
theorem dX12_back_55 : decode cX12_back 55 = .ok (.getfield 157, 3) := by decide +kernel
theorem dX12_back_58 : decode cX12_back 58 = .ok (.iload_n 1, 1) := by decide +kernel
theorem dX12_back_59 : decode cX12_back 59 = .ok (.iconst 1, 1) := by decide +kernel
theorem dX12_back_60 : decode cX12_back 60 = .ok (.if_icmp .ne 7, 3) := by decide +kernel
theorem dX12_back_63 : decode cX12_back 63 = .ok (.iconst 1, 1) := by decide +kernel
theorem dX12_back_64 : decode cX12_back 64 = .ok (.goto 4, 3) := by decide +kernel
theorem dX12_back_67 : decode cX12_back 67 = .ok (.iconst 0, 1) := by decide +kernel
theorem dX12_back_68 : decode cX12_back 68 = .ok (.isub, 1) := by decide +kernel
theorem dX12_back_69 : decode cX12_back 69 = .ok (.putfield 157, 3) := by decide +kernel
theorem dX12_back_72 : decode cX12_back 72 = .ok (.iload_n 2, 1) := by decide +kernel
theorem dX12_back_73 : decode cX12_back 73 = .ok (.iconst 1, 1) := by decide +kernel
theorem dX12_back_74 : decode cX12_back 74 = .ok (.isub, 1) := by decide +kernel
theorem dX12_back_75 : decode cX12_back 75 = .ok (.ireturn, 1) := by decide +kernel
theorem dX12_read_0 : decode cX12_read 0 = .ok (.iload_n 1, 1) := by decide +kernel
theorem dX12_read_1 : decode cX12_read 1 = .ok (.invokestatic 160, 3) := by decide +kernel
theorem dX12_read_4 : decode cX12_read 4 = .ok (.ifCond .ne 6, 3) := by decide +kernel
theorem dX12_read_7 : decode cX12_read 7 = .ok (.bipush (-2), 2) := by decide +kernel
theorem dX12_read_9 : decode cX12_read 9 = .ok (.ireturn, 1) := by decide +kernel
theorem dX12_read_10 : decode cX12_read 10 = .ok (.aload_n 0, 1) := by decide +kernel
theorem dX12_read_11 : decode cX12_read 11 = .ok (.getfield 79, 3) := by decide +kernel
theorem dX12_read_14 : decode cX12_read 14 = .ok (.iload_n 1, 1) := by decide +kernel
theorem dX12_read_15 : decode cX12_read 15 = .ok (.baload, 1) := by decide +kernel
theorem dX12_read_16 : decode cX12_read 16 = .ok (.ifCond .ne 9, 3) := by decide +kernel
theorem dX12_read_19 : decode cX12_read 19 = .ok (.aload_n 0, 1) := by decide +kernel
theorem dX12_read_20 : decode cX12_read 20 = .ok (.iconst 1, 1) := by decide +kernel
theorem dX12_read_21 : decode cX12_read 21 = .ok (.invokevirtual 163, 3) := by decide +kernel
theorem dX12_read_24 : decode cX12_read 24 = .ok (.ireturn, 1) := by decide +kernel
theorem dX12_read_25 : decode cX12_read 25 = .ok (.iconst 0, 1) := by decide +kernel
theorem dX12_read_26 : decode cX12_read 26 = .ok (.istore_n 2, 1) := by decide +kernel
theorem dX12_read_27 : decode cX12_read 27 = .ok (.iconst 2, 1) := by decide +kernel
theorem dX12_read_28 : decode cX12_read 28 = .ok (.iload_n 2, 1) := by decide +kernel
theorem dX12_read_29 : decode cX12_read 29 = .ok (.imul, 1) := by decide +kernel
theorem dX12_read_30 : decode cX12_read 30 = .ok (.iconst 1, 1) := by decide +kernel
theorem dX12_read_31 : decode cX12_read 31 = .ok (.iadd, 1) := by decide +kernel
theorem dX12_read_32 : decode cX12_read 32 = .ok (.aload_n 0, 1) := by decide +kernel
theorem dX12_read_33 : decode cX12_read 33 = .ok (.getfield 86, 3) := by decide +kernel
theorem dX12_read_36 : decode cX12_read 36 = .ok (.iload_n 1, 1) := by decide +kernel
theorem dX12_read_37 : decode cX12_read 37 = .ok (.iaload, 1) := by decide +kernel
theorem dX12_read_38 : decode cX12_read 38 = .ok (.if_icmp .ge 44, 3) := by decide +kernel
theorem dX12_read_41 : decode cX12_read 41 = .ok (.aload_n 0, 1) := by decide +kernel
theorem dX12_read_42 : decode cX12_read 42 = .ok (.aload_n 0, 1) := by decide +kernel
theorem dX12_read_43 : decode cX12_read 43 = .ok (.getfield 89, 3) := by decide +kernel
theorem dX12_read_46 : decode cX12_read 46 = .ok (.bipush 60, 2) := by decide +kernel
theorem dX12_read_48 : decode cX12_read 48 = .ok (.iload_n 1, 1) := by decide +kernel
theorem dX12_read_49 : decode cX12_read 49 = .ok (.imul, 1) := by decide +kernel
theorem dX12_read_50 : decode cX12_read 50 = .ok (.iconst 2, 1) := by decide +kernel
theorem dX12_read_51 : decode cX12_read 51 = .ok (.iload_n 2, 1) := by decide +kernel
theorem dX12_read_52 : decode cX12_read 52 = .ok (.imul, 1) := by decide +kernel
theorem dX12_read_53 : decode cX12_read 53 = .ok (.iadd, 1) := by decide +kernel
theorem dX12_read_54 : decode cX12_read 54 = .ok (.iaload, 1) := by decide +kernel
theorem dX12_read_55 : decode cX12_read 55 = .ok (.aload_n 0, 1) := by decide +kernel
theorem dX12_read_56 : decode cX12_read 56 = .ok (.getfield 89, 3) := by decide +kernel
theorem dX12_read_59 : decode cX12_read 59 = .ok (.bipush 60, 2) := by decide +kernel
theorem dX12_read_61 : decode cX12_read 61 = .ok (.iload_n 1, 1) := by decide +kernel
theorem dX12_read_62 : decode cX12_read 62 = .ok (.imul, 1) := by decide +kernel
theorem dX12_read_63 : decode cX12_read 63 = .ok (.iconst 2, 1) := by decide +kernel
theorem dX12_read_64 : decode cX12_read 64 = .ok (.iload_n 2, 1) := by decide +kernel
theorem dX12_read_65 : decode cX12_read 65 = .ok (.imul, 1) := by decide +kernel
theorem dX12_read_66 : decode cX12_read 66 = .ok (.iadd, 1) := by decide +kernel
theorem dX12_read_67 : decode cX12_read 67 = .ok (.iconst 1, 1) := by decide +kernel
theorem dX12_read_68 : decode cX12_read 68 = .ok (.iadd, 1) := by decide +kernel
theorem dX12_read_69 : decode cX12_read 69 = .ok (.iaload, 1) := by decide +kernel
theorem dX12_read_70 : decode cX12_read 70 = .ok (.invokevirtual 166, 3) := by decide +kernel
theorem dX12_read_73 : decode cX12_read 73 = .ok (.ifCond .le 9, 3) := by decide +kernel
theorem dX12_read_76 : decode cX12_read 76 = .ok (.iinc 2 1, 3) := by decide +kernel
theorem dX12_read_79 : decode cX12_read 79 = .ok (.goto (-52), 3) := by decide +kernel
theorem dX12_read_82 : decode cX12_read 82 = .ok (.iload_n 2, 1) := by decide +kernel
theorem dX12_read_83 : decode cX12_read 83 = .ok (.ireturn, 1) := by decide +kernel
theorem dX12_asTold_0 : decode cX12_asTold 0 = .ok (.aload_n 0, 1) := by decide +kernel
theorem dX12_asTold_1 : decode cX12_asTold 1 = .ok (.invokevirtual 139, 3) := by decide +kernel
theorem dX12_asTold_4 : decode cX12_asTold 4 = .ok (.iconst 0, 1) := by decide +kernel
theorem dX12_asTold_5 : decode cX12_asTold 5 = .ok (.istore_n 1, 1) := by decide +kernel
theorem dX12_asTold_6 : decode cX12_asTold 6 = .ok (.iload_n 1, 1) := by decide +kernel
theorem dX12_asTold_7 : decode cX12_asTold 7 = .ok (.bipush 30, 2) := by decide +kernel
theorem dX12_asTold_9 : decode cX12_asTold 9 = .ok (.if_icmp .ge 21, 3) := by decide +kernel
theorem dX12_asTold_12 : decode cX12_asTold 12 = .ok (.aload_n 0, 1) := by decide +kernel
theorem dX12_asTold_13 : decode cX12_asTold 13 = .ok (.getfield 43, 3) := by decide +kernel
theorem dX12_asTold_16 : decode cX12_asTold 16 = .ok (.iload_n 1, 1) := by decide +kernel
theorem dX12_asTold_17 : decode cX12_asTold 17 = .ok (.aload_n 0, 1) := by decide +kernel
theorem dX12_asTold_18 : decode cX12_asTold 18 = .ok (.getfield 28, 3) := by decide +kernel
theorem dX12_asTold_21 : decode cX12_asTold 21 = .ok (.iload_n 1, 1) := by decide +kernel
theorem dX12_asTold_22 : decode cX12_asTold 22 = .ok (.iaload, 1) := by decide +kernel
theorem dX12_asTold_23 : decode cX12_asTold 23 = .ok (.iastore, 1) := by decide +kernel
theorem dX12_asTold_24 : decode cX12_asTold 24 = .ok (.iinc 1 1, 3) := by decide +kernel
theorem dX12_asTold_27 : decode cX12_asTold 27 = .ok (.goto (-21), 3) := by decide +kernel
theorem dX12_asTold_30 : decode cX12_asTold 30 = .ok (.return_, 1) := by decide +kernel
theorem dX12_turns_0 : decode cX12_turns 0 = .ok (.aload_n 0, 1) := by decide +kernel
theorem dX12_turns_1 : decode cX12_turns 1 = .ok (.iconst 0, 1) := by decide +kernel
theorem dX12_turns_2 : decode cX12_turns 2 = .ok (.putfield 169, 3) := by decide +kernel
theorem dX12_turns_5 : decode cX12_turns 5 = .ok (.aload_n 0, 1) := by decide +kernel
theorem dX12_turns_6 : decode cX12_turns 6 = .ok (.iconst 0, 1) := by decide +kernel
theorem dX12_turns_7 : decode cX12_turns 7 = .ok (.putfield 172, 3) := by decide +kernel
theorem dX12_turns_10 : decode cX12_turns 10 = .ok (.iconst 0, 1) := by decide +kernel
theorem dX12_turns_11 : decode cX12_turns 11 = .ok (.istore_n 3, 1) := by decide +kernel
theorem dX12_turns_12 : decode cX12_turns 12 = .ok (.iload_n 3, 1) := by decide +kernel
theorem dX12_turns_13 : decode cX12_turns 13 = .ok (.aload_n 0, 1) := by decide +kernel
theorem dX12_turns_14 : decode cX12_turns 14 = .ok (.getfield 154, 3) := by decide +kernel
theorem dX12_turns_17 : decode cX12_turns 17 = .ok (.if_icmp .ge 48, 3) := by decide +kernel
theorem dX12_turns_20 : decode cX12_turns 20 = .ok (.aload_n 0, 1) := by decide +kernel
theorem dX12_turns_21 : decode cX12_turns 21 = .ok (.dup, 1) := by decide +kernel
theorem dX12_turns_22 : decode cX12_turns 22 = .ok (.getfield 169, 3) := by decide +kernel
theorem dX12_turns_25 : decode cX12_turns 25 = .ok (.aload_n 0, 1) := by decide +kernel
theorem dX12_turns_26 : decode cX12_turns 26 = .ok (.getfield 34, 3) := by decide +kernel
theorem dX12_turns_29 : decode cX12_turns 29 = .ok (.iload_n 3, 1) := by decide +kernel
theorem dX12_turns_30 : decode cX12_turns 30 = .ok (.iaload, 1) := by decide +kernel
theorem dX12_turns_31 : decode cX12_turns 31 = .ok (.iload_n 1, 1) := by decide +kernel
theorem dX12_turns_32 : decode cX12_turns 32 = .ok (.if_icmp .ne 22, 3) := by decide +kernel
theorem dX12_turns_35 : decode cX12_turns 35 = .ok (.iload_n 2, 1) := by decide +kernel
theorem dX12_turns_36 : decode cX12_turns 36 = .ok (.iload_n 3, 1) := by decide +kernel
theorem dX12_turns_37 : decode cX12_turns 37 = .ok (.invokestatic 175, 3) := by decide +kernel
theorem dX12_turns_40 : decode cX12_turns 40 = .ok (.ifCond .ne 14, 3) := by decide +kernel
theorem dX12_turns_43 : decode cX12_turns 43 = .ok (.iconst 1, 1) := by decide +kernel
theorem dX12_turns_44 : decode cX12_turns 44 = .ok (.aload_n 0, 1) := by decide +kernel
theorem dX12_turns_45 : decode cX12_turns 45 = .ok (.getfield 31, 3) := by decide +kernel
theorem dX12_turns_48 : decode cX12_turns 48 = .ok (.iload_n 3, 1) := by decide +kernel
theorem dX12_turns_49 : decode cX12_turns 49 = .ok (.iaload, 1) := by decide +kernel
theorem dX12_turns_50 : decode cX12_turns 50 = .ok (.ishl, 1) := by decide +kernel
theorem dX12_turns_51 : decode cX12_turns 51 = .ok (.goto 4, 3) := by decide +kernel
theorem dX12_turns_54 : decode cX12_turns 54 = .ok (.iconst 0, 1) := by decide +kernel
theorem dX12_turns_55 : decode cX12_turns 55 = .ok (.ior, 1) := by decide +kernel
theorem dX12_turns_56 : decode cX12_turns 56 = .ok (.putfield 169, 3) := by decide +kernel
theorem dX12_turns_59 : decode cX12_turns 59 = .ok (.iinc 3 1, 3) := by decide +kernel
theorem dX12_turns_62 : decode cX12_turns 62 = .ok (.goto (-50), 3) := by decide +kernel
theorem dX12_turns_65 : decode cX12_turns 65 = .ok (.iconst 0, 1) := by decide +kernel
theorem dX12_turns_66 : decode cX12_turns 66 = .ok (.istore_n 3, 1) := by decide +kernel
theorem dX12_turns_67 : decode cX12_turns 67 = .ok (.iload_n 3, 1) := by decide +kernel
theorem dX12_turns_68 : decode cX12_turns 68 = .ok (.aload_n 0, 1) := by decide +kernel
theorem dX12_turns_69 : decode cX12_turns 69 = .ok (.getfield 157, 3) := by decide +kernel
theorem dX12_turns_72 : decode cX12_turns 72 = .ok (.if_icmp .ge 40, 3) := by decide +kernel
theorem dX12_turns_75 : decode cX12_turns 75 = .ok (.aload_n 0, 1) := by decide +kernel
theorem dX12_turns_76 : decode cX12_turns 76 = .ok (.dup, 1) := by decide +kernel
theorem dX12_turns_77 : decode cX12_turns 77 = .ok (.getfield 172, 3) := by decide +kernel
theorem dX12_turns_80 : decode cX12_turns 80 = .ok (.aload_n 0, 1) := by decide +kernel
theorem dX12_turns_81 : decode cX12_turns 81 = .ok (.getfield 40, 3) := by decide +kernel
theorem dX12_turns_84 : decode cX12_turns 84 = .ok (.iload_n 3, 1) := by decide +kernel
theorem dX12_turns_85 : decode cX12_turns 85 = .ok (.iaload, 1) := by decide +kernel
theorem dX12_turns_86 : decode cX12_turns 86 = .ok (.iload_n 1, 1) := by decide +kernel
theorem dX12_turns_87 : decode cX12_turns 87 = .ok (.if_icmp .ne 14, 3) := by decide +kernel
theorem dX12_turns_90 : decode cX12_turns 90 = .ok (.iconst 1, 1) := by decide +kernel
theorem dX12_turns_91 : decode cX12_turns 91 = .ok (.aload_n 0, 1) := by decide +kernel
theorem dX12_turns_92 : decode cX12_turns 92 = .ok (.getfield 37, 3) := by decide +kernel
theorem dX12_turns_95 : decode cX12_turns 95 = .ok (.iload_n 3, 1) := by decide +kernel
theorem dX12_turns_96 : decode cX12_turns 96 = .ok (.iaload, 1) := by decide +kernel
theorem dX12_turns_97 : decode cX12_turns 97 = .ok (.ishl, 1) := by decide +kernel
theorem dX12_turns_98 : decode cX12_turns 98 = .ok (.goto 4, 3) := by decide +kernel
theorem dX12_turns_101 : decode cX12_turns 101 = .ok (.iconst 0, 1) := by decide +kernel
theorem dX12_turns_102 : decode cX12_turns 102 = .ok (.ior, 1) := by decide +kernel
theorem dX12_turns_103 : decode cX12_turns 103 = .ok (.putfield 172, 3) := by decide +kernel
theorem dX12_turns_106 : decode cX12_turns 106 = .ok (.iinc 3 1, 3) := by decide +kernel
theorem dX12_turns_109 : decode cX12_turns 109 = .ok (.goto (-42), 3) := by decide +kernel
theorem dX12_turns_112 : decode cX12_turns 112 = .ok (.return_, 1) := by decide +kernel
theorem dX12_grows_0 : decode cX12_grows 0 = .ok (.aload_n 0, 1) := by decide +kernel
theorem dX12_grows_1 : decode cX12_grows 1 = .ok (.getfield 43, 3) := by decide +kernel
theorem dX12_grows_4 : decode cX12_grows 4 = .ok (.iload_n 2, 1) := by decide +kernel
theorem dX12_grows_5 : decode cX12_grows 5 = .ok (.iaload, 1) := by decide +kernel
theorem dX12_grows_6 : decode cX12_grows 6 = .ok (.istore_n 3, 1) := by decide +kernel
theorem dX12_grows_7 : decode cX12_grows 7 = .ok (.aload_n 0, 1) := by decide +kernel
theorem dX12_grows_8 : decode cX12_grows 8 = .ok (.getfield 169, 3) := by decide +kernel
theorem dX12_grows_11 : decode cX12_grows 11 = .ok (.iload_n 2, 1) := by decide +kernel
theorem dX12_grows_12 : decode cX12_grows 12 = .ok (.invokestatic 175, 3) := by decide +kernel
theorem dX12_grows_15 : decode cX12_grows 15 = .ok (.istore 4, 2) := by decide +kernel
theorem dX12_grows_17 : decode cX12_grows 17 = .ok (.iload_n 2, 1) := by decide +kernel
theorem dX12_grows_18 : decode cX12_grows 18 = .ok (.ifCond .le 20, 3) := by decide +kernel
theorem dX12_grows_21 : decode cX12_grows 21 = .ok (.aload_n 0, 1) := by decide +kernel
theorem dX12_grows_22 : decode cX12_grows 22 = .ok (.getfield 169, 3) := by decide +kernel
theorem dX12_grows_25 : decode cX12_grows 25 = .ok (.iload_n 2, 1) := by decide +kernel
theorem dX12_grows_26 : decode cX12_grows 26 = .ok (.iconst 1, 1) := by decide +kernel
theorem dX12_grows_27 : decode cX12_grows 27 = .ok (.isub, 1) := by decide +kernel
theorem dX12_grows_28 : decode cX12_grows 28 = .ok (.invokestatic 175, 3) := by decide +kernel
theorem dX12_grows_31 : decode cX12_grows 31 = .ok (.ifCond .eq 7, 3) := by decide +kernel
theorem dX12_grows_34 : decode cX12_grows 34 = .ok (.iconst 1, 1) := by decide +kernel
theorem dX12_grows_35 : decode cX12_grows 35 = .ok (.goto 4, 3) := by decide +kernel
theorem dX12_grows_38 : decode cX12_grows 38 = .ok (.iconst 0, 1) := by decide +kernel
theorem dX12_grows_39 : decode cX12_grows 39 = .ok (.istore 5, 2) := by decide +kernel
theorem dX12_grows_41 : decode cX12_grows 41 = .ok (.aload_n 0, 1) := by decide +kernel
theorem dX12_grows_42 : decode cX12_grows 42 = .ok (.getfield 16, 3) := by decide +kernel
theorem dX12_grows_45 : decode cX12_grows 45 = .ok (.iload_n 1, 1) := by decide +kernel
theorem dX12_grows_46 : decode cX12_grows 46 = .ok (.iaload, 1) := by decide +kernel
theorem dX12_grows_47 : decode cX12_grows 47 = .ok (.ifCond .ne 23, 3) := by decide +kernel
theorem dX12_grows_50 : decode cX12_grows 50 = .ok (.iload 4, 2) := by decide +kernel
theorem dX12_grows_52 : decode cX12_grows 52 = .ok (.ifCond .ne 8, 3) := by decide +kernel
theorem dX12_grows_55 : decode cX12_grows 55 = .ok (.iload 5, 2) := by decide +kernel
theorem dX12_grows_57 : decode cX12_grows 57 = .ok (.ifCond .eq 7, 3) := by decide +kernel
theorem dX12_grows_60 : decode cX12_grows 60 = .ok (.iload_n 3, 1) := by decide +kernel
theorem dX12_grows_61 : decode cX12_grows 61 = .ok (.goto 39, 3) := by decide +kernel
theorem dX12_grows_64 : decode cX12_grows 64 = .ok (.iload_n 3, 1) := by decide +kernel
theorem dX12_grows_65 : decode cX12_grows 65 = .ok (.iconst 2, 1) := by decide +kernel
theorem dX12_grows_66 : decode cX12_grows 66 = .ok (.idiv, 1) := by decide +kernel
theorem dX12_grows_67 : decode cX12_grows 67 = .ok (.goto 33, 3) := by decide +kernel
theorem dX12_grows_70 : decode cX12_grows 70 = .ok (.aload_n 0, 1) := by decide +kernel
theorem dX12_grows_71 : decode cX12_grows 71 = .ok (.getfield 16, 3) := by decide +kernel
theorem dX12_grows_74 : decode cX12_grows 74 = .ok (.iload_n 1, 1) := by decide +kernel
theorem dX12_grows_75 : decode cX12_grows 75 = .ok (.iaload, 1) := by decide +kernel
theorem dX12_grows_76 : decode cX12_grows 76 = .ok (.iconst 1, 1) := by decide +kernel
theorem dX12_grows_77 : decode cX12_grows 77 = .ok (.if_icmp .ne 20, 3) := by decide +kernel
theorem dX12_grows_80 : decode cX12_grows 80 = .ok (.iload 4, 2) := by decide +kernel
theorem dX12_grows_82 : decode cX12_grows 82 = .ok (.ifCond .eq 7, 3) := by decide +kernel
theorem dX12_grows_85 : decode cX12_grows 85 = .ok (.iconst 0, 1) := by decide +kernel
theorem dX12_grows_86 : decode cX12_grows 86 = .ok (.goto 14, 3) := by decide +kernel
theorem dX12_grows_89 : decode cX12_grows 89 = .ok (.iload_n 3, 1) := by decide +kernel
theorem dX12_grows_90 : decode cX12_grows 90 = .ok (.iload_n 3, 1) := by decide +kernel
theorem dX12_grows_91 : decode cX12_grows 91 = .ok (.iconst 2, 1) := by decide +kernel
theorem dX12_grows_92 : decode cX12_grows 92 = .ok (.idiv, 1) := by decide +kernel
theorem dX12_grows_93 : decode cX12_grows 93 = .ok (.iadd, 1) := by decide +kernel
theorem dX12_grows_94 : decode cX12_grows 94 = .ok (.goto 6, 3) := by decide +kernel
theorem dX12_grows_97 : decode cX12_grows 97 = .ok (.iload_n 3, 1) := by decide +kernel
theorem dX12_grows_98 : decode cX12_grows 98 = .ok (.iconst 1, 1) := by decide +kernel
theorem dX12_grows_99 : decode cX12_grows 99 = .ok (.iadd, 1) := by decide +kernel
theorem dX12_grows_100 : decode cX12_grows 100 = .ok (.istore 6, 2) := by decide +kernel
theorem dX12_grows_102 : decode cX12_grows 102 = .ok (.iload 6, 2) := by decide +kernel
theorem dX12_grows_104 : decode cX12_grows 104 = .ok (.aload_n 0, 1) := by decide +kernel
theorem dX12_grows_105 : decode cX12_grows 105 = .ok (.getfield 172, 3) := by decide +kernel
theorem dX12_grows_108 : decode cX12_grows 108 = .ok (.iload_n 2, 1) := by decide +kernel
theorem dX12_grows_109 : decode cX12_grows 109 = .ok (.invokestatic 175, 3) := by decide +kernel
theorem dX12_grows_112 : decode cX12_grows 112 = .ok (.ifCond .eq 7, 3) := by decide +kernel
theorem dX12_grows_115 : decode cX12_grows 115 = .ok (.iconst 2, 1) := by decide +kernel
theorem dX12_grows_116 : decode cX12_grows 116 = .ok (.goto 4, 3) := by decide +kernel
theorem dX12_grows_119 : decode cX12_grows 119 = .ok (.iconst 0, 1) := by decide +kernel
theorem dX12_grows_120 : decode cX12_grows 120 = .ok (.iadd, 1) := by decide +kernel
theorem dX12_grows_121 : decode cX12_grows 121 = .ok (.ireturn, 1) := by decide +kernel
theorem dX12_goes_0 : decode cX12_goes 0 = .ok (.iconst 0, 1) := by decide +kernel
theorem dX12_goes_1 : decode cX12_goes 1 = .ok (.istore_n 2, 1) := by decide +kernel
theorem dX12_goes_2 : decode cX12_goes 2 = .ok (.iconst 0, 1) := by decide +kernel
theorem dX12_goes_3 : decode cX12_goes 3 = .ok (.istore_n 3, 1) := by decide +kernel
theorem dX12_goes_4 : decode cX12_goes 4 = .ok (.iconst 0, 1) := by decide +kernel
theorem dX12_goes_5 : decode cX12_goes 5 = .ok (.istore 4, 2) := by decide +kernel
theorem dX12_goes_7 : decode cX12_goes 7 = .ok (.iload 4, 2) := by decide +kernel
theorem dX12_goes_9 : decode cX12_goes 9 = .ok (.bipush 30, 2) := by decide +kernel
theorem dX12_goes_11 : decode cX12_goes 11 = .ok (.if_icmp .ge 215, 3) := by decide +kernel
theorem dX12_goes_14 : decode cX12_goes 14 = .ok (.iload 4, 2) := by decide +kernel
theorem dX12_goes_16 : decode cX12_goes 16 = .ok (.aload_n 0, 1) := by decide +kernel
theorem dX12_goes_17 : decode cX12_goes 17 = .ok (.getfield 19, 3) := by decide +kernel
theorem dX12_goes_20 : decode cX12_goes 20 = .ok (.iload_n 1, 1) := by decide +kernel
theorem dX12_goes_21 : decode cX12_goes 21 = .ok (.iaload, 1) := by decide +kernel
theorem dX12_goes_22 : decode cX12_goes 22 = .ok (.if_icmp .lt 11, 3) := by decide +kernel
theorem dX12_goes_25 : decode cX12_goes 25 = .ok (.iload_n 3, 1) := by decide +kernel
theorem dX12_goes_26 : decode cX12_goes 26 = .ok (.ifCond .ne 7, 3) := by decide +kernel
theorem dX12_goes_29 : decode cX12_goes 29 = .ok (.iconst 1, 1) := by decide +kernel
theorem dX12_goes_30 : decode cX12_goes 30 = .ok (.goto 4, 3) := by decide +kernel
theorem dX12_goes_33 : decode cX12_goes 33 = .ok (.iconst 0, 1) := by decide +kernel
theorem dX12_goes_34 : decode cX12_goes 34 = .ok (.istore 5, 2) := by decide +kernel
theorem dX12_goes_36 : decode cX12_goes 36 = .ok (.iload_n 2, 1) := by decide +kernel
theorem dX12_goes_37 : decode cX12_goes 37 = .ok (.iload 5, 2) := by decide +kernel
theorem dX12_goes_39 : decode cX12_goes 39 = .ok (.ifCond .eq 13, 3) := by decide +kernel
theorem dX12_goes_42 : decode cX12_goes 42 = .ok (.aload_n 0, 1) := by decide +kernel
theorem dX12_goes_43 : decode cX12_goes 43 = .ok (.iload_n 1, 1) := by decide +kernel
theorem dX12_goes_44 : decode cX12_goes 44 = .ok (.iload 4, 2) := by decide +kernel
theorem dX12_goes_46 : decode cX12_goes 46 = .ok (.invokevirtual 179, 3) := by decide +kernel
theorem dX12_goes_49 : decode cX12_goes 49 = .ok (.goto 4, 3) := by decide +kernel
theorem dX12_goes_52 : decode cX12_goes 52 = .ok (.iconst 0, 1) := by decide +kernel
theorem dX12_goes_53 : decode cX12_goes 53 = .ok (.iadd, 1) := by decide +kernel
theorem dX12_goes_54 : decode cX12_goes 54 = .ok (.istore_n 2, 1) := by decide +kernel
theorem dX12_goes_55 : decode cX12_goes 55 = .ok (.iload_n 2, 1) := by decide +kernel
theorem dX12_goes_56 : decode cX12_goes 56 = .ok (.aload_n 0, 1) := by decide +kernel
theorem dX12_goes_57 : decode cX12_goes 57 = .ok (.getfield 95, 3) := by decide +kernel
theorem dX12_goes_60 : decode cX12_goes 60 = .ok (.idiv, 1) := by decide +kernel
theorem dX12_goes_61 : decode cX12_goes 61 = .ok (.istore 6, 2) := by decide +kernel
theorem dX12_goes_63 : decode cX12_goes 63 = .ok (.iload 5, 2) := by decide +kernel
theorem dX12_goes_65 : decode cX12_goes 65 = .ok (.ifCond .eq 18, 3) := by decide +kernel
theorem dX12_goes_68 : decode cX12_goes 68 = .ok (.iload 6, 2) := by decide +kernel
theorem dX12_goes_70 : decode cX12_goes 70 = .ok (.aload_n 0, 1) := by decide +kernel
theorem dX12_goes_71 : decode cX12_goes 71 = .ok (.getfield 22, 3) := by decide +kernel
theorem dX12_goes_74 : decode cX12_goes 74 = .ok (.iload_n 1, 1) := by decide +kernel
theorem dX12_goes_75 : decode cX12_goes 75 = .ok (.iaload, 1) := by decide +kernel
theorem dX12_goes_76 : decode cX12_goes 76 = .ok (.if_icmp .ge 7, 3) := by decide +kernel
theorem dX12_goes_79 : decode cX12_goes 79 = .ok (.iconst 1, 1) := by decide +kernel
theorem dX12_goes_80 : decode cX12_goes 80 = .ok (.goto 4, 3) := by decide +kernel
theorem dX12_goes_83 : decode cX12_goes 83 = .ok (.iconst 0, 1) := by decide +kernel
theorem dX12_goes_84 : decode cX12_goes 84 = .ok (.istore 7, 2) := by decide +kernel
theorem dX12_goes_86 : decode cX12_goes 86 = .ok (.iload 7, 2) := by decide +kernel
theorem dX12_goes_88 : decode cX12_goes 88 = .ok (.ifCond .eq 17, 3) := by decide +kernel
theorem dX12_goes_91 : decode cX12_goes 91 = .ok (.aload_n 0, 1) := by decide +kernel
theorem dX12_goes_92 : decode cX12_goes 92 = .ok (.getfield 25, 3) := by decide +kernel
theorem dX12_goes_95 : decode cX12_goes 95 = .ok (.iconst 5, 1) := by decide +kernel
theorem dX12_goes_96 : decode cX12_goes 96 = .ok (.iload_n 1, 1) := by decide +kernel
theorem dX12_goes_97 : decode cX12_goes 97 = .ok (.imul, 1) := by decide +kernel
theorem dX12_goes_98 : decode cX12_goes 98 = .ok (.iload 6, 2) := by decide +kernel
theorem dX12_goes_100 : decode cX12_goes 100 = .ok (.iadd, 1) := by decide +kernel
theorem dX12_goes_101 : decode cX12_goes 101 = .ok (.iaload, 1) := by decide +kernel
theorem dX12_goes_102 : decode cX12_goes 102 = .ok (.goto 4, 3) := by decide +kernel
theorem dX12_goes_105 : decode cX12_goes 105 = .ok (.iconst (-1), 1) := by decide +kernel
theorem dX12_goes_106 : decode cX12_goes 106 = .ok (.istore 8, 2) := by decide +kernel
theorem dX12_goes_108 : decode cX12_goes 108 = .ok (.iload 7, 2) := by decide +kernel
theorem dX12_goes_110 : decode cX12_goes 110 = .ok (.ifCond .eq 26, 3) := by decide +kernel
theorem dX12_goes_113 : decode cX12_goes 113 = .ok (.iload 8, 2) := by decide +kernel
theorem dX12_goes_115 : decode cX12_goes 115 = .ok (.aload_n 0, 1) := by decide +kernel
theorem dX12_goes_116 : decode cX12_goes 116 = .ok (.getfield 99, 3) := by decide +kernel
theorem dX12_goes_119 : decode cX12_goes 119 = .ok (.if_icmp .lt 17, 3) := by decide +kernel
theorem dX12_goes_122 : decode cX12_goes 122 = .ok (.aload_n 0, 1) := by decide +kernel
theorem dX12_goes_123 : decode cX12_goes 123 = .ok (.getfield 16, 3) := by decide +kernel
theorem dX12_goes_126 : decode cX12_goes 126 = .ok (.iload_n 1, 1) := by decide +kernel
theorem dX12_goes_127 : decode cX12_goes 127 = .ok (.iaload, 1) := by decide +kernel
theorem dX12_goes_128 : decode cX12_goes 128 = .ok (.iconst 2, 1) := by decide +kernel
theorem dX12_goes_129 : decode cX12_goes 129 = .ok (.if_icmp .ge 7, 3) := by decide +kernel
theorem dX12_goes_132 : decode cX12_goes 132 = .ok (.iconst 1, 1) := by decide +kernel
theorem dX12_goes_133 : decode cX12_goes 133 = .ok (.goto 4, 3) := by decide +kernel
theorem dX12_goes_136 : decode cX12_goes 136 = .ok (.iconst 0, 1) := by decide +kernel
theorem dX12_goes_137 : decode cX12_goes 137 = .ok (.istore 9, 2) := by decide +kernel
theorem dX12_goes_139 : decode cX12_goes 139 = .ok (.aload_n 0, 1) := by decide +kernel
theorem dX12_goes_140 : decode cX12_goes 140 = .ok (.getfield 46, 3) := by decide +kernel
theorem dX12_goes_143 : decode cX12_goes 143 = .ok (.iload 4, 2) := by decide +kernel
theorem dX12_goes_145 : decode cX12_goes 145 = .ok (.iload_n 2, 1) := by decide +kernel
theorem dX12_goes_146 : decode cX12_goes 146 = .ok (.iastore, 1) := by decide +kernel
theorem dX12_goes_147 : decode cX12_goes 147 = .ok (.aload_n 0, 1) := by decide +kernel
theorem dX12_goes_148 : decode cX12_goes 148 = .ok (.getfield 49, 3) := by decide +kernel
theorem dX12_goes_151 : decode cX12_goes 151 = .ok (.iload 4, 2) := by decide +kernel
theorem dX12_goes_153 : decode cX12_goes 153 = .ok (.iload 8, 2) := by decide +kernel
theorem dX12_goes_155 : decode cX12_goes 155 = .ok (.iastore, 1) := by decide +kernel
theorem dX12_goes_156 : decode cX12_goes 156 = .ok (.aload_n 0, 1) := by decide +kernel
theorem dX12_goes_157 : decode cX12_goes 157 = .ok (.getfield 52, 3) := by decide +kernel
theorem dX12_goes_160 : decode cX12_goes 160 = .ok (.iload 4, 2) := by decide +kernel
theorem dX12_goes_162 : decode cX12_goes 162 = .ok (.iload 4, 2) := by decide +kernel
theorem dX12_goes_164 : decode cX12_goes 164 = .ok (.aload_n 0, 1) := by decide +kernel
theorem dX12_goes_165 : decode cX12_goes 165 = .ok (.getfield 19, 3) := by decide +kernel
theorem dX12_goes_168 : decode cX12_goes 168 = .ok (.iload_n 1, 1) := by decide +kernel
theorem dX12_goes_169 : decode cX12_goes 169 = .ok (.iaload, 1) := by decide +kernel
theorem dX12_goes_170 : decode cX12_goes 170 = .ok (.if_icmp .ge 7, 3) := by decide +kernel
theorem dX12_goes_173 : decode cX12_goes 173 = .ok (.iconst 0, 1) := by decide +kernel
theorem dX12_goes_174 : decode cX12_goes 174 = .ok (.goto 30, 3) := by decide +kernel
theorem dX12_goes_177 : decode cX12_goes 177 = .ok (.iload_n 3, 1) := by decide +kernel
theorem dX12_goes_178 : decode cX12_goes 178 = .ok (.ifCond .eq 7, 3) := by decide +kernel
theorem dX12_goes_181 : decode cX12_goes 181 = .ok (.iconst 4, 1) := by decide +kernel
theorem dX12_goes_182 : decode cX12_goes 182 = .ok (.goto 22, 3) := by decide +kernel
theorem dX12_goes_185 : decode cX12_goes 185 = .ok (.iload 7, 2) := by decide +kernel
theorem dX12_goes_187 : decode cX12_goes 187 = .ok (.ifCond .ne 7, 3) := by decide +kernel
theorem dX12_goes_190 : decode cX12_goes 190 = .ok (.iconst 2, 1) := by decide +kernel
theorem dX12_goes_191 : decode cX12_goes 191 = .ok (.goto 13, 3) := by decide +kernel
theorem dX12_goes_194 : decode cX12_goes 194 = .ok (.iload 9, 2) := by decide +kernel
theorem dX12_goes_196 : decode cX12_goes 196 = .ok (.ifCond .eq 7, 3) := by decide +kernel
theorem dX12_goes_199 : decode cX12_goes 199 = .ok (.iconst 3, 1) := by decide +kernel
theorem dX12_goes_200 : decode cX12_goes 200 = .ok (.goto 4, 3) := by decide +kernel
theorem dX12_goes_203 : decode cX12_goes 203 = .ok (.iconst 1, 1) := by decide +kernel
theorem dX12_goes_204 : decode cX12_goes 204 = .ok (.iastore, 1) := by decide +kernel
theorem dX12_goes_205 : decode cX12_goes 205 = .ok (.iload_n 3, 1) := by decide +kernel
theorem dX12_goes_206 : decode cX12_goes 206 = .ok (.ifCond .ne 8, 3) := by decide +kernel
theorem dX12_goes_209 : decode cX12_goes 209 = .ok (.iload 9, 2) := by decide +kernel
theorem dX12_goes_211 : decode cX12_goes 211 = .ok (.ifCond .eq 7, 3) := by decide +kernel
theorem dX12_goes_214 : decode cX12_goes 214 = .ok (.iconst 1, 1) := by decide +kernel
theorem dX12_goes_215 : decode cX12_goes 215 = .ok (.goto 4, 3) := by decide +kernel
theorem dX12_goes_218 : decode cX12_goes 218 = .ok (.iconst 0, 1) := by decide +kernel
theorem dX12_goes_219 : decode cX12_goes 219 = .ok (.istore_n 3, 1) := by decide +kernel
theorem dX12_goes_220 : decode cX12_goes 220 = .ok (.iinc 4 1, 3) := by decide +kernel
theorem dX12_goes_223 : decode cX12_goes 223 = .ok (.goto (-216), 3) := by decide +kernel
theorem dX12_goes_226 : decode cX12_goes 226 = .ok (.return_, 1) := by decide +kernel
theorem dX12_runs_0 : decode cX12_runs 0 = .ok (.aload_n 0, 1) := by decide +kernel
theorem dX12_runs_1 : decode cX12_runs 1 = .ok (.iload_n 1, 1) := by decide +kernel
theorem dX12_runs_2 : decode cX12_runs 2 = .ok (.iconst 0, 1) := by decide +kernel
theorem dX12_runs_3 : decode cX12_runs 3 = .ok (.invokevirtual 182, 3) := by decide +kernel
theorem dX12_runs_6 : decode cX12_runs 6 = .ok (.aload_n 0, 1) := by decide +kernel
theorem dX12_runs_7 : decode cX12_runs 7 = .ok (.iload_n 1, 1) := by decide +kernel
theorem dX12_runs_8 : decode cX12_runs 8 = .ok (.invokevirtual 186, 3) := by decide +kernel
theorem dX12_runs_11 : decode cX12_runs 11 = .ok (.return_, 1) := by decide +kernel
theorem dX12_runsTold_0 : decode cX12_runsTold 0 = .ok (.aload_n 0, 1) := by decide +kernel
theorem dX12_runsTold_1 : decode cX12_runsTold 1 = .ok (.invokevirtual 190, 3) := by decide +kernel
theorem dX12_runsTold_4 : decode cX12_runsTold 4 = .ok (.aload_n 0, 1) := by decide +kernel
theorem dX12_runsTold_5 : decode cX12_runsTold 5 = .ok (.iload_n 1, 1) := by decide +kernel
theorem dX12_runsTold_6 : decode cX12_runsTold 6 = .ok (.invokevirtual 193, 3) := by decide +kernel
theorem dX12_runsTold_9 : decode cX12_runsTold 9 = .ok (.return_, 1) := by decide +kernel
theorem dX12_atOf_0 : decode cX12_atOf 0 = .ok (.aload_n 0, 1) := by decide +kernel
theorem dX12_atOf_1 : decode cX12_atOf 1 = .ok (.iload_n 2, 1) := by decide +kernel
theorem dX12_atOf_2 : decode cX12_atOf 2 = .ok (.invokevirtual 196, 3) := by decide +kernel
theorem dX12_atOf_5 : decode cX12_atOf 5 = .ok (.iload_n 3, 1) := by decide +kernel
theorem dX12_atOf_6 : decode cX12_atOf 6 = .ok (.ifCond .ne 12, 3) := by decide +kernel
theorem dX12_atOf_9 : decode cX12_atOf 9 = .ok (.aload_n 0, 1) := by decide +kernel
theorem dX12_atOf_10 : decode cX12_atOf 10 = .ok (.getfield 46, 3) := by decide +kernel
theorem dX12_atOf_13 : decode cX12_atOf 13 = .ok (.iload_n 1, 1) := by decide +kernel
theorem dX12_atOf_14 : decode cX12_atOf 14 = .ok (.iaload, 1) := by decide +kernel
theorem dX12_atOf_15 : decode cX12_atOf 15 = .ok (.goto 23, 3) := by decide +kernel
theorem dX12_atOf_18 : decode cX12_atOf 18 = .ok (.iload_n 3, 1) := by decide +kernel
theorem dX12_atOf_19 : decode cX12_atOf 19 = .ok (.iconst 1, 1) := by decide +kernel
theorem dX12_atOf_20 : decode cX12_atOf 20 = .ok (.if_icmp .ne 12, 3) := by decide +kernel
theorem dX12_atOf_23 : decode cX12_atOf 23 = .ok (.aload_n 0, 1) := by decide +kernel
theorem dX12_atOf_24 : decode cX12_atOf 24 = .ok (.getfield 49, 3) := by decide +kernel
theorem dX12_atOf_27 : decode cX12_atOf 27 = .ok (.iload_n 1, 1) := by decide +kernel
theorem dX12_atOf_28 : decode cX12_atOf 28 = .ok (.iaload, 1) := by decide +kernel
theorem dX12_atOf_29 : decode cX12_atOf 29 = .ok (.goto 9, 3) := by decide +kernel
theorem dX12_atOf_32 : decode cX12_atOf 32 = .ok (.aload_n 0, 1) := by decide +kernel
theorem dX12_atOf_33 : decode cX12_atOf 33 = .ok (.getfield 52, 3) := by decide +kernel
theorem dX12_atOf_36 : decode cX12_atOf 36 = .ok (.iload_n 1, 1) := by decide +kernel
theorem dX12_atOf_37 : decode cX12_atOf 37 = .ok (.iaload, 1) := by decide +kernel
theorem dX12_atOf_38 : decode cX12_atOf 38 = .ok (.ireturn, 1) := by decide +kernel
theorem dX12_at_0 : decode cX12_at 0 = .ok (.iload_n 1, 1) := by decide +kernel
theorem dX12_at_1 : decode cX12_at 1 = .ok (.invokestatic 148, 3) := by decide +kernel
theorem dX12_at_4 : decode cX12_at 4 = .ok (.ifCond .eq 30, 3) := by decide +kernel
theorem dX12_at_7 : decode cX12_at 7 = .ok (.aload_n 0, 1) := by decide +kernel
theorem dX12_at_8 : decode cX12_at 8 = .ok (.iload_n 2, 1) := by decide +kernel
theorem dX12_at_9 : decode cX12_at 9 = .ok (.invokevirtual 142, 3) := by decide +kernel
theorem dX12_at_12 : decode cX12_at 12 = .ok (.ifCond .eq 22, 3) := by decide +kernel
theorem dX12_at_15 : decode cX12_at 15 = .ok (.iload_n 3, 1) := by decide +kernel
theorem dX12_at_16 : decode cX12_at 16 = .ok (.iconst 0, 1) := by decide +kernel
theorem dX12_at_17 : decode cX12_at 17 = .ok (.iconst 2, 1) := by decide +kernel
theorem dX12_at_18 : decode cX12_at 18 = .ok (.invokestatic 104, 3) := by decide +kernel
theorem dX12_at_21 : decode cX12_at 21 = .ok (.ifCond .eq 13, 3) := by decide +kernel
theorem dX12_at_24 : decode cX12_at 24 = .ok (.aload_n 0, 1) := by decide +kernel
theorem dX12_at_25 : decode cX12_at 25 = .ok (.iload_n 1, 1) := by decide +kernel
theorem dX12_at_26 : decode cX12_at 26 = .ok (.iload_n 2, 1) := by decide +kernel
theorem dX12_at_27 : decode cX12_at 27 = .ok (.iload_n 3, 1) := by decide +kernel
theorem dX12_at_28 : decode cX12_at 28 = .ok (.invokevirtual 199, 3) := by decide +kernel
theorem dX12_at_31 : decode cX12_at 31 = .ok (.goto 5, 3) := by decide +kernel
theorem dX12_at_34 : decode cX12_at 34 = .ok (.bipush (-2), 2) := by decide +kernel
theorem dX12_at_36 : decode cX12_at 36 = .ok (.ireturn, 1) := by decide +kernel
theorem dX12_heardMany_0 : decode cX12_heardMany 0 = .ok (.iconst 0, 1) := by decide +kernel
theorem dX12_heardMany_1 : decode cX12_heardMany 1 = .ok (.istore_n 1, 1) := by decide +kernel
theorem dX12_heardMany_2 : decode cX12_heardMany 2 = .ok (.iconst 0, 1) := by decide +kernel
theorem dX12_heardMany_3 : decode cX12_heardMany 3 = .ok (.istore_n 2, 1) := by decide +kernel
theorem dX12_heardMany_4 : decode cX12_heardMany 4 = .ok (.iload_n 2, 1) := by decide +kernel
theorem dX12_heardMany_5 : decode cX12_heardMany 5 = .ok (.bipush 30, 2) := by decide +kernel
theorem dX12_heardMany_7 : decode cX12_heardMany 7 = .ok (.if_icmp .ge 27, 3) := by decide +kernel
theorem dX12_heardMany_10 : decode cX12_heardMany 10 = .ok (.iload_n 1, 1) := by decide +kernel
theorem dX12_heardMany_11 : decode cX12_heardMany 11 = .ok (.aload_n 0, 1) := by decide +kernel
theorem dX12_heardMany_12 : decode cX12_heardMany 12 = .ok (.getfield 49, 3) := by decide +kernel
theorem dX12_heardMany_15 : decode cX12_heardMany 15 = .ok (.iload_n 2, 1) := by decide +kernel
theorem dX12_heardMany_16 : decode cX12_heardMany 16 = .ok (.iaload, 1) := by decide +kernel
theorem dX12_heardMany_17 : decode cX12_heardMany 17 = .ok (.iconst (-1), 1) := by decide +kernel
theorem dX12_heardMany_18 : decode cX12_heardMany 18 = .ok (.if_icmp .eq 7, 3) := by decide +kernel
theorem dX12_heardMany_21 : decode cX12_heardMany 21 = .ok (.iconst 1, 1) := by decide +kernel
theorem dX12_heardMany_22 : decode cX12_heardMany 22 = .ok (.goto 4, 3) := by decide +kernel
theorem dX12_heardMany_25 : decode cX12_heardMany 25 = .ok (.iconst 0, 1) := by decide +kernel
theorem dX12_heardMany_26 : decode cX12_heardMany 26 = .ok (.iadd, 1) := by decide +kernel
theorem dX12_heardMany_27 : decode cX12_heardMany 27 = .ok (.istore_n 1, 1) := by decide +kernel
theorem dX12_heardMany_28 : decode cX12_heardMany 28 = .ok (.iinc 2 1, 3) := by decide +kernel
theorem dX12_heardMany_31 : decode cX12_heardMany 31 = .ok (.goto (-27), 3) := by decide +kernel
theorem dX12_heardMany_34 : decode cX12_heardMany 34 = .ok (.iload_n 1, 1) := by decide +kernel
theorem dX12_heardMany_35 : decode cX12_heardMany 35 = .ok (.ireturn, 1) := by decide +kernel
theorem dX12_longsOf_0 : decode cX12_longsOf 0 = .ok (.aload_n 0, 1) := by decide +kernel
theorem dX12_longsOf_1 : decode cX12_longsOf 1 = .ok (.iload_n 1, 1) := by decide +kernel
theorem dX12_longsOf_2 : decode cX12_longsOf 2 = .ok (.invokevirtual 196, 3) := by decide +kernel
theorem dX12_longsOf_5 : decode cX12_longsOf 5 = .ok (.aload_n 0, 1) := by decide +kernel
theorem dX12_longsOf_6 : decode cX12_longsOf 6 = .ok (.invokevirtual 203, 3) := by decide +kernel
theorem dX12_longsOf_9 : decode cX12_longsOf 9 = .ok (.ireturn, 1) := by decide +kernel
theorem dX12_longs_0 : decode cX12_longs 0 = .ok (.aload_n 0, 1) := by decide +kernel
theorem dX12_longs_1 : decode cX12_longs 1 = .ok (.iload_n 1, 1) := by decide +kernel
theorem dX12_longs_2 : decode cX12_longs 2 = .ok (.invokevirtual 142, 3) := by decide +kernel
theorem dX12_longs_5 : decode cX12_longs 5 = .ok (.ifCond .eq 11, 3) := by decide +kernel
theorem dX12_longs_8 : decode cX12_longs 8 = .ok (.aload_n 0, 1) := by decide +kernel
theorem dX12_longs_9 : decode cX12_longs 9 = .ok (.iload_n 1, 1) := by decide +kernel
theorem dX12_longs_10 : decode cX12_longs 10 = .ok (.invokevirtual 206, 3) := by decide +kernel
theorem dX12_longs_13 : decode cX12_longs 13 = .ok (.goto 5, 3) := by decide +kernel
theorem dX12_longs_16 : decode cX12_longs 16 = .ok (.bipush (-2), 2) := by decide +kernel
theorem dX12_longs_18 : decode cX12_longs 18 = .ok (.ireturn, 1) := by decide +kernel
theorem dX12_screamOf_0 : decode cX12_screamOf 0 = .ok (.aload_n 0, 1) := by decide +kernel
theorem dX12_screamOf_1 : decode cX12_screamOf 1 = .ok (.invokevirtual 190, 3) := by decide +kernel
theorem dX12_screamOf_4 : decode cX12_screamOf 4 = .ok (.bipush 30, 2) := by decide +kernel
theorem dX12_screamOf_6 : decode cX12_screamOf 6 = .ok (.istore_n 2, 1) := by decide +kernel
theorem dX12_screamOf_7 : decode cX12_screamOf 7 = .ok (.iconst (-1), 1) := by decide +kernel
theorem dX12_screamOf_8 : decode cX12_screamOf 8 = .ok (.istore_n 3, 1) := by decide +kernel
theorem dX12_screamOf_9 : decode cX12_screamOf 9 = .ok (.iconst 0, 1) := by decide +kernel
theorem dX12_screamOf_10 : decode cX12_screamOf 10 = .ok (.istore 4, 2) := by decide +kernel
theorem dX12_screamOf_12 : decode cX12_screamOf 12 = .ok (.iload 4, 2) := by decide +kernel
theorem dX12_screamOf_14 : decode cX12_screamOf 14 = .ok (.aload_n 0, 1) := by decide +kernel
theorem dX12_screamOf_15 : decode cX12_screamOf 15 = .ok (.getfield 119, 3) := by decide +kernel
theorem dX12_screamOf_18 : decode cX12_screamOf 18 = .ok (.if_icmp .ge 61, 3) := by decide +kernel
theorem dX12_screamOf_21 : decode cX12_screamOf 21 = .ok (.aload_n 0, 1) := by decide +kernel
theorem dX12_screamOf_22 : decode cX12_screamOf 22 = .ok (.iload 4, 2) := by decide +kernel
theorem dX12_screamOf_24 : decode cX12_screamOf 24 = .ok (.invokevirtual 193, 3) := by decide +kernel
theorem dX12_screamOf_27 : decode cX12_screamOf 27 = .ok (.iconst 0, 1) := by decide +kernel
theorem dX12_screamOf_28 : decode cX12_screamOf 28 = .ok (.istore 5, 2) := by decide +kernel
theorem dX12_screamOf_30 : decode cX12_screamOf 30 = .ok (.iload 5, 2) := by decide +kernel
theorem dX12_screamOf_32 : decode cX12_screamOf 32 = .ok (.iload_n 2, 1) := by decide +kernel
theorem dX12_screamOf_33 : decode cX12_screamOf 33 = .ok (.if_icmp .ge 40, 3) := by decide +kernel
theorem dX12_screamOf_36 : decode cX12_screamOf 36 = .ok (.aload_n 0, 1) := by decide +kernel
theorem dX12_screamOf_37 : decode cX12_screamOf 37 = .ok (.getfield 49, 3) := by decide +kernel
theorem dX12_screamOf_40 : decode cX12_screamOf 40 = .ok (.iload 5, 2) := by decide +kernel
theorem dX12_screamOf_42 : decode cX12_screamOf 42 = .ok (.iaload, 1) := by decide +kernel
theorem dX12_screamOf_43 : decode cX12_screamOf 43 = .ok (.iconst (-1), 1) := by decide +kernel
theorem dX12_screamOf_44 : decode cX12_screamOf 44 = .ok (.if_icmp .eq 23, 3) := by decide +kernel
theorem dX12_screamOf_47 : decode cX12_screamOf 47 = .ok (.aload_n 0, 1) := by decide +kernel
theorem dX12_screamOf_48 : decode cX12_screamOf 48 = .ok (.getfield 49, 3) := by decide +kernel
theorem dX12_screamOf_51 : decode cX12_screamOf 51 = .ok (.iload 5, 2) := by decide +kernel
theorem dX12_screamOf_53 : decode cX12_screamOf 53 = .ok (.iaload, 1) := by decide +kernel
theorem dX12_screamOf_54 : decode cX12_screamOf 54 = .ok (.aload_n 0, 1) := by decide +kernel
theorem dX12_screamOf_55 : decode cX12_screamOf 55 = .ok (.getfield 99, 3) := by decide +kernel
theorem dX12_screamOf_58 : decode cX12_screamOf 58 = .ok (.if_icmp .lt 9, 3) := by decide +kernel
theorem dX12_screamOf_61 : decode cX12_screamOf 61 = .ok (.iload 5, 2) := by decide +kernel
theorem dX12_screamOf_63 : decode cX12_screamOf 63 = .ok (.istore_n 2, 1) := by decide +kernel
theorem dX12_screamOf_64 : decode cX12_screamOf 64 = .ok (.iload 4, 2) := by decide +kernel
theorem dX12_screamOf_66 : decode cX12_screamOf 66 = .ok (.istore_n 3, 1) := by decide +kernel
theorem dX12_screamOf_67 : decode cX12_screamOf 67 = .ok (.iinc 5 1, 3) := by decide +kernel
theorem dX12_screamOf_70 : decode cX12_screamOf 70 = .ok (.goto (-40), 3) := by decide +kernel
theorem dX12_screamOf_73 : decode cX12_screamOf 73 = .ok (.iinc 4 1, 3) := by decide +kernel
theorem dX12_screamOf_76 : decode cX12_screamOf 76 = .ok (.goto (-64), 3) := by decide +kernel
theorem dX12_screamOf_79 : decode cX12_screamOf 79 = .ok (.iload_n 3, 1) := by decide +kernel
theorem dX12_screamOf_80 : decode cX12_screamOf 80 = .ok (.iconst (-1), 1) := by decide +kernel
theorem dX12_screamOf_81 : decode cX12_screamOf 81 = .ok (.if_icmp .ne 7, 3) := by decide +kernel
theorem dX12_screamOf_84 : decode cX12_screamOf 84 = .ok (.iconst (-1), 1) := by decide +kernel
theorem dX12_screamOf_85 : decode cX12_screamOf 85 = .ok (.goto 12, 3) := by decide +kernel
theorem dX12_screamOf_88 : decode cX12_screamOf 88 = .ok (.iload_n 1, 1) := by decide +kernel
theorem dX12_screamOf_89 : decode cX12_screamOf 89 = .ok (.ifCond .ne 7, 3) := by decide +kernel
theorem dX12_screamOf_92 : decode cX12_screamOf 92 = .ok (.iload_n 2, 1) := by decide +kernel
theorem dX12_screamOf_93 : decode cX12_screamOf 93 = .ok (.goto 4, 3) := by decide +kernel
theorem dX12_screamOf_96 : decode cX12_screamOf 96 = .ok (.iload_n 3, 1) := by decide +kernel
theorem dX12_screamOf_97 : decode cX12_screamOf 97 = .ok (.ireturn, 1) := by decide +kernel
theorem dX12_scream_0 : decode cX12_scream 0 = .ok (.iload_n 1, 1) := by decide +kernel
theorem dX12_scream_1 : decode cX12_scream 1 = .ok (.iconst 0, 1) := by decide +kernel
theorem dX12_scream_2 : decode cX12_scream 2 = .ok (.iconst 1, 1) := by decide +kernel
theorem dX12_scream_3 : decode cX12_scream 3 = .ok (.invokestatic 104, 3) := by decide +kernel
theorem dX12_scream_6 : decode cX12_scream 6 = .ok (.ifCond .eq 11, 3) := by decide +kernel
theorem dX12_scream_9 : decode cX12_scream 9 = .ok (.aload_n 0, 1) := by decide +kernel
theorem dX12_scream_10 : decode cX12_scream 10 = .ok (.iload_n 1, 1) := by decide +kernel
theorem dX12_scream_11 : decode cX12_scream 11 = .ok (.invokevirtual 209, 3) := by decide +kernel
theorem dX12_scream_14 : decode cX12_scream 14 = .ok (.goto 5, 3) := by decide +kernel
theorem dX12_scream_17 : decode cX12_scream 17 = .ok (.bipush (-2), 2) := by decide +kernel
theorem dX12_scream_19 : decode cX12_scream 19 = .ok (.ireturn, 1) := by decide +kernel
theorem dX12_chordOf_0 : decode cX12_chordOf 0 = .ok (.aload_n 0, 1) := by decide +kernel
theorem dX12_chordOf_1 : decode cX12_chordOf 1 = .ok (.invokevirtual 190, 3) := by decide +kernel
theorem dX12_chordOf_4 : decode cX12_chordOf 4 = .ok (.iconst 0, 1) := by decide +kernel
theorem dX12_chordOf_5 : decode cX12_chordOf 5 = .ok (.istore_n 3, 1) := by decide +kernel
theorem dX12_chordOf_6 : decode cX12_chordOf 6 = .ok (.iload_n 3, 1) := by decide +kernel
theorem dX12_chordOf_7 : decode cX12_chordOf 7 = .ok (.bipush 30, 2) := by decide +kernel
theorem dX12_chordOf_9 : decode cX12_chordOf 9 = .ok (.if_icmp .ge 16, 3) := by decide +kernel
theorem dX12_chordOf_12 : decode cX12_chordOf 12 = .ok (.aload_n 0, 1) := by decide +kernel
theorem dX12_chordOf_13 : decode cX12_chordOf 13 = .ok (.getfield 55, 3) := by decide +kernel
theorem dX12_chordOf_16 : decode cX12_chordOf 16 = .ok (.iload_n 3, 1) := by decide +kernel
theorem dX12_chordOf_17 : decode cX12_chordOf 17 = .ok (.iconst 0, 1) := by decide +kernel
theorem dX12_chordOf_18 : decode cX12_chordOf 18 = .ok (.iastore, 1) := by decide +kernel
theorem dX12_chordOf_19 : decode cX12_chordOf 19 = .ok (.iinc 3 1, 3) := by decide +kernel
theorem dX12_chordOf_22 : decode cX12_chordOf 22 = .ok (.goto (-16), 3) := by decide +kernel
theorem dX12_chordOf_25 : decode cX12_chordOf 25 = .ok (.iconst 0, 1) := by decide +kernel
theorem dX12_chordOf_26 : decode cX12_chordOf 26 = .ok (.istore_n 3, 1) := by decide +kernel
theorem dX12_chordOf_27 : decode cX12_chordOf 27 = .ok (.iload_n 3, 1) := by decide +kernel
theorem dX12_chordOf_28 : decode cX12_chordOf 28 = .ok (.aload_n 0, 1) := by decide +kernel
theorem dX12_chordOf_29 : decode cX12_chordOf 29 = .ok (.getfield 119, 3) := by decide +kernel
theorem dX12_chordOf_32 : decode cX12_chordOf 32 = .ok (.if_icmp .ge 56, 3) := by decide +kernel
theorem dX12_chordOf_35 : decode cX12_chordOf 35 = .ok (.aload_n 0, 1) := by decide +kernel
theorem dX12_chordOf_36 : decode cX12_chordOf 36 = .ok (.iload_n 3, 1) := by decide +kernel
theorem dX12_chordOf_37 : decode cX12_chordOf 37 = .ok (.invokevirtual 193, 3) := by decide +kernel
theorem dX12_chordOf_40 : decode cX12_chordOf 40 = .ok (.iconst 0, 1) := by decide +kernel
theorem dX12_chordOf_41 : decode cX12_chordOf 41 = .ok (.istore 4, 2) := by decide +kernel
theorem dX12_chordOf_43 : decode cX12_chordOf 43 = .ok (.iload 4, 2) := by decide +kernel
theorem dX12_chordOf_45 : decode cX12_chordOf 45 = .ok (.bipush 30, 2) := by decide +kernel
theorem dX12_chordOf_47 : decode cX12_chordOf 47 = .ok (.if_icmp .ge 35, 3) := by decide +kernel
theorem dX12_chordOf_50 : decode cX12_chordOf 50 = .ok (.aload_n 0, 1) := by decide +kernel
theorem dX12_chordOf_51 : decode cX12_chordOf 51 = .ok (.getfield 55, 3) := by decide +kernel
theorem dX12_chordOf_54 : decode cX12_chordOf 54 = .ok (.iload 4, 2) := by decide +kernel
theorem dX12_chordOf_56 : decode cX12_chordOf 56 = .ok (.dup2, 1) := by decide +kernel
theorem dX12_chordOf_57 : decode cX12_chordOf 57 = .ok (.iaload, 1) := by decide +kernel
theorem dX12_chordOf_58 : decode cX12_chordOf 58 = .ok (.aload_n 0, 1) := by decide +kernel
theorem dX12_chordOf_59 : decode cX12_chordOf 59 = .ok (.getfield 49, 3) := by decide +kernel
theorem dX12_chordOf_62 : decode cX12_chordOf 62 = .ok (.iload 4, 2) := by decide +kernel
theorem dX12_chordOf_64 : decode cX12_chordOf 64 = .ok (.iaload, 1) := by decide +kernel
theorem dX12_chordOf_65 : decode cX12_chordOf 65 = .ok (.iload_n 1, 1) := by decide +kernel
theorem dX12_chordOf_66 : decode cX12_chordOf 66 = .ok (.if_icmp .ne 7, 3) := by decide +kernel
theorem dX12_chordOf_69 : decode cX12_chordOf 69 = .ok (.iconst 1, 1) := by decide +kernel
theorem dX12_chordOf_70 : decode cX12_chordOf 70 = .ok (.goto 4, 3) := by decide +kernel
theorem dX12_chordOf_73 : decode cX12_chordOf 73 = .ok (.iconst 0, 1) := by decide +kernel
theorem dX12_chordOf_74 : decode cX12_chordOf 74 = .ok (.iadd, 1) := by decide +kernel
theorem dX12_chordOf_75 : decode cX12_chordOf 75 = .ok (.iastore, 1) := by decide +kernel
theorem dX12_chordOf_76 : decode cX12_chordOf 76 = .ok (.iinc 4 1, 3) := by decide +kernel
theorem dX12_chordOf_79 : decode cX12_chordOf 79 = .ok (.goto (-36), 3) := by decide +kernel
theorem dX12_chordOf_82 : decode cX12_chordOf 82 = .ok (.iinc 3 1, 3) := by decide +kernel
theorem dX12_chordOf_85 : decode cX12_chordOf 85 = .ok (.goto (-58), 3) := by decide +kernel
theorem dX12_chordOf_88 : decode cX12_chordOf 88 = .ok (.iconst (-1), 1) := by decide +kernel
theorem dX12_chordOf_89 : decode cX12_chordOf 89 = .ok (.istore_n 3, 1) := by decide +kernel
theorem dX12_chordOf_90 : decode cX12_chordOf 90 = .ok (.iconst 0, 1) := by decide +kernel
theorem dX12_chordOf_91 : decode cX12_chordOf 91 = .ok (.istore 4, 2) := by decide +kernel
theorem dX12_chordOf_93 : decode cX12_chordOf 93 = .ok (.iconst 0, 1) := by decide +kernel
theorem dX12_chordOf_94 : decode cX12_chordOf 94 = .ok (.istore 5, 2) := by decide +kernel
theorem dX12_chordOf_96 : decode cX12_chordOf 96 = .ok (.iload 5, 2) := by decide +kernel
theorem dX12_chordOf_98 : decode cX12_chordOf 98 = .ok (.bipush 30, 2) := by decide +kernel
theorem dX12_chordOf_100 : decode cX12_chordOf 100 = .ok (.if_icmp .ge 54, 3) := by decide +kernel
theorem dX12_chordOf_103 : decode cX12_chordOf 103 = .ok (.aload_n 0, 1) := by decide +kernel
theorem dX12_chordOf_104 : decode cX12_chordOf 104 = .ok (.getfield 55, 3) := by decide +kernel
theorem dX12_chordOf_107 : decode cX12_chordOf 107 = .ok (.iload 5, 2) := by decide +kernel
theorem dX12_chordOf_109 : decode cX12_chordOf 109 = .ok (.iaload, 1) := by decide +kernel
theorem dX12_chordOf_110 : decode cX12_chordOf 110 = .ok (.iload 4, 2) := by decide +kernel
theorem dX12_chordOf_112 : decode cX12_chordOf 112 = .ok (.if_icmp .le 8, 3) := by decide +kernel
theorem dX12_chordOf_115 : decode cX12_chordOf 115 = .ok (.iload 5, 2) := by decide +kernel
theorem dX12_chordOf_117 : decode cX12_chordOf 117 = .ok (.goto 4, 3) := by decide +kernel
theorem dX12_chordOf_120 : decode cX12_chordOf 120 = .ok (.iload_n 3, 1) := by decide +kernel
theorem dX12_chordOf_121 : decode cX12_chordOf 121 = .ok (.istore_n 3, 1) := by decide +kernel
theorem dX12_chordOf_122 : decode cX12_chordOf 122 = .ok (.aload_n 0, 1) := by decide +kernel
theorem dX12_chordOf_123 : decode cX12_chordOf 123 = .ok (.getfield 55, 3) := by decide +kernel
theorem dX12_chordOf_126 : decode cX12_chordOf 126 = .ok (.iload 5, 2) := by decide +kernel
theorem dX12_chordOf_128 : decode cX12_chordOf 128 = .ok (.iaload, 1) := by decide +kernel
theorem dX12_chordOf_129 : decode cX12_chordOf 129 = .ok (.iload 4, 2) := by decide +kernel
theorem dX12_chordOf_131 : decode cX12_chordOf 131 = .ok (.if_icmp .le 13, 3) := by decide +kernel
theorem dX12_chordOf_134 : decode cX12_chordOf 134 = .ok (.aload_n 0, 1) := by decide +kernel
theorem dX12_chordOf_135 : decode cX12_chordOf 135 = .ok (.getfield 55, 3) := by decide +kernel
theorem dX12_chordOf_138 : decode cX12_chordOf 138 = .ok (.iload 5, 2) := by decide +kernel
theorem dX12_chordOf_140 : decode cX12_chordOf 140 = .ok (.iaload, 1) := by decide +kernel
theorem dX12_chordOf_141 : decode cX12_chordOf 141 = .ok (.goto 5, 3) := by decide +kernel
theorem dX12_chordOf_144 : decode cX12_chordOf 144 = .ok (.iload 4, 2) := by decide +kernel
theorem dX12_chordOf_146 : decode cX12_chordOf 146 = .ok (.istore 4, 2) := by decide +kernel
theorem dX12_chordOf_148 : decode cX12_chordOf 148 = .ok (.iinc 5 1, 3) := by decide +kernel
theorem dX12_chordOf_151 : decode cX12_chordOf 151 = .ok (.goto (-55), 3) := by decide +kernel
theorem dX12_chordOf_154 : decode cX12_chordOf 154 = .ok (.iload_n 3, 1) := by decide +kernel
theorem dX12_chordOf_155 : decode cX12_chordOf 155 = .ok (.iconst (-1), 1) := by decide +kernel
theorem dX12_chordOf_156 : decode cX12_chordOf 156 = .ok (.if_icmp .eq 7, 3) := by decide +kernel
theorem dX12_chordOf_159 : decode cX12_chordOf 159 = .ok (.iload_n 2, 1) := by decide +kernel
theorem dX12_chordOf_160 : decode cX12_chordOf 160 = .ok (.ifCond .ne 7, 3) := by decide +kernel
theorem dX12_chordOf_163 : decode cX12_chordOf 163 = .ok (.iload_n 3, 1) := by decide +kernel
theorem dX12_chordOf_164 : decode cX12_chordOf 164 = .ok (.goto 5, 3) := by decide +kernel
theorem dX12_chordOf_167 : decode cX12_chordOf 167 = .ok (.iload 4, 2) := by decide +kernel
theorem dX12_chordOf_169 : decode cX12_chordOf 169 = .ok (.ireturn, 1) := by decide +kernel
theorem dX12_chord_0 : decode cX12_chord 0 = .ok (.iload_n 1, 1) := by decide +kernel
theorem dX12_chord_1 : decode cX12_chord 1 = .ok (.iconst 0, 1) := by decide +kernel
theorem dX12_chord_2 : decode cX12_chord 2 = .ok (.bipush 7, 2) := by decide +kernel
theorem dX12_chord_4 : decode cX12_chord 4 = .ok (.invokestatic 104, 3) := by decide +kernel
theorem dX12_chord_7 : decode cX12_chord 7 = .ok (.ifCond .eq 21, 3) := by decide +kernel
theorem dX12_chord_10 : decode cX12_chord 10 = .ok (.iload_n 2, 1) := by decide +kernel
theorem dX12_chord_11 : decode cX12_chord 11 = .ok (.iconst 0, 1) := by decide +kernel
theorem dX12_chord_12 : decode cX12_chord 12 = .ok (.iconst 1, 1) := by decide +kernel
theorem dX12_chord_13 : decode cX12_chord 13 = .ok (.invokestatic 104, 3) := by decide +kernel
theorem dX12_chord_16 : decode cX12_chord 16 = .ok (.ifCond .eq 12, 3) := by decide +kernel
theorem dX12_chord_19 : decode cX12_chord 19 = .ok (.aload_n 0, 1) := by decide +kernel
theorem dX12_chord_20 : decode cX12_chord 20 = .ok (.iload_n 1, 1) := by decide +kernel
theorem dX12_chord_21 : decode cX12_chord 21 = .ok (.iload_n 2, 1) := by decide +kernel
theorem dX12_chord_22 : decode cX12_chord 22 = .ok (.invokevirtual 212, 3) := by decide +kernel
theorem dX12_chord_25 : decode cX12_chord 25 = .ok (.goto 5, 3) := by decide +kernel
theorem dX12_chord_28 : decode cX12_chord 28 = .ok (.bipush (-2), 2) := by decide +kernel
theorem dX12_chord_30 : decode cX12_chord 30 = .ok (.ireturn, 1) := by decide +kernel
theorem dX12_hushNow_0 : decode cX12_hushNow 0 = .ok (.aload_n 0, 1) := by decide +kernel
theorem dX12_hushNow_1 : decode cX12_hushNow 1 = .ok (.invokevirtual 190, 3) := by decide +kernel
theorem dX12_hushNow_4 : decode cX12_hushNow 4 = .ok (.ldc 215, 2) := by decide +kernel
theorem dX12_hushNow_6 : decode cX12_hushNow 6 = .ok (.istore_n 1, 1) := by decide +kernel
theorem dX12_hushNow_7 : decode cX12_hushNow 7 = .ok (.iconst 0, 1) := by decide +kernel
theorem dX12_hushNow_8 : decode cX12_hushNow 8 = .ok (.istore_n 2, 1) := by decide +kernel
theorem dX12_hushNow_9 : decode cX12_hushNow 9 = .ok (.iload_n 2, 1) := by decide +kernel
theorem dX12_hushNow_10 : decode cX12_hushNow 10 = .ok (.aload_n 0, 1) := by decide +kernel
theorem dX12_hushNow_11 : decode cX12_hushNow 11 = .ok (.getfield 119, 3) := by decide +kernel
theorem dX12_hushNow_14 : decode cX12_hushNow 14 = .ok (.if_icmp .ge 50, 3) := by decide +kernel
theorem dX12_hushNow_17 : decode cX12_hushNow 17 = .ok (.aload_n 0, 1) := by decide +kernel
theorem dX12_hushNow_18 : decode cX12_hushNow 18 = .ok (.iload_n 2, 1) := by decide +kernel
theorem dX12_hushNow_19 : decode cX12_hushNow 19 = .ok (.invokevirtual 193, 3) := by decide +kernel
theorem dX12_hushNow_22 : decode cX12_hushNow 22 = .ok (.iconst 0, 1) := by decide +kernel
theorem dX12_hushNow_23 : decode cX12_hushNow 23 = .ok (.istore_n 3, 1) := by decide +kernel
theorem dX12_hushNow_24 : decode cX12_hushNow 24 = .ok (.iload_n 3, 1) := by decide +kernel
theorem dX12_hushNow_25 : decode cX12_hushNow 25 = .ok (.bipush 30, 2) := by decide +kernel
theorem dX12_hushNow_27 : decode cX12_hushNow 27 = .ok (.if_icmp .ge 31, 3) := by decide +kernel
theorem dX12_hushNow_30 : decode cX12_hushNow 30 = .ok (.iload_n 1, 1) := by decide +kernel
theorem dX12_hushNow_31 : decode cX12_hushNow 31 = .ok (.aload_n 0, 1) := by decide +kernel
theorem dX12_hushNow_32 : decode cX12_hushNow 32 = .ok (.getfield 49, 3) := by decide +kernel
theorem dX12_hushNow_35 : decode cX12_hushNow 35 = .ok (.iload_n 3, 1) := by decide +kernel
theorem dX12_hushNow_36 : decode cX12_hushNow 36 = .ok (.iaload, 1) := by decide +kernel
theorem dX12_hushNow_37 : decode cX12_hushNow 37 = .ok (.iconst (-1), 1) := by decide +kernel
theorem dX12_hushNow_38 : decode cX12_hushNow 38 = .ok (.if_icmp .eq 11, 3) := by decide +kernel
theorem dX12_hushNow_41 : decode cX12_hushNow 41 = .ok (.iconst 1, 1) := by decide +kernel
theorem dX12_hushNow_42 : decode cX12_hushNow 42 = .ok (.iload_n 3, 1) := by decide +kernel
theorem dX12_hushNow_43 : decode cX12_hushNow 43 = .ok (.ishl, 1) := by decide +kernel
theorem dX12_hushNow_44 : decode cX12_hushNow 44 = .ok (.iconst (-1), 1) := by decide +kernel
theorem dX12_hushNow_45 : decode cX12_hushNow 45 = .ok (.ixor, 1) := by decide +kernel
theorem dX12_hushNow_46 : decode cX12_hushNow 46 = .ok (.goto 4, 3) := by decide +kernel
theorem dX12_hushNow_49 : decode cX12_hushNow 49 = .ok (.iconst (-1), 1) := by decide +kernel
theorem dX12_hushNow_50 : decode cX12_hushNow 50 = .ok (.iand, 1) := by decide +kernel
theorem dX12_hushNow_51 : decode cX12_hushNow 51 = .ok (.istore_n 1, 1) := by decide +kernel
theorem dX12_hushNow_52 : decode cX12_hushNow 52 = .ok (.iinc 3 1, 3) := by decide +kernel
theorem dX12_hushNow_55 : decode cX12_hushNow 55 = .ok (.goto (-31), 3) := by decide +kernel
theorem dX12_hushNow_58 : decode cX12_hushNow 58 = .ok (.iinc 2 1, 3) := by decide +kernel
theorem dX12_hushNow_61 : decode cX12_hushNow 61 = .ok (.goto (-52), 3) := by decide +kernel
theorem dX12_hushNow_64 : decode cX12_hushNow 64 = .ok (.iload_n 1, 1) := by decide +kernel
theorem dX12_hushNow_65 : decode cX12_hushNow 65 = .ok (.ireturn, 1) := by decide +kernel
theorem dX12_hush_0 : decode cX12_hush 0 = .ok (.aload_n 0, 1) := by decide +kernel
theorem dX12_hush_1 : decode cX12_hush 1 = .ok (.invokevirtual 216, 3) := by decide +kernel
theorem dX12_hush_4 : decode cX12_hush 4 = .ok (.ireturn, 1) := by decide +kernel
theorem dX12_isRipe_0 : decode cX12_isRipe 0 = .ok (.aload_n 0, 1) := by decide +kernel
theorem dX12_isRipe_1 : decode cX12_isRipe 1 = .ok (.iload_n 1, 1) := by decide +kernel
theorem dX12_isRipe_2 : decode cX12_isRipe 2 = .ok (.iconst 0, 1) := by decide +kernel
theorem dX12_isRipe_3 : decode cX12_isRipe 3 = .ok (.invokevirtual 182, 3) := by decide +kernel
theorem dX12_isRipe_6 : decode cX12_isRipe 6 = .ok (.aload_n 0, 1) := by decide +kernel
theorem dX12_isRipe_7 : decode cX12_isRipe 7 = .ok (.dup, 1) := by decide +kernel
theorem dX12_isRipe_8 : decode cX12_isRipe 8 = .ok (.getfield 169, 3) := by decide +kernel
theorem dX12_isRipe_11 : decode cX12_isRipe 11 = .ok (.iload_n 3, 1) := by decide +kernel
theorem dX12_isRipe_12 : decode cX12_isRipe 12 = .ok (.ior, 1) := by decide +kernel
theorem dX12_isRipe_13 : decode cX12_isRipe 13 = .ok (.putfield 169, 3) := by decide +kernel
theorem dX12_isRipe_16 : decode cX12_isRipe 16 = .ok (.aload_n 0, 1) := by decide +kernel
theorem dX12_isRipe_17 : decode cX12_isRipe 17 = .ok (.iload_n 1, 1) := by decide +kernel
theorem dX12_isRipe_18 : decode cX12_isRipe 18 = .ok (.invokevirtual 186, 3) := by decide +kernel
theorem dX12_isRipe_21 : decode cX12_isRipe 21 = .ok (.aload_n 0, 1) := by decide +kernel
theorem dX12_isRipe_22 : decode cX12_isRipe 22 = .ok (.getfield 49, 3) := by decide +kernel
theorem dX12_isRipe_25 : decode cX12_isRipe 25 = .ok (.iload_n 2, 1) := by decide +kernel
theorem dX12_isRipe_26 : decode cX12_isRipe 26 = .ok (.iaload, 1) := by decide +kernel
theorem dX12_isRipe_27 : decode cX12_isRipe 27 = .ok (.iconst (-1), 1) := by decide +kernel
theorem dX12_isRipe_28 : decode cX12_isRipe 28 = .ok (.if_icmp .eq 29, 3) := by decide +kernel
theorem dX12_isRipe_31 : decode cX12_isRipe 31 = .ok (.aload_n 0, 1) := by decide +kernel
theorem dX12_isRipe_32 : decode cX12_isRipe 32 = .ok (.getfield 46, 3) := by decide +kernel
theorem dX12_isRipe_35 : decode cX12_isRipe 35 = .ok (.iload_n 2, 1) := by decide +kernel
theorem dX12_isRipe_36 : decode cX12_isRipe 36 = .ok (.iaload, 1) := by decide +kernel
theorem dX12_isRipe_37 : decode cX12_isRipe 37 = .ok (.aload_n 0, 1) := by decide +kernel
theorem dX12_isRipe_38 : decode cX12_isRipe 38 = .ok (.getfield 95, 3) := by decide +kernel
theorem dX12_isRipe_41 : decode cX12_isRipe 41 = .ok (.idiv, 1) := by decide +kernel
theorem dX12_isRipe_42 : decode cX12_isRipe 42 = .ok (.aload_n 0, 1) := by decide +kernel
theorem dX12_isRipe_43 : decode cX12_isRipe 43 = .ok (.getfield 22, 3) := by decide +kernel
theorem dX12_isRipe_46 : decode cX12_isRipe 46 = .ok (.iload_n 1, 1) := by decide +kernel
theorem dX12_isRipe_47 : decode cX12_isRipe 47 = .ok (.iaload, 1) := by decide +kernel
theorem dX12_isRipe_48 : decode cX12_isRipe 48 = .ok (.iconst 1, 1) := by decide +kernel
theorem dX12_isRipe_49 : decode cX12_isRipe 49 = .ok (.isub, 1) := by decide +kernel
theorem dX12_isRipe_50 : decode cX12_isRipe 50 = .ok (.if_icmp .ne 7, 3) := by decide +kernel
theorem dX12_isRipe_53 : decode cX12_isRipe 53 = .ok (.iconst 1, 1) := by decide +kernel
theorem dX12_isRipe_54 : decode cX12_isRipe 54 = .ok (.goto 4, 3) := by decide +kernel
theorem dX12_isRipe_57 : decode cX12_isRipe 57 = .ok (.iconst 0, 1) := by decide +kernel
theorem dX12_isRipe_58 : decode cX12_isRipe 58 = .ok (.ireturn, 1) := by decide +kernel
theorem dX12_ripeBy_0 : decode cX12_ripeBy 0 = .ok (.aload_n 0, 1) := by decide +kernel
theorem dX12_ripeBy_1 : decode cX12_ripeBy 1 = .ok (.invokevirtual 190, 3) := by decide +kernel
theorem dX12_ripeBy_4 : decode cX12_ripeBy 4 = .ok (.aload_n 0, 1) := by decide +kernel
theorem dX12_ripeBy_5 : decode cX12_ripeBy 5 = .ok (.iload_n 1, 1) := by decide +kernel
theorem dX12_ripeBy_6 : decode cX12_ripeBy 6 = .ok (.iload_n 2, 1) := by decide +kernel
theorem dX12_ripeBy_7 : decode cX12_ripeBy 7 = .ok (.iconst 0, 1) := by decide +kernel
theorem dX12_ripeBy_8 : decode cX12_ripeBy 8 = .ok (.invokevirtual 219, 3) := by decide +kernel
theorem dX12_ripeBy_11 : decode cX12_ripeBy 11 = .ok (.ifCond .eq 5, 3) := by decide +kernel
theorem dX12_ripeBy_14 : decode cX12_ripeBy 14 = .ok (.iconst 0, 1) := by decide +kernel
theorem dX12_ripeBy_15 : decode cX12_ripeBy 15 = .ok (.ireturn, 1) := by decide +kernel
theorem dX12_ripeBy_16 : decode cX12_ripeBy 16 = .ok (.iconst 0, 1) := by decide +kernel
theorem dX12_ripeBy_17 : decode cX12_ripeBy 17 = .ok (.istore_n 3, 1) := by decide +kernel
theorem dX12_ripeBy_18 : decode cX12_ripeBy 18 = .ok (.iload_n 3, 1) := by decide +kernel
theorem dX12_ripeBy_19 : decode cX12_ripeBy 19 = .ok (.bipush 30, 2) := by decide +kernel
theorem dX12_ripeBy_21 : decode cX12_ripeBy 21 = .ok (.if_icmp .ge 30, 3) := by decide +kernel
theorem dX12_ripeBy_24 : decode cX12_ripeBy 24 = .ok (.aload_n 0, 1) := by decide +kernel
theorem dX12_ripeBy_25 : decode cX12_ripeBy 25 = .ok (.getfield 58, 3) := by decide +kernel
theorem dX12_ripeBy_28 : decode cX12_ripeBy 28 = .ok (.iconst 0, 1) := by decide +kernel
theorem dX12_ripeBy_29 : decode cX12_ripeBy 29 = .ok (.iload_n 3, 1) := by decide +kernel
theorem dX12_ripeBy_30 : decode cX12_ripeBy 30 = .ok (.iastore, 1) := by decide +kernel
theorem dX12_ripeBy_31 : decode cX12_ripeBy 31 = .ok (.aload_n 0, 1) := by decide +kernel
theorem dX12_ripeBy_32 : decode cX12_ripeBy 32 = .ok (.iload_n 1, 1) := by decide +kernel
theorem dX12_ripeBy_33 : decode cX12_ripeBy 33 = .ok (.iload_n 2, 1) := by decide +kernel
theorem dX12_ripeBy_34 : decode cX12_ripeBy 34 = .ok (.iconst 1, 1) := by decide +kernel
theorem dX12_ripeBy_35 : decode cX12_ripeBy 35 = .ok (.iload_n 3, 1) := by decide +kernel
theorem dX12_ripeBy_36 : decode cX12_ripeBy 36 = .ok (.ishl, 1) := by decide +kernel
theorem dX12_ripeBy_37 : decode cX12_ripeBy 37 = .ok (.invokevirtual 219, 3) := by decide +kernel
theorem dX12_ripeBy_40 : decode cX12_ripeBy 40 = .ok (.ifCond .eq 5, 3) := by decide +kernel
theorem dX12_ripeBy_43 : decode cX12_ripeBy 43 = .ok (.iconst 1, 1) := by decide +kernel
theorem dX12_ripeBy_44 : decode cX12_ripeBy 44 = .ok (.ireturn, 1) := by decide +kernel
theorem dX12_ripeBy_45 : decode cX12_ripeBy 45 = .ok (.iinc 3 1, 3) := by decide +kernel
theorem dX12_ripeBy_48 : decode cX12_ripeBy 48 = .ok (.goto (-30), 3) := by decide +kernel
theorem dX12_ripeBy_51 : decode cX12_ripeBy 51 = .ok (.iconst 0, 1) := by decide +kernel
theorem dX12_ripeBy_52 : decode cX12_ripeBy 52 = .ok (.istore_n 3, 1) := by decide +kernel
theorem dX12_ripeBy_53 : decode cX12_ripeBy 53 = .ok (.iload_n 3, 1) := by decide +kernel
theorem dX12_ripeBy_54 : decode cX12_ripeBy 54 = .ok (.bipush 30, 2) := by decide +kernel
theorem dX12_ripeBy_56 : decode cX12_ripeBy 56 = .ok (.if_icmp .ge 61, 3) := by decide +kernel
theorem dX12_ripeBy_59 : decode cX12_ripeBy 59 = .ok (.iload_n 3, 1) := by decide +kernel
theorem dX12_ripeBy_60 : decode cX12_ripeBy 60 = .ok (.iconst 1, 1) := by decide +kernel
theorem dX12_ripeBy_61 : decode cX12_ripeBy 61 = .ok (.iadd, 1) := by decide +kernel
theorem dX12_ripeBy_62 : decode cX12_ripeBy 62 = .ok (.istore 4, 2) := by decide +kernel
theorem dX12_ripeBy_64 : decode cX12_ripeBy 64 = .ok (.iload 4, 2) := by decide +kernel
theorem dX12_ripeBy_66 : decode cX12_ripeBy 66 = .ok (.bipush 30, 2) := by decide +kernel
theorem dX12_ripeBy_68 : decode cX12_ripeBy 68 = .ok (.if_icmp .ge 43, 3) := by decide +kernel
theorem dX12_ripeBy_71 : decode cX12_ripeBy 71 = .ok (.aload_n 0, 1) := by decide +kernel
theorem dX12_ripeBy_72 : decode cX12_ripeBy 72 = .ok (.getfield 58, 3) := by decide +kernel
theorem dX12_ripeBy_75 : decode cX12_ripeBy 75 = .ok (.iconst 0, 1) := by decide +kernel
theorem dX12_ripeBy_76 : decode cX12_ripeBy 76 = .ok (.iload_n 3, 1) := by decide +kernel
theorem dX12_ripeBy_77 : decode cX12_ripeBy 77 = .ok (.iastore, 1) := by decide +kernel
theorem dX12_ripeBy_78 : decode cX12_ripeBy 78 = .ok (.aload_n 0, 1) := by decide +kernel
theorem dX12_ripeBy_79 : decode cX12_ripeBy 79 = .ok (.getfield 58, 3) := by decide +kernel
theorem dX12_ripeBy_82 : decode cX12_ripeBy 82 = .ok (.iconst 1, 1) := by decide +kernel
theorem dX12_ripeBy_83 : decode cX12_ripeBy 83 = .ok (.iload 4, 2) := by decide +kernel
theorem dX12_ripeBy_85 : decode cX12_ripeBy 85 = .ok (.iastore, 1) := by decide +kernel
theorem dX12_ripeBy_86 : decode cX12_ripeBy 86 = .ok (.aload_n 0, 1) := by decide +kernel
theorem dX12_ripeBy_87 : decode cX12_ripeBy 87 = .ok (.iload_n 1, 1) := by decide +kernel
theorem dX12_ripeBy_88 : decode cX12_ripeBy 88 = .ok (.iload_n 2, 1) := by decide +kernel
theorem dX12_ripeBy_89 : decode cX12_ripeBy 89 = .ok (.iconst 1, 1) := by decide +kernel
theorem dX12_ripeBy_90 : decode cX12_ripeBy 90 = .ok (.iload_n 3, 1) := by decide +kernel
theorem dX12_ripeBy_91 : decode cX12_ripeBy 91 = .ok (.ishl, 1) := by decide +kernel
theorem dX12_ripeBy_92 : decode cX12_ripeBy 92 = .ok (.iconst 1, 1) := by decide +kernel
theorem dX12_ripeBy_93 : decode cX12_ripeBy 93 = .ok (.iload 4, 2) := by decide +kernel
theorem dX12_ripeBy_95 : decode cX12_ripeBy 95 = .ok (.ishl, 1) := by decide +kernel
theorem dX12_ripeBy_96 : decode cX12_ripeBy 96 = .ok (.ior, 1) := by decide +kernel
theorem dX12_ripeBy_97 : decode cX12_ripeBy 97 = .ok (.invokevirtual 219, 3) := by decide +kernel
theorem dX12_ripeBy_100 : decode cX12_ripeBy 100 = .ok (.ifCond .eq 5, 3) := by decide +kernel
theorem dX12_ripeBy_103 : decode cX12_ripeBy 103 = .ok (.iconst 2, 1) := by decide +kernel
theorem dX12_ripeBy_104 : decode cX12_ripeBy 104 = .ok (.ireturn, 1) := by decide +kernel
theorem dX12_ripeBy_105 : decode cX12_ripeBy 105 = .ok (.iinc 4 1, 3) := by decide +kernel
theorem dX12_ripeBy_108 : decode cX12_ripeBy 108 = .ok (.goto (-44), 3) := by decide +kernel
theorem dX12_ripeBy_111 : decode cX12_ripeBy 111 = .ok (.iinc 3 1, 3) := by decide +kernel
theorem dX12_ripeBy_114 : decode cX12_ripeBy 114 = .ok (.goto (-61), 3) := by decide +kernel
theorem dX12_ripeBy_117 : decode cX12_ripeBy 117 = .ok (.iconst (-1), 1) := by decide +kernel
theorem dX12_ripeBy_118 : decode cX12_ripeBy 118 = .ok (.ireturn, 1) := by decide +kernel
theorem dX12_ofRow_0 : decode cX12_ofRow 0 = .ok (.iload_n 2, 1) := by decide +kernel
theorem dX12_ofRow_1 : decode cX12_ofRow 1 = .ok (.iconst (-1), 1) := by decide +kernel
theorem dX12_ofRow_2 : decode cX12_ofRow 2 = .ok (.if_icmp .ne 7, 3) := by decide +kernel
theorem dX12_ofRow_5 : decode cX12_ofRow 5 = .ok (.iload_n 1, 1) := by decide +kernel
theorem dX12_ofRow_6 : decode cX12_ofRow 6 = .ok (.goto 18, 3) := by decide +kernel
theorem dX12_ofRow_9 : decode cX12_ofRow 9 = .ok (.iload_n 2, 1) := by decide +kernel
theorem dX12_ofRow_10 : decode cX12_ofRow 10 = .ok (.iload_n 1, 1) := by decide +kernel
theorem dX12_ofRow_11 : decode cX12_ofRow 11 = .ok (.if_icmp .ge 12, 3) := by decide +kernel
theorem dX12_ofRow_14 : decode cX12_ofRow 14 = .ok (.aload_n 0, 1) := by decide +kernel
theorem dX12_ofRow_15 : decode cX12_ofRow 15 = .ok (.getfield 58, 3) := by decide +kernel
theorem dX12_ofRow_18 : decode cX12_ofRow 18 = .ok (.iload_n 2, 1) := by decide +kernel
theorem dX12_ofRow_19 : decode cX12_ofRow 19 = .ok (.iaload, 1) := by decide +kernel
theorem dX12_ofRow_20 : decode cX12_ofRow 20 = .ok (.goto 4, 3) := by decide +kernel
theorem dX12_ofRow_23 : decode cX12_ofRow 23 = .ok (.iconst (-1), 1) := by decide +kernel
theorem dX12_ofRow_24 : decode cX12_ofRow 24 = .ok (.ireturn, 1) := by decide +kernel
theorem dX12_ripe_0 : decode cX12_ripe 0 = .ok (.aload_n 0, 1) := by decide +kernel
theorem dX12_ripe_1 : decode cX12_ripe 1 = .ok (.iload_n 1, 1) := by decide +kernel
theorem dX12_ripe_2 : decode cX12_ripe 2 = .ok (.invokevirtual 142, 3) := by decide +kernel
theorem dX12_ripe_5 : decode cX12_ripe 5 = .ok (.ifCond .eq 33, 3) := by decide +kernel
theorem dX12_ripe_8 : decode cX12_ripe 8 = .ok (.iload_n 2, 1) := by decide +kernel
theorem dX12_ripe_9 : decode cX12_ripe 9 = .ok (.invokestatic 148, 3) := by decide +kernel
theorem dX12_ripe_12 : decode cX12_ripe 12 = .ok (.ifCond .eq 26, 3) := by decide +kernel
theorem dX12_ripe_15 : decode cX12_ripe 15 = .ok (.iload_n 3, 1) := by decide +kernel
theorem dX12_ripe_16 : decode cX12_ripe 16 = .ok (.iconst (-1), 1) := by decide +kernel
theorem dX12_ripe_17 : decode cX12_ripe 17 = .ok (.iconst 1, 1) := by decide +kernel
theorem dX12_ripe_18 : decode cX12_ripe 18 = .ok (.invokestatic 104, 3) := by decide +kernel
theorem dX12_ripe_21 : decode cX12_ripe 21 = .ok (.ifCond .eq 17, 3) := by decide +kernel
theorem dX12_ripe_24 : decode cX12_ripe 24 = .ok (.aload_n 0, 1) := by decide +kernel
theorem dX12_ripe_25 : decode cX12_ripe 25 = .ok (.aload_n 0, 1) := by decide +kernel
theorem dX12_ripe_26 : decode cX12_ripe 26 = .ok (.iload_n 1, 1) := by decide +kernel
theorem dX12_ripe_27 : decode cX12_ripe 27 = .ok (.iload_n 2, 1) := by decide +kernel
theorem dX12_ripe_28 : decode cX12_ripe 28 = .ok (.invokevirtual 222, 3) := by decide +kernel
theorem dX12_ripe_31 : decode cX12_ripe 31 = .ok (.iload_n 3, 1) := by decide +kernel
theorem dX12_ripe_32 : decode cX12_ripe 32 = .ok (.invokevirtual 225, 3) := by decide +kernel
theorem dX12_ripe_35 : decode cX12_ripe 35 = .ok (.goto 5, 3) := by decide +kernel
theorem dX12_ripe_38 : decode cX12_ripe 38 = .ok (.bipush (-2), 2) := by decide +kernel
theorem dX12_ripe_40 : decode cX12_ripe 40 = .ok (.ireturn, 1) := by decide +kernel
theorem dX12_coldOf_0 : decode cX12_coldOf 0 = .ok (.aload_n 0, 1) := by decide +kernel
theorem dX12_coldOf_1 : decode cX12_coldOf 1 = .ok (.invokevirtual 190, 3) := by decide +kernel
theorem dX12_coldOf_4 : decode cX12_coldOf 4 = .ok (.iconst (-1), 1) := by decide +kernel
theorem dX12_coldOf_5 : decode cX12_coldOf 5 = .ok (.istore_n 3, 1) := by decide +kernel
theorem dX12_coldOf_6 : decode cX12_coldOf 6 = .ok (.iconst (-1), 1) := by decide +kernel
theorem dX12_coldOf_7 : decode cX12_coldOf 7 = .ok (.istore 4, 2) := by decide +kernel
theorem dX12_coldOf_9 : decode cX12_coldOf 9 = .ok (.iconst 0, 1) := by decide +kernel
theorem dX12_coldOf_10 : decode cX12_coldOf 10 = .ok (.istore 5, 2) := by decide +kernel
theorem dX12_coldOf_12 : decode cX12_coldOf 12 = .ok (.iload 5, 2) := by decide +kernel
theorem dX12_coldOf_14 : decode cX12_coldOf 14 = .ok (.bipush 30, 2) := by decide +kernel
theorem dX12_coldOf_16 : decode cX12_coldOf 16 = .ok (.if_icmp .ge 72, 3) := by decide +kernel
theorem dX12_coldOf_19 : decode cX12_coldOf 19 = .ok (.aload_n 0, 1) := by decide +kernel
theorem dX12_coldOf_20 : decode cX12_coldOf 20 = .ok (.getfield 43, 3) := by decide +kernel
theorem dX12_coldOf_23 : decode cX12_coldOf 23 = .ok (.iload 5, 2) := by decide +kernel
theorem dX12_coldOf_25 : decode cX12_coldOf 25 = .ok (.iconst 0, 1) := by decide +kernel
theorem dX12_coldOf_26 : decode cX12_coldOf 26 = .ok (.iastore, 1) := by decide +kernel
theorem dX12_coldOf_27 : decode cX12_coldOf 27 = .ok (.aload_n 0, 1) := by decide +kernel
theorem dX12_coldOf_28 : decode cX12_coldOf 28 = .ok (.iload_n 1, 1) := by decide +kernel
theorem dX12_coldOf_29 : decode cX12_coldOf 29 = .ok (.invokevirtual 193, 3) := by decide +kernel
theorem dX12_coldOf_32 : decode cX12_coldOf 32 = .ok (.aload_n 0, 1) := by decide +kernel
theorem dX12_coldOf_33 : decode cX12_coldOf 33 = .ok (.getfield 43, 3) := by decide +kernel
theorem dX12_coldOf_36 : decode cX12_coldOf 36 = .ok (.iload 5, 2) := by decide +kernel
theorem dX12_coldOf_38 : decode cX12_coldOf 38 = .ok (.aload_n 0, 1) := by decide +kernel
theorem dX12_coldOf_39 : decode cX12_coldOf 39 = .ok (.getfield 28, 3) := by decide +kernel
theorem dX12_coldOf_42 : decode cX12_coldOf 42 = .ok (.iload 5, 2) := by decide +kernel
theorem dX12_coldOf_44 : decode cX12_coldOf 44 = .ok (.iaload, 1) := by decide +kernel
theorem dX12_coldOf_45 : decode cX12_coldOf 45 = .ok (.iastore, 1) := by decide +kernel
theorem dX12_coldOf_46 : decode cX12_coldOf 46 = .ok (.aload_n 0, 1) := by decide +kernel
theorem dX12_coldOf_47 : decode cX12_coldOf 47 = .ok (.invokevirtual 203, 3) := by decide +kernel
theorem dX12_coldOf_50 : decode cX12_coldOf 50 = .ok (.istore 6, 2) := by decide +kernel
theorem dX12_coldOf_52 : decode cX12_coldOf 52 = .ok (.iload 6, 2) := by decide +kernel
theorem dX12_coldOf_54 : decode cX12_coldOf 54 = .ok (.iload 4, 2) := by decide +kernel
theorem dX12_coldOf_56 : decode cX12_coldOf 56 = .ok (.if_icmp .le 8, 3) := by decide +kernel
theorem dX12_coldOf_59 : decode cX12_coldOf 59 = .ok (.iload 5, 2) := by decide +kernel
theorem dX12_coldOf_61 : decode cX12_coldOf 61 = .ok (.goto 4, 3) := by decide +kernel
theorem dX12_coldOf_64 : decode cX12_coldOf 64 = .ok (.iload_n 3, 1) := by decide +kernel
theorem dX12_coldOf_65 : decode cX12_coldOf 65 = .ok (.istore_n 3, 1) := by decide +kernel
theorem dX12_coldOf_66 : decode cX12_coldOf 66 = .ok (.iload 6, 2) := by decide +kernel
theorem dX12_coldOf_68 : decode cX12_coldOf 68 = .ok (.iload 4, 2) := by decide +kernel
theorem dX12_coldOf_70 : decode cX12_coldOf 70 = .ok (.if_icmp .le 8, 3) := by decide +kernel
theorem dX12_coldOf_73 : decode cX12_coldOf 73 = .ok (.iload 6, 2) := by decide +kernel
theorem dX12_coldOf_75 : decode cX12_coldOf 75 = .ok (.goto 5, 3) := by decide +kernel
theorem dX12_coldOf_78 : decode cX12_coldOf 78 = .ok (.iload 4, 2) := by decide +kernel
theorem dX12_coldOf_80 : decode cX12_coldOf 80 = .ok (.istore 4, 2) := by decide +kernel
theorem dX12_coldOf_82 : decode cX12_coldOf 82 = .ok (.iinc 5 1, 3) := by decide +kernel
theorem dX12_coldOf_85 : decode cX12_coldOf 85 = .ok (.goto (-73), 3) := by decide +kernel
theorem dX12_coldOf_88 : decode cX12_coldOf 88 = .ok (.iload_n 2, 1) := by decide +kernel
theorem dX12_coldOf_89 : decode cX12_coldOf 89 = .ok (.ifCond .ne 7, 3) := by decide +kernel
theorem dX12_coldOf_92 : decode cX12_coldOf 92 = .ok (.iload_n 3, 1) := by decide +kernel
theorem dX12_coldOf_93 : decode cX12_coldOf 93 = .ok (.goto 5, 3) := by decide +kernel
theorem dX12_coldOf_96 : decode cX12_coldOf 96 = .ok (.iload 4, 2) := by decide +kernel
theorem dX12_coldOf_98 : decode cX12_coldOf 98 = .ok (.ireturn, 1) := by decide +kernel
theorem dX12_cold_0 : decode cX12_cold 0 = .ok (.aload_n 0, 1) := by decide +kernel
theorem dX12_cold_1 : decode cX12_cold 1 = .ok (.iload_n 1, 1) := by decide +kernel
theorem dX12_cold_2 : decode cX12_cold 2 = .ok (.invokevirtual 142, 3) := by decide +kernel
theorem dX12_cold_5 : decode cX12_cold 5 = .ok (.ifCond .eq 21, 3) := by decide +kernel
theorem dX12_cold_8 : decode cX12_cold 8 = .ok (.iload_n 2, 1) := by decide +kernel
theorem dX12_cold_9 : decode cX12_cold 9 = .ok (.iconst 0, 1) := by decide +kernel
theorem dX12_cold_10 : decode cX12_cold 10 = .ok (.iconst 1, 1) := by decide +kernel
theorem dX12_cold_11 : decode cX12_cold 11 = .ok (.invokestatic 104, 3) := by decide +kernel
theorem dX12_cold_14 : decode cX12_cold 14 = .ok (.ifCond .eq 12, 3) := by decide +kernel
theorem dX12_cold_17 : decode cX12_cold 17 = .ok (.aload_n 0, 1) := by decide +kernel
theorem dX12_cold_18 : decode cX12_cold 18 = .ok (.iload_n 1, 1) := by decide +kernel
theorem dX12_cold_19 : decode cX12_cold 19 = .ok (.iload_n 2, 1) := by decide +kernel
theorem dX12_cold_20 : decode cX12_cold 20 = .ok (.invokevirtual 228, 3) := by decide +kernel
theorem dX12_cold_23 : decode cX12_cold 23 = .ok (.goto 5, 3) := by decide +kernel
theorem dX12_cold_26 : decode cX12_cold 26 = .ok (.bipush (-2), 2) := by decide +kernel
theorem dX12_cold_28 : decode cX12_cold 28 = .ok (.ireturn, 1) := by decide +kernel
theorem dX12_comeOf_0 : decode cX12_comeOf 0 = .ok (.aload_n 0, 1) := by decide +kernel
theorem dX12_comeOf_1 : decode cX12_comeOf 1 = .ok (.invokevirtual 190, 3) := by decide +kernel
theorem dX12_comeOf_4 : decode cX12_comeOf 4 = .ok (.aload_n 0, 1) := by decide +kernel
theorem dX12_comeOf_5 : decode cX12_comeOf 5 = .ok (.getfield 19, 3) := by decide +kernel
theorem dX12_comeOf_8 : decode cX12_comeOf 8 = .ok (.iload_n 1, 1) := by decide +kernel
theorem dX12_comeOf_9 : decode cX12_comeOf 9 = .ok (.iaload, 1) := by decide +kernel
theorem dX12_comeOf_10 : decode cX12_comeOf 10 = .ok (.istore_n 3, 1) := by decide +kernel
theorem dX12_comeOf_11 : decode cX12_comeOf 11 = .ok (.iconst (-1), 1) := by decide +kernel
theorem dX12_comeOf_12 : decode cX12_comeOf 12 = .ok (.istore 4, 2) := by decide +kernel
theorem dX12_comeOf_14 : decode cX12_comeOf 14 = .ok (.iconst (-1), 1) := by decide +kernel
theorem dX12_comeOf_15 : decode cX12_comeOf 15 = .ok (.istore 5, 2) := by decide +kernel
theorem dX12_comeOf_17 : decode cX12_comeOf 17 = .ok (.iconst 0, 1) := by decide +kernel
theorem dX12_comeOf_18 : decode cX12_comeOf 18 = .ok (.istore 6, 2) := by decide +kernel
theorem dX12_comeOf_20 : decode cX12_comeOf 20 = .ok (.iload 6, 2) := by decide +kernel
theorem dX12_comeOf_22 : decode cX12_comeOf 22 = .ok (.bipush 20, 2) := by decide +kernel
theorem dX12_comeOf_24 : decode cX12_comeOf 24 = .ok (.if_icmp .ge 83, 3) := by decide +kernel
theorem dX12_comeOf_27 : decode cX12_comeOf 27 = .ok (.aload_n 0, 1) := by decide +kernel
theorem dX12_comeOf_28 : decode cX12_comeOf 28 = .ok (.getfield 19, 3) := by decide +kernel
theorem dX12_comeOf_31 : decode cX12_comeOf 31 = .ok (.iload_n 1, 1) := by decide +kernel
theorem dX12_comeOf_32 : decode cX12_comeOf 32 = .ok (.iload 6, 2) := by decide +kernel
theorem dX12_comeOf_34 : decode cX12_comeOf 34 = .ok (.iastore, 1) := by decide +kernel
theorem dX12_comeOf_35 : decode cX12_comeOf 35 = .ok (.aload_n 0, 1) := by decide +kernel
theorem dX12_comeOf_36 : decode cX12_comeOf 36 = .ok (.iload_n 1, 1) := by decide +kernel
theorem dX12_comeOf_37 : decode cX12_comeOf 37 = .ok (.invokevirtual 193, 3) := by decide +kernel
theorem dX12_comeOf_40 : decode cX12_comeOf 40 = .ok (.aload_n 0, 1) := by decide +kernel
theorem dX12_comeOf_41 : decode cX12_comeOf 41 = .ok (.getfield 49, 3) := by decide +kernel
theorem dX12_comeOf_44 : decode cX12_comeOf 44 = .ok (.bipush 29, 2) := by decide +kernel
theorem dX12_comeOf_46 : decode cX12_comeOf 46 = .ok (.iaload, 1) := by decide +kernel
theorem dX12_comeOf_47 : decode cX12_comeOf 47 = .ok (.iconst (-1), 1) := by decide +kernel
theorem dX12_comeOf_48 : decode cX12_comeOf 48 = .ok (.if_icmp .ne 7, 3) := by decide +kernel
theorem dX12_comeOf_51 : decode cX12_comeOf 51 = .ok (.iconst (-1), 1) := by decide +kernel
theorem dX12_comeOf_52 : decode cX12_comeOf 52 = .ok (.goto 15, 3) := by decide +kernel
theorem dX12_comeOf_55 : decode cX12_comeOf 55 = .ok (.aload_n 0, 1) := by decide +kernel
theorem dX12_comeOf_56 : decode cX12_comeOf 56 = .ok (.getfield 46, 3) := by decide +kernel
theorem dX12_comeOf_59 : decode cX12_comeOf 59 = .ok (.bipush 29, 2) := by decide +kernel
theorem dX12_comeOf_61 : decode cX12_comeOf 61 = .ok (.iaload, 1) := by decide +kernel
theorem dX12_comeOf_62 : decode cX12_comeOf 62 = .ok (.aload_n 0, 1) := by decide +kernel
theorem dX12_comeOf_63 : decode cX12_comeOf 63 = .ok (.getfield 95, 3) := by decide +kernel
theorem dX12_comeOf_66 : decode cX12_comeOf 66 = .ok (.idiv, 1) := by decide +kernel
theorem dX12_comeOf_67 : decode cX12_comeOf 67 = .ok (.istore 7, 2) := by decide +kernel
theorem dX12_comeOf_69 : decode cX12_comeOf 69 = .ok (.iload 7, 2) := by decide +kernel
theorem dX12_comeOf_71 : decode cX12_comeOf 71 = .ok (.iload 5, 2) := by decide +kernel
theorem dX12_comeOf_73 : decode cX12_comeOf 73 = .ok (.if_icmp .le 8, 3) := by decide +kernel
theorem dX12_comeOf_76 : decode cX12_comeOf 76 = .ok (.iload 6, 2) := by decide +kernel
theorem dX12_comeOf_78 : decode cX12_comeOf 78 = .ok (.goto 5, 3) := by decide +kernel
theorem dX12_comeOf_81 : decode cX12_comeOf 81 = .ok (.iload 4, 2) := by decide +kernel
theorem dX12_comeOf_83 : decode cX12_comeOf 83 = .ok (.istore 4, 2) := by decide +kernel
theorem dX12_comeOf_85 : decode cX12_comeOf 85 = .ok (.iload 7, 2) := by decide +kernel
theorem dX12_comeOf_87 : decode cX12_comeOf 87 = .ok (.iload 5, 2) := by decide +kernel
theorem dX12_comeOf_89 : decode cX12_comeOf 89 = .ok (.if_icmp .le 8, 3) := by decide +kernel
theorem dX12_comeOf_92 : decode cX12_comeOf 92 = .ok (.iload 7, 2) := by decide +kernel
theorem dX12_comeOf_94 : decode cX12_comeOf 94 = .ok (.goto 5, 3) := by decide +kernel
theorem dX12_comeOf_97 : decode cX12_comeOf 97 = .ok (.iload 5, 2) := by decide +kernel
theorem dX12_comeOf_99 : decode cX12_comeOf 99 = .ok (.istore 5, 2) := by decide +kernel
theorem dX12_comeOf_101 : decode cX12_comeOf 101 = .ok (.iinc 6 1, 3) := by decide +kernel
theorem dX12_comeOf_104 : decode cX12_comeOf 104 = .ok (.goto (-84), 3) := by decide +kernel
theorem dX12_comeOf_107 : decode cX12_comeOf 107 = .ok (.aload_n 0, 1) := by decide +kernel
theorem dX12_comeOf_108 : decode cX12_comeOf 108 = .ok (.getfield 19, 3) := by decide +kernel
theorem dX12_comeOf_111 : decode cX12_comeOf 111 = .ok (.iload_n 1, 1) := by decide +kernel
theorem dX12_comeOf_112 : decode cX12_comeOf 112 = .ok (.iload_n 3, 1) := by decide +kernel
theorem dX12_comeOf_113 : decode cX12_comeOf 113 = .ok (.iastore, 1) := by decide +kernel
theorem dX12_comeOf_114 : decode cX12_comeOf 114 = .ok (.iload_n 2, 1) := by decide +kernel
theorem dX12_comeOf_115 : decode cX12_comeOf 115 = .ok (.ifCond .ne 8, 3) := by decide +kernel
theorem dX12_comeOf_118 : decode cX12_comeOf 118 = .ok (.iload 4, 2) := by decide +kernel
theorem dX12_comeOf_120 : decode cX12_comeOf 120 = .ok (.goto 5, 3) := by decide +kernel
theorem dX12_comeOf_123 : decode cX12_comeOf 123 = .ok (.iload 5, 2) := by decide +kernel
theorem dX12_comeOf_125 : decode cX12_comeOf 125 = .ok (.ireturn, 1) := by decide +kernel
theorem dX12_come_0 : decode cX12_come 0 = .ok (.aload_n 0, 1) := by decide +kernel
theorem dX12_come_1 : decode cX12_come 1 = .ok (.iload_n 1, 1) := by decide +kernel
theorem dX12_come_2 : decode cX12_come 2 = .ok (.invokevirtual 142, 3) := by decide +kernel
theorem dX12_come_5 : decode cX12_come 5 = .ok (.ifCond .eq 21, 3) := by decide +kernel
theorem dX12_come_8 : decode cX12_come 8 = .ok (.iload_n 2, 1) := by decide +kernel
theorem dX12_come_9 : decode cX12_come 9 = .ok (.iconst 0, 1) := by decide +kernel
theorem dX12_come_10 : decode cX12_come 10 = .ok (.iconst 1, 1) := by decide +kernel
theorem dX12_come_11 : decode cX12_come 11 = .ok (.invokestatic 104, 3) := by decide +kernel
theorem dX12_come_14 : decode cX12_come 14 = .ok (.ifCond .eq 12, 3) := by decide +kernel
theorem dX12_come_17 : decode cX12_come 17 = .ok (.aload_n 0, 1) := by decide +kernel
theorem dX12_come_18 : decode cX12_come 18 = .ok (.iload_n 1, 1) := by decide +kernel
theorem dX12_come_19 : decode cX12_come 19 = .ok (.iload_n 2, 1) := by decide +kernel
theorem dX12_come_20 : decode cX12_come 20 = .ok (.invokevirtual 231, 3) := by decide +kernel
theorem dX12_come_23 : decode cX12_come 23 = .ok (.goto 5, 3) := by decide +kernel
theorem dX12_come_26 : decode cX12_come 26 = .ok (.bipush (-2), 2) := by decide +kernel
theorem dX12_come_28 : decode cX12_come 28 = .ok (.ireturn, 1) := by decide +kernel
theorem dX12_saleNow_0 : decode cX12_saleNow 0 = .ok (.aload_n 0, 1) := by decide +kernel
theorem dX12_saleNow_1 : decode cX12_saleNow 1 = .ok (.invokevirtual 190, 3) := by decide +kernel
theorem dX12_saleNow_4 : decode cX12_saleNow 4 = .ok (.iconst 0, 1) := by decide +kernel
theorem dX12_saleNow_5 : decode cX12_saleNow 5 = .ok (.istore_n 1, 1) := by decide +kernel
theorem dX12_saleNow_6 : decode cX12_saleNow 6 = .ok (.iconst 0, 1) := by decide +kernel
theorem dX12_saleNow_7 : decode cX12_saleNow 7 = .ok (.istore_n 2, 1) := by decide +kernel
theorem dX12_saleNow_8 : decode cX12_saleNow 8 = .ok (.iload_n 2, 1) := by decide +kernel
theorem dX12_saleNow_9 : decode cX12_saleNow 9 = .ok (.aload_n 0, 1) := by decide +kernel
theorem dX12_saleNow_10 : decode cX12_saleNow 10 = .ok (.getfield 119, 3) := by decide +kernel
theorem dX12_saleNow_13 : decode cX12_saleNow 13 = .ok (.if_icmp .ge 66, 3) := by decide +kernel
theorem dX12_saleNow_16 : decode cX12_saleNow 16 = .ok (.aload_n 0, 1) := by decide +kernel
theorem dX12_saleNow_17 : decode cX12_saleNow 17 = .ok (.iload_n 2, 1) := by decide +kernel
theorem dX12_saleNow_18 : decode cX12_saleNow 18 = .ok (.invokevirtual 193, 3) := by decide +kernel
theorem dX12_saleNow_21 : decode cX12_saleNow 21 = .ok (.iconst 0, 1) := by decide +kernel
theorem dX12_saleNow_22 : decode cX12_saleNow 22 = .ok (.istore_n 3, 1) := by decide +kernel
theorem dX12_saleNow_23 : decode cX12_saleNow 23 = .ok (.iload_n 3, 1) := by decide +kernel
theorem dX12_saleNow_24 : decode cX12_saleNow 24 = .ok (.bipush 30, 2) := by decide +kernel
theorem dX12_saleNow_26 : decode cX12_saleNow 26 = .ok (.if_icmp .ge 47, 3) := by decide +kernel
theorem dX12_saleNow_29 : decode cX12_saleNow 29 = .ok (.aload_n 0, 1) := by decide +kernel
theorem dX12_saleNow_30 : decode cX12_saleNow 30 = .ok (.getfield 61, 3) := by decide +kernel
theorem dX12_saleNow_33 : decode cX12_saleNow 33 = .ok (.bipush 8, 2) := by decide +kernel
theorem dX12_saleNow_35 : decode cX12_saleNow 35 = .ok (.iload_n 3, 1) := by decide +kernel
theorem dX12_saleNow_36 : decode cX12_saleNow 36 = .ok (.imul, 1) := by decide +kernel
theorem dX12_saleNow_37 : decode cX12_saleNow 37 = .ok (.iload_n 2, 1) := by decide +kernel
theorem dX12_saleNow_38 : decode cX12_saleNow 38 = .ok (.iadd, 1) := by decide +kernel
theorem dX12_saleNow_39 : decode cX12_saleNow 39 = .ok (.aload_n 0, 1) := by decide +kernel
theorem dX12_saleNow_40 : decode cX12_saleNow 40 = .ok (.getfield 49, 3) := by decide +kernel
theorem dX12_saleNow_43 : decode cX12_saleNow 43 = .ok (.iload_n 3, 1) := by decide +kernel
theorem dX12_saleNow_44 : decode cX12_saleNow 44 = .ok (.iaload, 1) := by decide +kernel
theorem dX12_saleNow_45 : decode cX12_saleNow 45 = .ok (.iconst (-1), 1) := by decide +kernel
theorem dX12_saleNow_46 : decode cX12_saleNow 46 = .ok (.if_icmp .ne 7, 3) := by decide +kernel
theorem dX12_saleNow_49 : decode cX12_saleNow 49 = .ok (.iconst 0, 1) := by decide +kernel
theorem dX12_saleNow_50 : decode cX12_saleNow 50 = .ok (.goto 16, 3) := by decide +kernel
theorem dX12_saleNow_53 : decode cX12_saleNow 53 = .ok (.aload_n 0, 1) := by decide +kernel
theorem dX12_saleNow_54 : decode cX12_saleNow 54 = .ok (.getfield 46, 3) := by decide +kernel
theorem dX12_saleNow_57 : decode cX12_saleNow 57 = .ok (.iload_n 3, 1) := by decide +kernel
theorem dX12_saleNow_58 : decode cX12_saleNow 58 = .ok (.iaload, 1) := by decide +kernel
theorem dX12_saleNow_59 : decode cX12_saleNow 59 = .ok (.aload_n 0, 1) := by decide +kernel
theorem dX12_saleNow_60 : decode cX12_saleNow 60 = .ok (.getfield 95, 3) := by decide +kernel
theorem dX12_saleNow_63 : decode cX12_saleNow 63 = .ok (.idiv, 1) := by decide +kernel
theorem dX12_saleNow_64 : decode cX12_saleNow 64 = .ok (.iconst 1, 1) := by decide +kernel
theorem dX12_saleNow_65 : decode cX12_saleNow 65 = .ok (.iadd, 1) := by decide +kernel
end
section
theorem dX12_saleNow_66 : decode cX12_saleNow 66 = .ok (.iastore, 1) := by decide +kernel
theorem dX12_saleNow_67 : decode cX12_saleNow 67 = .ok (.iinc 3 1, 3) := by decide +kernel
theorem dX12_saleNow_70 : decode cX12_saleNow 70 = .ok (.goto (-47), 3) := by decide +kernel
theorem dX12_saleNow_73 : decode cX12_saleNow 73 = .ok (.iinc 2 1, 3) := by decide +kernel
theorem dX12_saleNow_76 : decode cX12_saleNow 76 = .ok (.goto (-68), 3) := by decide +kernel
theorem dX12_saleNow_79 : decode cX12_saleNow 79 = .ok (.iconst 0, 1) := by decide +kernel
theorem dX12_saleNow_80 : decode cX12_saleNow 80 = .ok (.istore_n 2, 1) := by decide +kernel
theorem dX12_saleNow_81 : decode cX12_saleNow 81 = .ok (.iload_n 2, 1) := by decide +kernel
theorem dX12_saleNow_82 : decode cX12_saleNow 82 = .ok (.sipush 256, 3) := by decide +kernel
theorem dX12_saleNow_85 : decode cX12_saleNow 85 = .ok (.if_icmp .ge 16, 3) := by decide +kernel
theorem dX12_saleNow_88 : decode cX12_saleNow 88 = .ok (.aload_n 0, 1) := by decide +kernel
theorem dX12_saleNow_89 : decode cX12_saleNow 89 = .ok (.getfield 64, 3) := by decide +kernel
theorem dX12_saleNow_92 : decode cX12_saleNow 92 = .ok (.iload_n 2, 1) := by decide +kernel
theorem dX12_saleNow_93 : decode cX12_saleNow 93 = .ok (.iconst 0, 1) := by decide +kernel
theorem dX12_saleNow_94 : decode cX12_saleNow 94 = .ok (.iastore, 1) := by decide +kernel
theorem dX12_saleNow_95 : decode cX12_saleNow 95 = .ok (.iinc 2 1, 3) := by decide +kernel
theorem dX12_saleNow_98 : decode cX12_saleNow 98 = .ok (.goto (-17), 3) := by decide +kernel
theorem dX12_saleNow_101 : decode cX12_saleNow 101 = .ok (.iconst 0, 1) := by decide +kernel
theorem dX12_saleNow_102 : decode cX12_saleNow 102 = .ok (.istore_n 2, 1) := by decide +kernel
theorem dX12_saleNow_103 : decode cX12_saleNow 103 = .ok (.iload_n 2, 1) := by decide +kernel
theorem dX12_saleNow_104 : decode cX12_saleNow 104 = .ok (.bipush 30, 2) := by decide +kernel
theorem dX12_saleNow_106 : decode cX12_saleNow 106 = .ok (.if_icmp .ge 115, 3) := by decide +kernel
theorem dX12_saleNow_109 : decode cX12_saleNow 109 = .ok (.iconst 1, 1) := by decide +kernel
theorem dX12_saleNow_110 : decode cX12_saleNow 110 = .ok (.aload_n 0, 1) := by decide +kernel
theorem dX12_saleNow_111 : decode cX12_saleNow 111 = .ok (.getfield 119, 3) := by decide +kernel
theorem dX12_saleNow_114 : decode cX12_saleNow 114 = .ok (.ishl, 1) := by decide +kernel
theorem dX12_saleNow_115 : decode cX12_saleNow 115 = .ok (.iconst 1, 1) := by decide +kernel
theorem dX12_saleNow_116 : decode cX12_saleNow 116 = .ok (.isub, 1) := by decide +kernel
theorem dX12_saleNow_117 : decode cX12_saleNow 117 = .ok (.istore_n 3, 1) := by decide +kernel
theorem dX12_saleNow_118 : decode cX12_saleNow 118 = .ok (.iload_n 3, 1) := by decide +kernel
theorem dX12_saleNow_119 : decode cX12_saleNow 119 = .ok (.ifCond .le 96, 3) := by decide +kernel
theorem dX12_saleNow_122 : decode cX12_saleNow 122 = .ok (.iconst 0, 1) := by decide +kernel
theorem dX12_saleNow_123 : decode cX12_saleNow 123 = .ok (.istore 4, 2) := by decide +kernel
theorem dX12_saleNow_125 : decode cX12_saleNow 125 = .ok (.iload 4, 2) := by decide +kernel
theorem dX12_saleNow_127 : decode cX12_saleNow 127 = .ok (.aload_n 0, 1) := by decide +kernel
theorem dX12_saleNow_128 : decode cX12_saleNow 128 = .ok (.getfield 119, 3) := by decide +kernel
theorem dX12_saleNow_131 : decode cX12_saleNow 131 = .ok (.if_icmp .ge 78, 3) := by decide +kernel
theorem dX12_saleNow_134 : decode cX12_saleNow 134 = .ok (.iload_n 3, 1) := by decide +kernel
theorem dX12_saleNow_135 : decode cX12_saleNow 135 = .ok (.iload 4, 2) := by decide +kernel
theorem dX12_saleNow_137 : decode cX12_saleNow 137 = .ok (.invokestatic 175, 3) := by decide +kernel
theorem dX12_saleNow_140 : decode cX12_saleNow 140 = .ok (.ifCond .eq 32, 3) := by decide +kernel
theorem dX12_saleNow_143 : decode cX12_saleNow 143 = .ok (.aload_n 0, 1) := by decide +kernel
theorem dX12_saleNow_144 : decode cX12_saleNow 144 = .ok (.getfield 64, 3) := by decide +kernel
theorem dX12_saleNow_147 : decode cX12_saleNow 147 = .ok (.iload_n 3, 1) := by decide +kernel
theorem dX12_saleNow_148 : decode cX12_saleNow 148 = .ok (.iconst 1, 1) := by decide +kernel
theorem dX12_saleNow_149 : decode cX12_saleNow 149 = .ok (.iload 4, 2) := by decide +kernel
theorem dX12_saleNow_151 : decode cX12_saleNow 151 = .ok (.ishl, 1) := by decide +kernel
theorem dX12_saleNow_152 : decode cX12_saleNow 152 = .ok (.iconst (-1), 1) := by decide +kernel
theorem dX12_saleNow_153 : decode cX12_saleNow 153 = .ok (.ixor, 1) := by decide +kernel
theorem dX12_saleNow_154 : decode cX12_saleNow 154 = .ok (.iand, 1) := by decide +kernel
theorem dX12_saleNow_155 : decode cX12_saleNow 155 = .ok (.iaload, 1) := by decide +kernel
theorem dX12_saleNow_156 : decode cX12_saleNow 156 = .ok (.aload_n 0, 1) := by decide +kernel
theorem dX12_saleNow_157 : decode cX12_saleNow 157 = .ok (.getfield 61, 3) := by decide +kernel
theorem dX12_saleNow_160 : decode cX12_saleNow 160 = .ok (.bipush 8, 2) := by decide +kernel
theorem dX12_saleNow_162 : decode cX12_saleNow 162 = .ok (.iload_n 2, 1) := by decide +kernel
theorem dX12_saleNow_163 : decode cX12_saleNow 163 = .ok (.imul, 1) := by decide +kernel
theorem dX12_saleNow_164 : decode cX12_saleNow 164 = .ok (.iload 4, 2) := by decide +kernel
theorem dX12_saleNow_166 : decode cX12_saleNow 166 = .ok (.iadd, 1) := by decide +kernel
theorem dX12_saleNow_167 : decode cX12_saleNow 167 = .ok (.iaload, 1) := by decide +kernel
theorem dX12_saleNow_168 : decode cX12_saleNow 168 = .ok (.iadd, 1) := by decide +kernel
theorem dX12_saleNow_169 : decode cX12_saleNow 169 = .ok (.goto 4, 3) := by decide +kernel
theorem dX12_saleNow_172 : decode cX12_saleNow 172 = .ok (.iconst 0, 1) := by decide +kernel
theorem dX12_saleNow_173 : decode cX12_saleNow 173 = .ok (.istore 5, 2) := by decide +kernel
theorem dX12_saleNow_175 : decode cX12_saleNow 175 = .ok (.aload_n 0, 1) := by decide +kernel
theorem dX12_saleNow_176 : decode cX12_saleNow 176 = .ok (.getfield 64, 3) := by decide +kernel
theorem dX12_saleNow_179 : decode cX12_saleNow 179 = .ok (.iload_n 3, 1) := by decide +kernel
theorem dX12_saleNow_180 : decode cX12_saleNow 180 = .ok (.iload 5, 2) := by decide +kernel
theorem dX12_saleNow_182 : decode cX12_saleNow 182 = .ok (.aload_n 0, 1) := by decide +kernel
theorem dX12_saleNow_183 : decode cX12_saleNow 183 = .ok (.getfield 64, 3) := by decide +kernel
theorem dX12_saleNow_186 : decode cX12_saleNow 186 = .ok (.iload_n 3, 1) := by decide +kernel
theorem dX12_saleNow_187 : decode cX12_saleNow 187 = .ok (.iaload, 1) := by decide +kernel
theorem dX12_saleNow_188 : decode cX12_saleNow 188 = .ok (.if_icmp .le 8, 3) := by decide +kernel
theorem dX12_saleNow_191 : decode cX12_saleNow 191 = .ok (.iload 5, 2) := by decide +kernel
theorem dX12_saleNow_193 : decode cX12_saleNow 193 = .ok (.goto 9, 3) := by decide +kernel
theorem dX12_saleNow_196 : decode cX12_saleNow 196 = .ok (.aload_n 0, 1) := by decide +kernel
theorem dX12_saleNow_197 : decode cX12_saleNow 197 = .ok (.getfield 64, 3) := by decide +kernel
theorem dX12_saleNow_200 : decode cX12_saleNow 200 = .ok (.iload_n 3, 1) := by decide +kernel
theorem dX12_saleNow_201 : decode cX12_saleNow 201 = .ok (.iaload, 1) := by decide +kernel
theorem dX12_saleNow_202 : decode cX12_saleNow 202 = .ok (.iastore, 1) := by decide +kernel
theorem dX12_saleNow_203 : decode cX12_saleNow 203 = .ok (.iinc 4 1, 3) := by decide +kernel
theorem dX12_saleNow_206 : decode cX12_saleNow 206 = .ok (.goto (-81), 3) := by decide +kernel
theorem dX12_saleNow_209 : decode cX12_saleNow 209 = .ok (.iinc 3 (-1), 3) := by decide +kernel
theorem dX12_saleNow_212 : decode cX12_saleNow 212 = .ok (.goto (-94), 3) := by decide +kernel
theorem dX12_saleNow_215 : decode cX12_saleNow 215 = .ok (.iinc 2 1, 3) := by decide +kernel
theorem dX12_saleNow_218 : decode cX12_saleNow 218 = .ok (.goto (-115), 3) := by decide +kernel
theorem dX12_saleNow_221 : decode cX12_saleNow 221 = .ok (.iconst 0, 1) := by decide +kernel
theorem dX12_saleNow_222 : decode cX12_saleNow 222 = .ok (.istore_n 2, 1) := by decide +kernel
theorem dX12_saleNow_223 : decode cX12_saleNow 223 = .ok (.iload_n 2, 1) := by decide +kernel
theorem dX12_saleNow_224 : decode cX12_saleNow 224 = .ok (.iconst 1, 1) := by decide +kernel
theorem dX12_saleNow_225 : decode cX12_saleNow 225 = .ok (.aload_n 0, 1) := by decide +kernel
theorem dX12_saleNow_226 : decode cX12_saleNow 226 = .ok (.getfield 119, 3) := by decide +kernel
theorem dX12_saleNow_229 : decode cX12_saleNow 229 = .ok (.ishl, 1) := by decide +kernel
theorem dX12_saleNow_230 : decode cX12_saleNow 230 = .ok (.if_icmp .ge 30, 3) := by decide +kernel
theorem dX12_saleNow_233 : decode cX12_saleNow 233 = .ok (.aload_n 0, 1) := by decide +kernel
theorem dX12_saleNow_234 : decode cX12_saleNow 234 = .ok (.getfield 64, 3) := by decide +kernel
theorem dX12_saleNow_237 : decode cX12_saleNow 237 = .ok (.iload_n 2, 1) := by decide +kernel
theorem dX12_saleNow_238 : decode cX12_saleNow 238 = .ok (.iaload, 1) := by decide +kernel
theorem dX12_saleNow_239 : decode cX12_saleNow 239 = .ok (.iload_n 1, 1) := by decide +kernel
theorem dX12_saleNow_240 : decode cX12_saleNow 240 = .ok (.if_icmp .le 12, 3) := by decide +kernel
theorem dX12_saleNow_243 : decode cX12_saleNow 243 = .ok (.aload_n 0, 1) := by decide +kernel
theorem dX12_saleNow_244 : decode cX12_saleNow 244 = .ok (.getfield 64, 3) := by decide +kernel
theorem dX12_saleNow_247 : decode cX12_saleNow 247 = .ok (.iload_n 2, 1) := by decide +kernel
theorem dX12_saleNow_248 : decode cX12_saleNow 248 = .ok (.iaload, 1) := by decide +kernel
theorem dX12_saleNow_249 : decode cX12_saleNow 249 = .ok (.goto 4, 3) := by decide +kernel
theorem dX12_saleNow_252 : decode cX12_saleNow 252 = .ok (.iload_n 1, 1) := by decide +kernel
theorem dX12_saleNow_253 : decode cX12_saleNow 253 = .ok (.istore_n 1, 1) := by decide +kernel
theorem dX12_saleNow_254 : decode cX12_saleNow 254 = .ok (.iinc 2 1, 3) := by decide +kernel
theorem dX12_saleNow_257 : decode cX12_saleNow 257 = .ok (.goto (-34), 3) := by decide +kernel
theorem dX12_saleNow_260 : decode cX12_saleNow 260 = .ok (.iload_n 1, 1) := by decide +kernel
theorem dX12_saleNow_261 : decode cX12_saleNow 261 = .ok (.ireturn, 1) := by decide +kernel
theorem dX12_sale_0 : decode cX12_sale 0 = .ok (.aload_n 0, 1) := by decide +kernel
theorem dX12_sale_1 : decode cX12_sale 1 = .ok (.invokevirtual 234, 3) := by decide +kernel
theorem dX12_sale_4 : decode cX12_sale 4 = .ok (.ireturn, 1) := by decide +kernel
theorem dX12_listen_0 : decode cX12_listen 0 = .ok (.iload_n 1, 1) := by decide +kernel
theorem dX12_listen_1 : decode cX12_listen 1 = .ok (.invokestatic 148, 3) := by decide +kernel
theorem dX12_listen_4 : decode cX12_listen 4 = .ok (.ifCond .eq 23, 3) := by decide +kernel
theorem dX12_listen_7 : decode cX12_listen 7 = .ok (.iload_n 2, 1) := by decide +kernel
theorem dX12_listen_8 : decode cX12_listen 8 = .ok (.iconst 0, 1) := by decide +kernel
theorem dX12_listen_9 : decode cX12_listen 9 = .ok (.bipush 7, 2) := by decide +kernel
theorem dX12_listen_11 : decode cX12_listen 11 = .ok (.invokestatic 104, 3) := by decide +kernel
theorem dX12_listen_14 : decode cX12_listen 14 = .ok (.ifCond .eq 13, 3) := by decide +kernel
theorem dX12_listen_17 : decode cX12_listen 17 = .ok (.iload_n 3, 1) := by decide +kernel
theorem dX12_listen_18 : decode cX12_listen 18 = .ok (.iconst 0, 1) := by decide +kernel
theorem dX12_listen_19 : decode cX12_listen 19 = .ok (.bipush 8, 2) := by decide +kernel
theorem dX12_listen_21 : decode cX12_listen 21 = .ok (.invokestatic 104, 3) := by decide +kernel
theorem dX12_listen_24 : decode cX12_listen 24 = .ok (.ifCond .ne 6, 3) := by decide +kernel
theorem dX12_listen_27 : decode cX12_listen 27 = .ok (.bipush (-2), 2) := by decide +kernel
theorem dX12_listen_29 : decode cX12_listen 29 = .ok (.ireturn, 1) := by decide +kernel
theorem dX12_listen_30 : decode cX12_listen 30 = .ok (.aload_n 0, 1) := by decide +kernel
theorem dX12_listen_31 : decode cX12_listen 31 = .ok (.getfield 237, 3) := by decide +kernel
theorem dX12_listen_34 : decode cX12_listen 34 = .ok (.bipush 8, 2) := by decide +kernel
theorem dX12_listen_36 : decode cX12_listen 36 = .ok (.if_icmp .ne 6, 3) := by decide +kernel
theorem dX12_listen_39 : decode cX12_listen 39 = .ok (.bipush (-4), 2) := by decide +kernel
theorem dX12_listen_41 : decode cX12_listen 41 = .ok (.ireturn, 1) := by decide +kernel
theorem dX12_listen_42 : decode cX12_listen 42 = .ok (.aload_n 0, 1) := by decide +kernel
theorem dX12_listen_43 : decode cX12_listen 43 = .ok (.getfield 67, 3) := by decide +kernel
theorem dX12_listen_46 : decode cX12_listen 46 = .ok (.aload_n 0, 1) := by decide +kernel
theorem dX12_listen_47 : decode cX12_listen 47 = .ok (.getfield 237, 3) := by decide +kernel
theorem dX12_listen_50 : decode cX12_listen 50 = .ok (.iload_n 1, 1) := by decide +kernel
theorem dX12_listen_51 : decode cX12_listen 51 = .ok (.iastore, 1) := by decide +kernel
theorem dX12_listen_52 : decode cX12_listen 52 = .ok (.aload_n 0, 1) := by decide +kernel
theorem dX12_listen_53 : decode cX12_listen 53 = .ok (.getfield 70, 3) := by decide +kernel
theorem dX12_listen_56 : decode cX12_listen 56 = .ok (.aload_n 0, 1) := by decide +kernel
theorem dX12_listen_57 : decode cX12_listen 57 = .ok (.getfield 237, 3) := by decide +kernel
theorem dX12_listen_60 : decode cX12_listen 60 = .ok (.iload_n 2, 1) := by decide +kernel
theorem dX12_listen_61 : decode cX12_listen 61 = .ok (.iastore, 1) := by decide +kernel
theorem dX12_listen_62 : decode cX12_listen 62 = .ok (.aload_n 0, 1) := by decide +kernel
theorem dX12_listen_63 : decode cX12_listen 63 = .ok (.getfield 73, 3) := by decide +kernel
theorem dX12_listen_66 : decode cX12_listen 66 = .ok (.aload_n 0, 1) := by decide +kernel
theorem dX12_listen_67 : decode cX12_listen 67 = .ok (.getfield 237, 3) := by decide +kernel
theorem dX12_listen_70 : decode cX12_listen 70 = .ok (.iload_n 3, 1) := by decide +kernel
theorem dX12_listen_71 : decode cX12_listen 71 = .ok (.iastore, 1) := by decide +kernel
theorem dX12_listen_72 : decode cX12_listen 72 = .ok (.aload_n 0, 1) := by decide +kernel
theorem dX12_listen_73 : decode cX12_listen 73 = .ok (.dup, 1) := by decide +kernel
theorem dX12_listen_74 : decode cX12_listen 74 = .ok (.getfield 237, 3) := by decide +kernel
theorem dX12_listen_77 : decode cX12_listen 77 = .ok (.iconst 1, 1) := by decide +kernel
theorem dX12_listen_78 : decode cX12_listen 78 = .ok (.iadd, 1) := by decide +kernel
theorem dX12_listen_79 : decode cX12_listen 79 = .ok (.putfield 237, 3) := by decide +kernel
theorem dX12_listen_82 : decode cX12_listen 82 = .ok (.aload_n 0, 1) := by decide +kernel
theorem dX12_listen_83 : decode cX12_listen 83 = .ok (.getfield 237, 3) := by decide +kernel
theorem dX12_listen_86 : decode cX12_listen 86 = .ok (.ireturn, 1) := by decide +kernel
theorem dX12_forget_0 : decode cX12_forget 0 = .ok (.aload_n 0, 1) := by decide +kernel
theorem dX12_forget_1 : decode cX12_forget 1 = .ok (.getfield 237, 3) := by decide +kernel
theorem dX12_forget_4 : decode cX12_forget 4 = .ok (.istore_n 1, 1) := by decide +kernel
theorem dX12_forget_5 : decode cX12_forget 5 = .ok (.aload_n 0, 1) := by decide +kernel
theorem dX12_forget_6 : decode cX12_forget 6 = .ok (.iconst 0, 1) := by decide +kernel
theorem dX12_forget_7 : decode cX12_forget 7 = .ok (.putfield 237, 3) := by decide +kernel
theorem dX12_forget_10 : decode cX12_forget 10 = .ok (.iload_n 1, 1) := by decide +kernel
theorem dX12_forget_11 : decode cX12_forget 11 = .ok (.ireturn, 1) := by decide +kernel
theorem dX12_isHeard_0 : decode cX12_isHeard 0 = .ok (.iconst 1, 1) := by decide +kernel
theorem dX12_isHeard_1 : decode cX12_isHeard 1 = .ok (.istore_n 2, 1) := by decide +kernel
theorem dX12_isHeard_2 : decode cX12_isHeard 2 = .ok (.iconst 0, 1) := by decide +kernel
theorem dX12_isHeard_3 : decode cX12_isHeard 3 = .ok (.istore_n 3, 1) := by decide +kernel
theorem dX12_isHeard_4 : decode cX12_isHeard 4 = .ok (.iload_n 3, 1) := by decide +kernel
theorem dX12_isHeard_5 : decode cX12_isHeard 5 = .ok (.aload_n 0, 1) := by decide +kernel
theorem dX12_isHeard_6 : decode cX12_isHeard 6 = .ok (.getfield 237, 3) := by decide +kernel
theorem dX12_isHeard_9 : decode cX12_isHeard 9 = .ok (.if_icmp .ge 98, 3) := by decide +kernel
theorem dX12_isHeard_12 : decode cX12_isHeard 12 = .ok (.iload_n 2, 1) := by decide +kernel
theorem dX12_isHeard_13 : decode cX12_isHeard 13 = .ok (.ifCond .eq 94, 3) := by decide +kernel
theorem dX12_isHeard_16 : decode cX12_isHeard 16 = .ok (.aload_n 0, 1) := by decide +kernel
theorem dX12_isHeard_17 : decode cX12_isHeard 17 = .ok (.getfield 70, 3) := by decide +kernel
theorem dX12_isHeard_20 : decode cX12_isHeard 20 = .ok (.iload_n 3, 1) := by decide +kernel
theorem dX12_isHeard_21 : decode cX12_isHeard 21 = .ok (.iaload, 1) := by decide +kernel
theorem dX12_isHeard_22 : decode cX12_isHeard 22 = .ok (.aload_n 0, 1) := by decide +kernel
theorem dX12_isHeard_23 : decode cX12_isHeard 23 = .ok (.getfield 119, 3) := by decide +kernel
theorem dX12_isHeard_26 : decode cX12_isHeard 26 = .ok (.if_icmp .ge 7, 3) := by decide +kernel
theorem dX12_isHeard_29 : decode cX12_isHeard 29 = .ok (.iconst 1, 1) := by decide +kernel
theorem dX12_isHeard_30 : decode cX12_isHeard 30 = .ok (.goto 4, 3) := by decide +kernel
theorem dX12_isHeard_33 : decode cX12_isHeard 33 = .ok (.iconst 0, 1) := by decide +kernel
theorem dX12_isHeard_34 : decode cX12_isHeard 34 = .ok (.istore_n 2, 1) := by decide +kernel
theorem dX12_isHeard_35 : decode cX12_isHeard 35 = .ok (.iload_n 2, 1) := by decide +kernel
theorem dX12_isHeard_36 : decode cX12_isHeard 36 = .ok (.ifCond .eq 65, 3) := by decide +kernel
theorem dX12_isHeard_39 : decode cX12_isHeard 39 = .ok (.aload_n 0, 1) := by decide +kernel
theorem dX12_isHeard_40 : decode cX12_isHeard 40 = .ok (.aload_n 0, 1) := by decide +kernel
theorem dX12_isHeard_41 : decode cX12_isHeard 41 = .ok (.getfield 70, 3) := by decide +kernel
theorem dX12_isHeard_44 : decode cX12_isHeard 44 = .ok (.iload_n 3, 1) := by decide +kernel
theorem dX12_isHeard_45 : decode cX12_isHeard 45 = .ok (.iaload, 1) := by decide +kernel
theorem dX12_isHeard_46 : decode cX12_isHeard 46 = .ok (.iload_n 1, 1) := by decide +kernel
theorem dX12_isHeard_47 : decode cX12_isHeard 47 = .ok (.invokevirtual 182, 3) := by decide +kernel
theorem dX12_isHeard_50 : decode cX12_isHeard 50 = .ok (.aload_n 0, 1) := by decide +kernel
theorem dX12_isHeard_51 : decode cX12_isHeard 51 = .ok (.aload_n 0, 1) := by decide +kernel
theorem dX12_isHeard_52 : decode cX12_isHeard 52 = .ok (.getfield 70, 3) := by decide +kernel
theorem dX12_isHeard_55 : decode cX12_isHeard 55 = .ok (.iload_n 3, 1) := by decide +kernel
theorem dX12_isHeard_56 : decode cX12_isHeard 56 = .ok (.iaload, 1) := by decide +kernel
theorem dX12_isHeard_57 : decode cX12_isHeard 57 = .ok (.invokevirtual 186, 3) := by decide +kernel
theorem dX12_isHeard_60 : decode cX12_isHeard 60 = .ok (.aload_n 0, 1) := by decide +kernel
theorem dX12_isHeard_61 : decode cX12_isHeard 61 = .ok (.getfield 49, 3) := by decide +kernel
theorem dX12_isHeard_64 : decode cX12_isHeard 64 = .ok (.aload_n 0, 1) := by decide +kernel
theorem dX12_isHeard_65 : decode cX12_isHeard 65 = .ok (.getfield 67, 3) := by decide +kernel
theorem dX12_isHeard_68 : decode cX12_isHeard 68 = .ok (.iload_n 3, 1) := by decide +kernel
theorem dX12_isHeard_69 : decode cX12_isHeard 69 = .ok (.iaload, 1) := by decide +kernel
theorem dX12_isHeard_70 : decode cX12_isHeard 70 = .ok (.iaload, 1) := by decide +kernel
theorem dX12_isHeard_71 : decode cX12_isHeard 71 = .ok (.istore 4, 2) := by decide +kernel
theorem dX12_isHeard_73 : decode cX12_isHeard 73 = .ok (.iload 4, 2) := by decide +kernel
theorem dX12_isHeard_75 : decode cX12_isHeard 75 = .ok (.iconst (-1), 1) := by decide +kernel
theorem dX12_isHeard_76 : decode cX12_isHeard 76 = .ok (.if_icmp .ne 8, 3) := by decide +kernel
theorem dX12_isHeard_79 : decode cX12_isHeard 79 = .ok (.bipush 8, 2) := by decide +kernel
theorem dX12_isHeard_81 : decode cX12_isHeard 81 = .ok (.goto 5, 3) := by decide +kernel
theorem dX12_isHeard_84 : decode cX12_isHeard 84 = .ok (.iload 4, 2) := by decide +kernel
theorem dX12_isHeard_86 : decode cX12_isHeard 86 = .ok (.aload_n 0, 1) := by decide +kernel
theorem dX12_isHeard_87 : decode cX12_isHeard 87 = .ok (.getfield 73, 3) := by decide +kernel
theorem dX12_isHeard_90 : decode cX12_isHeard 90 = .ok (.iload_n 3, 1) := by decide +kernel
theorem dX12_isHeard_91 : decode cX12_isHeard 91 = .ok (.iaload, 1) := by decide +kernel
theorem dX12_isHeard_92 : decode cX12_isHeard 92 = .ok (.if_icmp .ne 7, 3) := by decide +kernel
theorem dX12_isHeard_95 : decode cX12_isHeard 95 = .ok (.iconst 1, 1) := by decide +kernel
theorem dX12_isHeard_96 : decode cX12_isHeard 96 = .ok (.goto 4, 3) := by decide +kernel
theorem dX12_isHeard_99 : decode cX12_isHeard 99 = .ok (.iconst 0, 1) := by decide +kernel
theorem dX12_isHeard_100 : decode cX12_isHeard 100 = .ok (.istore_n 2, 1) := by decide +kernel
theorem dX12_isHeard_101 : decode cX12_isHeard 101 = .ok (.iinc 3 1, 3) := by decide +kernel
theorem dX12_isHeard_104 : decode cX12_isHeard 104 = .ok (.goto (-100), 3) := by decide +kernel
theorem dX12_isHeard_107 : decode cX12_isHeard 107 = .ok (.iload_n 2, 1) := by decide +kernel
theorem dX12_isHeard_108 : decode cX12_isHeard 108 = .ok (.ireturn, 1) := by decide +kernel
theorem dX12_neverNow_0 : decode cX12_neverNow 0 = .ok (.aload_n 0, 1) := by decide +kernel
theorem dX12_neverNow_1 : decode cX12_neverNow 1 = .ok (.invokevirtual 190, 3) := by decide +kernel
theorem dX12_neverNow_4 : decode cX12_neverNow 4 = .ok (.iconst 0, 1) := by decide +kernel
theorem dX12_neverNow_5 : decode cX12_neverNow 5 = .ok (.istore_n 1, 1) := by decide +kernel
theorem dX12_neverNow_6 : decode cX12_neverNow 6 = .ok (.iconst 0, 1) := by decide +kernel
theorem dX12_neverNow_7 : decode cX12_neverNow 7 = .ok (.istore_n 2, 1) := by decide +kernel
theorem dX12_neverNow_8 : decode cX12_neverNow 8 = .ok (.iload_n 2, 1) := by decide +kernel
theorem dX12_neverNow_9 : decode cX12_neverNow 9 = .ok (.aload_n 0, 1) := by decide +kernel
theorem dX12_neverNow_10 : decode cX12_neverNow 10 = .ok (.getfield 154, 3) := by decide +kernel
theorem dX12_neverNow_13 : decode cX12_neverNow 13 = .ok (.if_icmp .ge 29, 3) := by decide +kernel
theorem dX12_neverNow_16 : decode cX12_neverNow 16 = .ok (.iload_n 1, 1) := by decide +kernel
theorem dX12_neverNow_17 : decode cX12_neverNow 17 = .ok (.aload_n 0, 1) := by decide +kernel
theorem dX12_neverNow_18 : decode cX12_neverNow 18 = .ok (.iconst 1, 1) := by decide +kernel
theorem dX12_neverNow_19 : decode cX12_neverNow 19 = .ok (.iload_n 2, 1) := by decide +kernel
theorem dX12_neverNow_20 : decode cX12_neverNow 20 = .ok (.ishl, 1) := by decide +kernel
theorem dX12_neverNow_21 : decode cX12_neverNow 21 = .ok (.invokevirtual 240, 3) := by decide +kernel
theorem dX12_neverNow_24 : decode cX12_neverNow 24 = .ok (.ifCond .eq 9, 3) := by decide +kernel
theorem dX12_neverNow_27 : decode cX12_neverNow 27 = .ok (.iconst 1, 1) := by decide +kernel
theorem dX12_neverNow_28 : decode cX12_neverNow 28 = .ok (.iload_n 2, 1) := by decide +kernel
theorem dX12_neverNow_29 : decode cX12_neverNow 29 = .ok (.ishl, 1) := by decide +kernel
theorem dX12_neverNow_30 : decode cX12_neverNow 30 = .ok (.goto 4, 3) := by decide +kernel
theorem dX12_neverNow_33 : decode cX12_neverNow 33 = .ok (.iconst 0, 1) := by decide +kernel
theorem dX12_neverNow_34 : decode cX12_neverNow 34 = .ok (.ior, 1) := by decide +kernel
theorem dX12_neverNow_35 : decode cX12_neverNow 35 = .ok (.istore_n 1, 1) := by decide +kernel
theorem dX12_neverNow_36 : decode cX12_neverNow 36 = .ok (.iinc 2 1, 3) := by decide +kernel
theorem dX12_neverNow_39 : decode cX12_neverNow 39 = .ok (.goto (-31), 3) := by decide +kernel
theorem dX12_neverNow_42 : decode cX12_neverNow 42 = .ok (.iload_n 1, 1) := by decide +kernel
theorem dX12_neverNow_43 : decode cX12_neverNow 43 = .ok (.ireturn, 1) := by decide +kernel
theorem dX12_never_0 : decode cX12_never 0 = .ok (.aload_n 0, 1) := by decide +kernel
theorem dX12_never_1 : decode cX12_never 1 = .ok (.invokevirtual 243, 3) := by decide +kernel
theorem dX12_never_4 : decode cX12_never 4 = .ok (.ireturn, 1) := by decide +kernel
theorem dX12_fromBy_0 : decode cX12_fromBy 0 = .ok (.aload_n 0, 1) := by decide +kernel
theorem dX12_fromBy_1 : decode cX12_fromBy 1 = .ok (.invokevirtual 190, 3) := by decide +kernel
theorem dX12_fromBy_4 : decode cX12_fromBy 4 = .ok (.aload_n 0, 1) := by decide +kernel
theorem dX12_fromBy_5 : decode cX12_fromBy 5 = .ok (.getfield 19, 3) := by decide +kernel
theorem dX12_fromBy_8 : decode cX12_fromBy 8 = .ok (.iload_n 1, 1) := by decide +kernel
theorem dX12_fromBy_9 : decode cX12_fromBy 9 = .ok (.iaload, 1) := by decide +kernel
theorem dX12_fromBy_10 : decode cX12_fromBy 10 = .ok (.istore_n 2, 1) := by decide +kernel
theorem dX12_fromBy_11 : decode cX12_fromBy 11 = .ok (.iconst 0, 1) := by decide +kernel
theorem dX12_fromBy_12 : decode cX12_fromBy 12 = .ok (.istore_n 3, 1) := by decide +kernel
theorem dX12_fromBy_13 : decode cX12_fromBy 13 = .ok (.iconst 0, 1) := by decide +kernel
theorem dX12_fromBy_14 : decode cX12_fromBy 14 = .ok (.istore 4, 2) := by decide +kernel
theorem dX12_fromBy_16 : decode cX12_fromBy 16 = .ok (.iload 4, 2) := by decide +kernel
theorem dX12_fromBy_18 : decode cX12_fromBy 18 = .ok (.bipush 20, 2) := by decide +kernel
theorem dX12_fromBy_20 : decode cX12_fromBy 20 = .ok (.if_icmp .ge 77, 3) := by decide +kernel
theorem dX12_fromBy_23 : decode cX12_fromBy 23 = .ok (.aload_n 0, 1) := by decide +kernel
theorem dX12_fromBy_24 : decode cX12_fromBy 24 = .ok (.getfield 19, 3) := by decide +kernel
theorem dX12_fromBy_27 : decode cX12_fromBy 27 = .ok (.iload_n 1, 1) := by decide +kernel
theorem dX12_fromBy_28 : decode cX12_fromBy 28 = .ok (.iload 4, 2) := by decide +kernel
theorem dX12_fromBy_30 : decode cX12_fromBy 30 = .ok (.iastore, 1) := by decide +kernel
theorem dX12_fromBy_31 : decode cX12_fromBy 31 = .ok (.iload_n 3, 1) := by decide +kernel
theorem dX12_fromBy_32 : decode cX12_fromBy 32 = .ok (.aload_n 0, 1) := by decide +kernel
theorem dX12_fromBy_33 : decode cX12_fromBy 33 = .ok (.iconst 0, 1) := by decide +kernel
theorem dX12_fromBy_34 : decode cX12_fromBy 34 = .ok (.invokevirtual 240, 3) := by decide +kernel
theorem dX12_fromBy_37 : decode cX12_fromBy 37 = .ok (.ifCond .eq 10, 3) := by decide +kernel
theorem dX12_fromBy_40 : decode cX12_fromBy 40 = .ok (.iconst 1, 1) := by decide +kernel
theorem dX12_fromBy_41 : decode cX12_fromBy 41 = .ok (.iload 4, 2) := by decide +kernel
theorem dX12_fromBy_43 : decode cX12_fromBy 43 = .ok (.ishl, 1) := by decide +kernel
theorem dX12_fromBy_44 : decode cX12_fromBy 44 = .ok (.goto 4, 3) := by decide +kernel
theorem dX12_fromBy_47 : decode cX12_fromBy 47 = .ok (.iconst 0, 1) := by decide +kernel
theorem dX12_fromBy_48 : decode cX12_fromBy 48 = .ok (.ior, 1) := by decide +kernel
theorem dX12_fromBy_49 : decode cX12_fromBy 49 = .ok (.istore_n 3, 1) := by decide +kernel
theorem dX12_fromBy_50 : decode cX12_fromBy 50 = .ok (.aload_n 0, 1) := by decide +kernel
theorem dX12_fromBy_51 : decode cX12_fromBy 51 = .ok (.iload_n 1, 1) := by decide +kernel
theorem dX12_fromBy_52 : decode cX12_fromBy 52 = .ok (.invokevirtual 193, 3) := by decide +kernel
theorem dX12_fromBy_55 : decode cX12_fromBy 55 = .ok (.iconst 0, 1) := by decide +kernel
theorem dX12_fromBy_56 : decode cX12_fromBy 56 = .ok (.istore 5, 2) := by decide +kernel
theorem dX12_fromBy_58 : decode cX12_fromBy 58 = .ok (.iload 5, 2) := by decide +kernel
theorem dX12_fromBy_60 : decode cX12_fromBy 60 = .ok (.bipush 30, 2) := by decide +kernel
theorem dX12_fromBy_62 : decode cX12_fromBy 62 = .ok (.if_icmp .ge 29, 3) := by decide +kernel
theorem dX12_fromBy_65 : decode cX12_fromBy 65 = .ok (.aload_n 0, 1) := by decide +kernel
theorem dX12_fromBy_66 : decode cX12_fromBy 66 = .ok (.getfield 76, 3) := by decide +kernel
theorem dX12_fromBy_69 : decode cX12_fromBy 69 = .ok (.bipush 30, 2) := by decide +kernel
theorem dX12_fromBy_71 : decode cX12_fromBy 71 = .ok (.iload 4, 2) := by decide +kernel
theorem dX12_fromBy_73 : decode cX12_fromBy 73 = .ok (.imul, 1) := by decide +kernel
theorem dX12_fromBy_74 : decode cX12_fromBy 74 = .ok (.iload 5, 2) := by decide +kernel
theorem dX12_fromBy_76 : decode cX12_fromBy 76 = .ok (.iadd, 1) := by decide +kernel
theorem dX12_fromBy_77 : decode cX12_fromBy 77 = .ok (.aload_n 0, 1) := by decide +kernel
theorem dX12_fromBy_78 : decode cX12_fromBy 78 = .ok (.getfield 49, 3) := by decide +kernel
theorem dX12_fromBy_81 : decode cX12_fromBy 81 = .ok (.iload 5, 2) := by decide +kernel
theorem dX12_fromBy_83 : decode cX12_fromBy 83 = .ok (.iaload, 1) := by decide +kernel
theorem dX12_fromBy_84 : decode cX12_fromBy 84 = .ok (.iastore, 1) := by decide +kernel
theorem dX12_fromBy_85 : decode cX12_fromBy 85 = .ok (.iinc 5 1, 3) := by decide +kernel
theorem dX12_fromBy_88 : decode cX12_fromBy 88 = .ok (.goto (-30), 3) := by decide +kernel
theorem dX12_fromBy_91 : decode cX12_fromBy 91 = .ok (.iinc 4 1, 3) := by decide +kernel
theorem dX12_fromBy_94 : decode cX12_fromBy 94 = .ok (.goto (-78), 3) := by decide +kernel
theorem dX12_fromBy_97 : decode cX12_fromBy 97 = .ok (.aload_n 0, 1) := by decide +kernel
theorem dX12_fromBy_98 : decode cX12_fromBy 98 = .ok (.getfield 19, 3) := by decide +kernel
theorem dX12_fromBy_101 : decode cX12_fromBy 101 = .ok (.iload_n 1, 1) := by decide +kernel
theorem dX12_fromBy_102 : decode cX12_fromBy 102 = .ok (.iload_n 2, 1) := by decide +kernel
theorem dX12_fromBy_103 : decode cX12_fromBy 103 = .ok (.iastore, 1) := by decide +kernel
theorem dX12_fromBy_104 : decode cX12_fromBy 104 = .ok (.iload_n 3, 1) := by decide +kernel
theorem dX12_fromBy_105 : decode cX12_fromBy 105 = .ok (.ireturn, 1) := by decide +kernel
theorem dX12_sortBy_0 : decode cX12_sortBy 0 = .ok (.aload_n 0, 1) := by decide +kernel
theorem dX12_sortBy_1 : decode cX12_sortBy 1 = .ok (.invokevirtual 190, 3) := by decide +kernel
theorem dX12_sortBy_4 : decode cX12_sortBy 4 = .ok (.aload_n 0, 1) := by decide +kernel
theorem dX12_sortBy_5 : decode cX12_sortBy 5 = .ok (.getfield 16, 3) := by decide +kernel
theorem dX12_sortBy_8 : decode cX12_sortBy 8 = .ok (.iload_n 1, 1) := by decide +kernel
theorem dX12_sortBy_9 : decode cX12_sortBy 9 = .ok (.iaload, 1) := by decide +kernel
theorem dX12_sortBy_10 : decode cX12_sortBy 10 = .ok (.istore_n 2, 1) := by decide +kernel
theorem dX12_sortBy_11 : decode cX12_sortBy 11 = .ok (.iconst 0, 1) := by decide +kernel
theorem dX12_sortBy_12 : decode cX12_sortBy 12 = .ok (.istore_n 3, 1) := by decide +kernel
theorem dX12_sortBy_13 : decode cX12_sortBy 13 = .ok (.iconst 0, 1) := by decide +kernel
theorem dX12_sortBy_14 : decode cX12_sortBy 14 = .ok (.istore 4, 2) := by decide +kernel
theorem dX12_sortBy_16 : decode cX12_sortBy 16 = .ok (.iload 4, 2) := by decide +kernel
theorem dX12_sortBy_18 : decode cX12_sortBy 18 = .ok (.iconst 3, 1) := by decide +kernel
theorem dX12_sortBy_19 : decode cX12_sortBy 19 = .ok (.if_icmp .ge 36, 3) := by decide +kernel
theorem dX12_sortBy_22 : decode cX12_sortBy 22 = .ok (.aload_n 0, 1) := by decide +kernel
theorem dX12_sortBy_23 : decode cX12_sortBy 23 = .ok (.getfield 16, 3) := by decide +kernel
theorem dX12_sortBy_26 : decode cX12_sortBy 26 = .ok (.iload_n 1, 1) := by decide +kernel
theorem dX12_sortBy_27 : decode cX12_sortBy 27 = .ok (.iload 4, 2) := by decide +kernel
theorem dX12_sortBy_29 : decode cX12_sortBy 29 = .ok (.iastore, 1) := by decide +kernel
theorem dX12_sortBy_30 : decode cX12_sortBy 30 = .ok (.iload_n 3, 1) := by decide +kernel
theorem dX12_sortBy_31 : decode cX12_sortBy 31 = .ok (.aload_n 0, 1) := by decide +kernel
theorem dX12_sortBy_32 : decode cX12_sortBy 32 = .ok (.iconst 0, 1) := by decide +kernel
theorem dX12_sortBy_33 : decode cX12_sortBy 33 = .ok (.invokevirtual 240, 3) := by decide +kernel
theorem dX12_sortBy_36 : decode cX12_sortBy 36 = .ok (.ifCond .eq 10, 3) := by decide +kernel
theorem dX12_sortBy_39 : decode cX12_sortBy 39 = .ok (.iconst 1, 1) := by decide +kernel
theorem dX12_sortBy_40 : decode cX12_sortBy 40 = .ok (.iload 4, 2) := by decide +kernel
theorem dX12_sortBy_42 : decode cX12_sortBy 42 = .ok (.ishl, 1) := by decide +kernel
theorem dX12_sortBy_43 : decode cX12_sortBy 43 = .ok (.goto 4, 3) := by decide +kernel
theorem dX12_sortBy_46 : decode cX12_sortBy 46 = .ok (.iconst 0, 1) := by decide +kernel
theorem dX12_sortBy_47 : decode cX12_sortBy 47 = .ok (.ior, 1) := by decide +kernel
theorem dX12_sortBy_48 : decode cX12_sortBy 48 = .ok (.istore_n 3, 1) := by decide +kernel
theorem dX12_sortBy_49 : decode cX12_sortBy 49 = .ok (.iinc 4 1, 3) := by decide +kernel
theorem dX12_sortBy_52 : decode cX12_sortBy 52 = .ok (.goto (-36), 3) := by decide +kernel
theorem dX12_sortBy_55 : decode cX12_sortBy 55 = .ok (.aload_n 0, 1) := by decide +kernel
theorem dX12_sortBy_56 : decode cX12_sortBy 56 = .ok (.getfield 16, 3) := by decide +kernel
theorem dX12_sortBy_59 : decode cX12_sortBy 59 = .ok (.iload_n 1, 1) := by decide +kernel
theorem dX12_sortBy_60 : decode cX12_sortBy 60 = .ok (.iload_n 2, 1) := by decide +kernel
theorem dX12_sortBy_61 : decode cX12_sortBy 61 = .ok (.iastore, 1) := by decide +kernel
theorem dX12_sortBy_62 : decode cX12_sortBy 62 = .ok (.iload_n 3, 1) := by decide +kernel
theorem dX12_sortBy_63 : decode cX12_sortBy 63 = .ok (.ireturn, 1) := by decide +kernel
theorem dX12_was_0 : decode cX12_was 0 = .ok (.aload_n 0, 1) := by decide +kernel
theorem dX12_was_1 : decode cX12_was 1 = .ok (.iload_n 1, 1) := by decide +kernel
theorem dX12_was_2 : decode cX12_was 2 = .ok (.invokevirtual 142, 3) := by decide +kernel
theorem dX12_was_5 : decode cX12_was 5 = .ok (.ifCond .eq 32, 3) := by decide +kernel
theorem dX12_was_8 : decode cX12_was 8 = .ok (.iload_n 2, 1) := by decide +kernel
theorem dX12_was_9 : decode cX12_was 9 = .ok (.iconst 0, 1) := by decide +kernel
theorem dX12_was_10 : decode cX12_was 10 = .ok (.iconst 1, 1) := by decide +kernel
theorem dX12_was_11 : decode cX12_was 11 = .ok (.invokestatic 104, 3) := by decide +kernel
theorem dX12_was_14 : decode cX12_was 14 = .ok (.ifCond .eq 23, 3) := by decide +kernel
theorem dX12_was_17 : decode cX12_was 17 = .ok (.iload_n 2, 1) := by decide +kernel
theorem dX12_was_18 : decode cX12_was 18 = .ok (.ifCond .ne 11, 3) := by decide +kernel
theorem dX12_was_21 : decode cX12_was 21 = .ok (.aload_n 0, 1) := by decide +kernel
theorem dX12_was_22 : decode cX12_was 22 = .ok (.iload_n 1, 1) := by decide +kernel
theorem dX12_was_23 : decode cX12_was 23 = .ok (.invokevirtual 246, 3) := by decide +kernel
theorem dX12_was_26 : decode cX12_was 26 = .ok (.goto 13, 3) := by decide +kernel
theorem dX12_was_29 : decode cX12_was 29 = .ok (.aload_n 0, 1) := by decide +kernel
theorem dX12_was_30 : decode cX12_was 30 = .ok (.iload_n 1, 1) := by decide +kernel
theorem dX12_was_31 : decode cX12_was 31 = .ok (.invokevirtual 249, 3) := by decide +kernel
theorem dX12_was_34 : decode cX12_was 34 = .ok (.goto 5, 3) := by decide +kernel
theorem dX12_was_37 : decode cX12_was 37 = .ok (.bipush (-2), 2) := by decide +kernel
theorem dX12_was_39 : decode cX12_was 39 = .ok (.ireturn, 1) := by decide +kernel
theorem dX12_askOf_0 : decode cX12_askOf 0 = .ok (.aload_n 0, 1) := by decide +kernel
theorem dX12_askOf_1 : decode cX12_askOf 1 = .ok (.iload_n 1, 1) := by decide +kernel
theorem dX12_askOf_2 : decode cX12_askOf 2 = .ok (.invokevirtual 246, 3) := by decide +kernel
theorem dX12_askOf_5 : decode cX12_askOf 5 = .ok (.istore_n 2, 1) := by decide +kernel
theorem dX12_askOf_6 : decode cX12_askOf 6 = .ok (.iconst (-1), 1) := by decide +kernel
theorem dX12_askOf_7 : decode cX12_askOf 7 = .ok (.istore_n 3, 1) := by decide +kernel
theorem dX12_askOf_8 : decode cX12_askOf 8 = .ok (.iconst 0, 1) := by decide +kernel
theorem dX12_askOf_9 : decode cX12_askOf 9 = .ok (.istore 4, 2) := by decide +kernel
theorem dX12_askOf_11 : decode cX12_askOf 11 = .ok (.iconst 0, 1) := by decide +kernel
theorem dX12_askOf_12 : decode cX12_askOf 12 = .ok (.istore 5, 2) := by decide +kernel
theorem dX12_askOf_14 : decode cX12_askOf 14 = .ok (.iload 5, 2) := by decide +kernel
theorem dX12_askOf_16 : decode cX12_askOf 16 = .ok (.bipush 30, 2) := by decide +kernel
theorem dX12_askOf_18 : decode cX12_askOf 18 = .ok (.if_icmp .ge 165, 3) := by decide +kernel
theorem dX12_askOf_21 : decode cX12_askOf 21 = .ok (.iconst 0, 1) := by decide +kernel
theorem dX12_askOf_22 : decode cX12_askOf 22 = .ok (.istore 6, 2) := by decide +kernel
theorem dX12_askOf_24 : decode cX12_askOf 24 = .ok (.iconst 0, 1) := by decide +kernel
theorem dX12_askOf_25 : decode cX12_askOf 25 = .ok (.istore 7, 2) := by decide +kernel
theorem dX12_askOf_27 : decode cX12_askOf 27 = .ok (.iload 7, 2) := by decide +kernel
theorem dX12_askOf_29 : decode cX12_askOf 29 = .ok (.bipush 20, 2) := by decide +kernel
theorem dX12_askOf_31 : decode cX12_askOf 31 = .ok (.if_icmp .ge 101, 3) := by decide +kernel
theorem dX12_askOf_34 : decode cX12_askOf 34 = .ok (.iconst 0, 1) := by decide +kernel
theorem dX12_askOf_35 : decode cX12_askOf 35 = .ok (.istore 8, 2) := by decide +kernel
theorem dX12_askOf_37 : decode cX12_askOf 37 = .ok (.iconst 0, 1) := by decide +kernel
theorem dX12_askOf_38 : decode cX12_askOf 38 = .ok (.istore 9, 2) := by decide +kernel
theorem dX12_askOf_40 : decode cX12_askOf 40 = .ok (.iload 9, 2) := by decide +kernel
theorem dX12_askOf_42 : decode cX12_askOf 42 = .ok (.bipush 20, 2) := by decide +kernel
theorem dX12_askOf_44 : decode cX12_askOf 44 = .ok (.if_icmp .ge 66, 3) := by decide +kernel
theorem dX12_askOf_47 : decode cX12_askOf 47 = .ok (.iload 8, 2) := by decide +kernel
theorem dX12_askOf_49 : decode cX12_askOf 49 = .ok (.iload_n 2, 1) := by decide +kernel
theorem dX12_askOf_50 : decode cX12_askOf 50 = .ok (.iload 7, 2) := by decide +kernel
theorem dX12_askOf_52 : decode cX12_askOf 52 = .ok (.invokestatic 175, 3) := by decide +kernel
theorem dX12_askOf_55 : decode cX12_askOf 55 = .ok (.ifCond .eq 45, 3) := by decide +kernel
theorem dX12_askOf_58 : decode cX12_askOf 58 = .ok (.iload_n 2, 1) := by decide +kernel
theorem dX12_askOf_59 : decode cX12_askOf 59 = .ok (.iload 9, 2) := by decide +kernel
theorem dX12_askOf_61 : decode cX12_askOf 61 = .ok (.invokestatic 175, 3) := by decide +kernel
theorem dX12_askOf_64 : decode cX12_askOf 64 = .ok (.ifCond .eq 36, 3) := by decide +kernel
theorem dX12_askOf_67 : decode cX12_askOf 67 = .ok (.aload_n 0, 1) := by decide +kernel
theorem dX12_askOf_68 : decode cX12_askOf 68 = .ok (.getfield 76, 3) := by decide +kernel
theorem dX12_askOf_71 : decode cX12_askOf 71 = .ok (.bipush 30, 2) := by decide +kernel
theorem dX12_askOf_73 : decode cX12_askOf 73 = .ok (.iload 7, 2) := by decide +kernel
theorem dX12_askOf_75 : decode cX12_askOf 75 = .ok (.imul, 1) := by decide +kernel
theorem dX12_askOf_76 : decode cX12_askOf 76 = .ok (.iload 5, 2) := by decide +kernel
theorem dX12_askOf_78 : decode cX12_askOf 78 = .ok (.iadd, 1) := by decide +kernel
theorem dX12_askOf_79 : decode cX12_askOf 79 = .ok (.iaload, 1) := by decide +kernel
theorem dX12_askOf_80 : decode cX12_askOf 80 = .ok (.aload_n 0, 1) := by decide +kernel
theorem dX12_askOf_81 : decode cX12_askOf 81 = .ok (.getfield 76, 3) := by decide +kernel
theorem dX12_askOf_84 : decode cX12_askOf 84 = .ok (.bipush 30, 2) := by decide +kernel
theorem dX12_askOf_86 : decode cX12_askOf 86 = .ok (.iload 9, 2) := by decide +kernel
theorem dX12_askOf_88 : decode cX12_askOf 88 = .ok (.imul, 1) := by decide +kernel
theorem dX12_askOf_89 : decode cX12_askOf 89 = .ok (.iload 5, 2) := by decide +kernel
theorem dX12_askOf_91 : decode cX12_askOf 91 = .ok (.iadd, 1) := by decide +kernel
theorem dX12_askOf_92 : decode cX12_askOf 92 = .ok (.iaload, 1) := by decide +kernel
theorem dX12_askOf_93 : decode cX12_askOf 93 = .ok (.if_icmp .ne 7, 3) := by decide +kernel
theorem dX12_askOf_96 : decode cX12_askOf 96 = .ok (.iconst 1, 1) := by decide +kernel
theorem dX12_askOf_97 : decode cX12_askOf 97 = .ok (.goto 4, 3) := by decide +kernel
theorem dX12_askOf_100 : decode cX12_askOf 100 = .ok (.iconst 0, 1) := by decide +kernel
theorem dX12_askOf_101 : decode cX12_askOf 101 = .ok (.iadd, 1) := by decide +kernel
theorem dX12_askOf_102 : decode cX12_askOf 102 = .ok (.istore 8, 2) := by decide +kernel
theorem dX12_askOf_104 : decode cX12_askOf 104 = .ok (.iinc 9 1, 3) := by decide +kernel
theorem dX12_askOf_107 : decode cX12_askOf 107 = .ok (.goto (-67), 3) := by decide +kernel
theorem dX12_askOf_110 : decode cX12_askOf 110 = .ok (.iload 8, 2) := by decide +kernel
theorem dX12_askOf_112 : decode cX12_askOf 112 = .ok (.iload 6, 2) := by decide +kernel
theorem dX12_askOf_114 : decode cX12_askOf 114 = .ok (.if_icmp .le 8, 3) := by decide +kernel
theorem dX12_askOf_117 : decode cX12_askOf 117 = .ok (.iload 8, 2) := by decide +kernel
theorem dX12_askOf_119 : decode cX12_askOf 119 = .ok (.goto 5, 3) := by decide +kernel
theorem dX12_askOf_122 : decode cX12_askOf 122 = .ok (.iload 6, 2) := by decide +kernel
theorem dX12_askOf_124 : decode cX12_askOf 124 = .ok (.istore 6, 2) := by decide +kernel
theorem dX12_askOf_126 : decode cX12_askOf 126 = .ok (.iinc 7 1, 3) := by decide +kernel
theorem dX12_askOf_129 : decode cX12_askOf 129 = .ok (.goto (-102), 3) := by decide +kernel
theorem dX12_askOf_132 : decode cX12_askOf 132 = .ok (.iload_n 3, 1) := by decide +kernel
theorem dX12_askOf_133 : decode cX12_askOf 133 = .ok (.iconst (-1), 1) := by decide +kernel
theorem dX12_askOf_134 : decode cX12_askOf 134 = .ok (.if_icmp .eq 10, 3) := by decide +kernel
theorem dX12_askOf_137 : decode cX12_askOf 137 = .ok (.iload 6, 2) := by decide +kernel
theorem dX12_askOf_139 : decode cX12_askOf 139 = .ok (.iload 4, 2) := by decide +kernel
theorem dX12_askOf_141 : decode cX12_askOf 141 = .ok (.if_icmp .ge 7, 3) := by decide +kernel
theorem dX12_askOf_144 : decode cX12_askOf 144 = .ok (.iconst 1, 1) := by decide +kernel
theorem dX12_askOf_145 : decode cX12_askOf 145 = .ok (.goto 4, 3) := by decide +kernel
theorem dX12_askOf_148 : decode cX12_askOf 148 = .ok (.iconst 0, 1) := by decide +kernel
theorem dX12_askOf_149 : decode cX12_askOf 149 = .ok (.istore 7, 2) := by decide +kernel
theorem dX12_askOf_151 : decode cX12_askOf 151 = .ok (.iload 7, 2) := by decide +kernel
theorem dX12_askOf_153 : decode cX12_askOf 153 = .ok (.ifCond .eq 8, 3) := by decide +kernel
theorem dX12_askOf_156 : decode cX12_askOf 156 = .ok (.iload 5, 2) := by decide +kernel
theorem dX12_askOf_158 : decode cX12_askOf 158 = .ok (.goto 4, 3) := by decide +kernel
theorem dX12_askOf_161 : decode cX12_askOf 161 = .ok (.iload_n 3, 1) := by decide +kernel
theorem dX12_askOf_162 : decode cX12_askOf 162 = .ok (.istore_n 3, 1) := by decide +kernel
theorem dX12_askOf_163 : decode cX12_askOf 163 = .ok (.iload 7, 2) := by decide +kernel
theorem dX12_askOf_165 : decode cX12_askOf 165 = .ok (.ifCond .eq 8, 3) := by decide +kernel
theorem dX12_askOf_168 : decode cX12_askOf 168 = .ok (.iload 6, 2) := by decide +kernel
theorem dX12_askOf_170 : decode cX12_askOf 170 = .ok (.goto 5, 3) := by decide +kernel
theorem dX12_askOf_173 : decode cX12_askOf 173 = .ok (.iload 4, 2) := by decide +kernel
theorem dX12_askOf_175 : decode cX12_askOf 175 = .ok (.istore 4, 2) := by decide +kernel
theorem dX12_askOf_177 : decode cX12_askOf 177 = .ok (.iinc 5 1, 3) := by decide +kernel
theorem dX12_askOf_180 : decode cX12_askOf 180 = .ok (.goto (-166), 3) := by decide +kernel
theorem dX12_askOf_183 : decode cX12_askOf 183 = .ok (.iload_n 3, 1) := by decide +kernel
theorem dX12_askOf_184 : decode cX12_askOf 184 = .ok (.ireturn, 1) := by decide +kernel
theorem dX12_ask_0 : decode cX12_ask 0 = .ok (.aload_n 0, 1) := by decide +kernel
theorem dX12_ask_1 : decode cX12_ask 1 = .ok (.iload_n 1, 1) := by decide +kernel
theorem dX12_ask_2 : decode cX12_ask 2 = .ok (.invokevirtual 142, 3) := by decide +kernel
theorem dX12_ask_5 : decode cX12_ask 5 = .ok (.ifCond .eq 11, 3) := by decide +kernel
theorem dX12_ask_8 : decode cX12_ask 8 = .ok (.aload_n 0, 1) := by decide +kernel
theorem dX12_ask_9 : decode cX12_ask 9 = .ok (.iload_n 1, 1) := by decide +kernel
theorem dX12_ask_10 : decode cX12_ask 10 = .ok (.invokevirtual 252, 3) := by decide +kernel
theorem dX12_ask_13 : decode cX12_ask 13 = .ok (.goto 5, 3) := by decide +kernel
theorem dX12_ask_16 : decode cX12_ask 16 = .ok (.bipush (-2), 2) := by decide +kernel
theorem dX12_ask_18 : decode cX12_ask 18 = .ok (.ireturn, 1) := by decide +kernel
theorem dX12_frostOf_0 : decode cX12_frostOf 0 = .ok (.aload_n 0, 1) := by decide +kernel
theorem dX12_frostOf_1 : decode cX12_frostOf 1 = .ok (.invokevirtual 190, 3) := by decide +kernel
theorem dX12_frostOf_4 : decode cX12_frostOf 4 = .ok (.lconst 0, 1) := by decide +kernel
theorem dX12_frostOf_5 : decode cX12_frostOf 5 = .ok (.lstore 6, 2) := by decide +kernel
theorem dX12_frostOf_7 : decode cX12_frostOf 7 = .ok (.iconst 0, 1) := by decide +kernel
theorem dX12_frostOf_8 : decode cX12_frostOf 8 = .ok (.istore 8, 2) := by decide +kernel
theorem dX12_frostOf_10 : decode cX12_frostOf 10 = .ok (.iload 8, 2) := by decide +kernel
theorem dX12_frostOf_12 : decode cX12_frostOf 12 = .ok (.iconst 1, 1) := by decide +kernel
theorem dX12_frostOf_13 : decode cX12_frostOf 13 = .ok (.iload_n 2, 1) := by decide +kernel
theorem dX12_frostOf_14 : decode cX12_frostOf 14 = .ok (.iconst 1, 1) := by decide +kernel
theorem dX12_frostOf_15 : decode cX12_frostOf 15 = .ok (.iadd, 1) := by decide +kernel
theorem dX12_frostOf_16 : decode cX12_frostOf 16 = .ok (.ishl, 1) := by decide +kernel
theorem dX12_frostOf_17 : decode cX12_frostOf 17 = .ok (.if_icmp .ge 114, 3) := by decide +kernel
theorem dX12_frostOf_20 : decode cX12_frostOf 20 = .ok (.lconst 1, 1) := by decide +kernel
theorem dX12_frostOf_21 : decode cX12_frostOf 21 = .ok (.lstore 9, 2) := by decide +kernel
theorem dX12_frostOf_23 : decode cX12_frostOf 23 = .ok (.iconst 0, 1) := by decide +kernel
theorem dX12_frostOf_24 : decode cX12_frostOf 24 = .ok (.istore 11, 2) := by decide +kernel
theorem dX12_frostOf_26 : decode cX12_frostOf 26 = .ok (.iload 11, 2) := by decide +kernel
theorem dX12_frostOf_28 : decode cX12_frostOf 28 = .ok (.iload_n 2, 1) := by decide +kernel
theorem dX12_frostOf_29 : decode cX12_frostOf 29 = .ok (.if_icmp .gt 62, 3) := by decide +kernel
theorem dX12_frostOf_32 : decode cX12_frostOf 32 = .ok (.lload 9, 2) := by decide +kernel
theorem dX12_frostOf_34 : decode cX12_frostOf 34 = .ok (.iload 8, 2) := by decide +kernel
theorem dX12_frostOf_36 : decode cX12_frostOf 36 = .ok (.iload 11, 2) := by decide +kernel
theorem dX12_frostOf_38 : decode cX12_frostOf 38 = .ok (.invokestatic 175, 3) := by decide +kernel
theorem dX12_frostOf_41 : decode cX12_frostOf 41 = .ok (.ifCond .eq 8, 3) := by decide +kernel
theorem dX12_frostOf_44 : decode cX12_frostOf 44 = .ok (.iload_n 1, 1) := by decide +kernel
theorem dX12_frostOf_45 : decode cX12_frostOf 45 = .ok (.i2l, 1) := by decide +kernel
theorem dX12_frostOf_46 : decode cX12_frostOf 46 = .ok (.goto 8, 3) := by decide +kernel
theorem dX12_frostOf_49 : decode cX12_frostOf 49 = .ok (.bipush 16, 2) := by decide +kernel
theorem dX12_frostOf_51 : decode cX12_frostOf 51 = .ok (.iload_n 1, 1) := by decide +kernel
theorem dX12_frostOf_52 : decode cX12_frostOf 52 = .ok (.isub, 1) := by decide +kernel
theorem dX12_frostOf_53 : decode cX12_frostOf 53 = .ok (.i2l, 1) := by decide +kernel
theorem dX12_frostOf_54 : decode cX12_frostOf 54 = .ok (.lmul, 1) := by decide +kernel
theorem dX12_frostOf_55 : decode cX12_frostOf 55 = .ok (.lstore 9, 2) := by decide +kernel
theorem dX12_frostOf_57 : decode cX12_frostOf 57 = .ok (.aload_n 0, 1) := by decide +kernel
theorem dX12_frostOf_58 : decode cX12_frostOf 58 = .ok (.getfield 43, 3) := by decide +kernel
theorem dX12_frostOf_61 : decode cX12_frostOf 61 = .ok (.iload 11, 2) := by decide +kernel
theorem dX12_frostOf_63 : decode cX12_frostOf 63 = .ok (.iload 8, 2) := by decide +kernel
theorem dX12_frostOf_65 : decode cX12_frostOf 65 = .ok (.iload 11, 2) := by decide +kernel
theorem dX12_frostOf_67 : decode cX12_frostOf 67 = .ok (.invokestatic 175, 3) := by decide +kernel
theorem dX12_frostOf_70 : decode cX12_frostOf 70 = .ok (.ifCond .eq 7, 3) := by decide +kernel
theorem dX12_frostOf_73 : decode cX12_frostOf 73 = .ok (.iconst 0, 1) := by decide +kernel
theorem dX12_frostOf_74 : decode cX12_frostOf 74 = .ok (.goto 10, 3) := by decide +kernel
theorem dX12_frostOf_77 : decode cX12_frostOf 77 = .ok (.aload_n 0, 1) := by decide +kernel
theorem dX12_frostOf_78 : decode cX12_frostOf 78 = .ok (.getfield 28, 3) := by decide +kernel
theorem dX12_frostOf_81 : decode cX12_frostOf 81 = .ok (.iload 11, 2) := by decide +kernel
theorem dX12_frostOf_83 : decode cX12_frostOf 83 = .ok (.iaload, 1) := by decide +kernel
theorem dX12_frostOf_84 : decode cX12_frostOf 84 = .ok (.iastore, 1) := by decide +kernel
theorem dX12_frostOf_85 : decode cX12_frostOf 85 = .ok (.iinc 11 1, 3) := by decide +kernel
theorem dX12_frostOf_88 : decode cX12_frostOf 88 = .ok (.goto (-62), 3) := by decide +kernel
theorem dX12_frostOf_91 : decode cX12_frostOf 91 = .ok (.lload 9, 2) := by decide +kernel
theorem dX12_frostOf_93 : decode cX12_frostOf 93 = .ok (.lconst 0, 1) := by decide +kernel
theorem dX12_frostOf_94 : decode cX12_frostOf 94 = .ok (.lcmp, 1) := by decide +kernel
theorem dX12_frostOf_95 : decode cX12_frostOf 95 = .ok (.ifCond .le 30, 3) := by decide +kernel
theorem dX12_frostOf_98 : decode cX12_frostOf 98 = .ok (.aload_n 0, 1) := by decide +kernel
theorem dX12_frostOf_99 : decode cX12_frostOf 99 = .ok (.iload_n 3, 1) := by decide +kernel
theorem dX12_frostOf_100 : decode cX12_frostOf 100 = .ok (.invokevirtual 193, 3) := by decide +kernel
theorem dX12_frostOf_103 : decode cX12_frostOf 103 = .ok (.lload 6, 2) := by decide +kernel
theorem dX12_frostOf_105 : decode cX12_frostOf 105 = .ok (.aload_n 0, 1) := by decide +kernel
theorem dX12_frostOf_106 : decode cX12_frostOf 106 = .ok (.getfield 49, 3) := by decide +kernel
theorem dX12_frostOf_109 : decode cX12_frostOf 109 = .ok (.iload 4, 2) := by decide +kernel
theorem dX12_frostOf_111 : decode cX12_frostOf 111 = .ok (.iaload, 1) := by decide +kernel
theorem dX12_frostOf_112 : decode cX12_frostOf 112 = .ok (.iconst (-1), 1) := by decide +kernel
theorem dX12_frostOf_113 : decode cX12_frostOf 113 = .ok (.if_icmp .eq 8, 3) := by decide +kernel
theorem dX12_frostOf_116 : decode cX12_frostOf 116 = .ok (.lload 9, 2) := by decide +kernel
theorem dX12_frostOf_118 : decode cX12_frostOf 118 = .ok (.goto 4, 3) := by decide +kernel
theorem dX12_frostOf_121 : decode cX12_frostOf 121 = .ok (.lconst 0, 1) := by decide +kernel
theorem dX12_frostOf_122 : decode cX12_frostOf 122 = .ok (.ladd, 1) := by decide +kernel
theorem dX12_frostOf_123 : decode cX12_frostOf 123 = .ok (.lstore 6, 2) := by decide +kernel
theorem dX12_frostOf_125 : decode cX12_frostOf 125 = .ok (.iinc 8 1, 3) := by decide +kernel
theorem dX12_frostOf_128 : decode cX12_frostOf 128 = .ok (.goto (-118), 3) := by decide +kernel
theorem dX12_frostOf_131 : decode cX12_frostOf 131 = .ok (.lload 6, 2) := by decide +kernel
theorem dX12_frostOf_133 : decode cX12_frostOf 133 = .ok (.lconst 1, 1) := by decide +kernel
theorem dX12_frostOf_134 : decode cX12_frostOf 134 = .ok (.iconst 4, 1) := by decide +kernel
theorem dX12_frostOf_135 : decode cX12_frostOf 135 = .ok (.iload_n 2, 1) := by decide +kernel
theorem dX12_frostOf_136 : decode cX12_frostOf 136 = .ok (.iconst 1, 1) := by decide +kernel
theorem dX12_frostOf_137 : decode cX12_frostOf 137 = .ok (.iadd, 1) := by decide +kernel
theorem dX12_frostOf_138 : decode cX12_frostOf 138 = .ok (.imul, 1) := by decide +kernel
theorem dX12_frostOf_139 : decode cX12_frostOf 139 = .ok (.lshl, 1) := by decide +kernel
theorem dX12_frostOf_140 : decode cX12_frostOf 140 = .ok (.iload 5, 2) := by decide +kernel
theorem dX12_frostOf_142 : decode cX12_frostOf 142 = .ok (.invokestatic 255, 3) := by decide +kernel
theorem dX12_frostOf_145 : decode cX12_frostOf 145 = .ok (.lreturn, 1) := by decide +kernel
theorem dX12_frost_0 : decode cX12_frost 0 = .ok (.iload_n 1, 1) := by decide +kernel
theorem dX12_frost_1 : decode cX12_frost 1 = .ok (.iconst 0, 1) := by decide +kernel
theorem dX12_frost_2 : decode cX12_frost 2 = .ok (.bipush 16, 2) := by decide +kernel
theorem dX12_frost_4 : decode cX12_frost 4 = .ok (.invokestatic 104, 3) := by decide +kernel
theorem dX12_frost_7 : decode cX12_frost 7 = .ok (.ifCond .eq 25, 3) := by decide +kernel
theorem dX12_frost_10 : decode cX12_frost 10 = .ok (.iload_n 2, 1) := by decide +kernel
theorem dX12_frost_11 : decode cX12_frost 11 = .ok (.iconst 0, 1) := by decide +kernel
theorem dX12_frost_12 : decode cX12_frost 12 = .ok (.bipush 9, 2) := by decide +kernel
theorem dX12_frost_14 : decode cX12_frost 14 = .ok (.invokestatic 104, 3) := by decide +kernel
theorem dX12_frost_17 : decode cX12_frost 17 = .ok (.ifCond .eq 15, 3) := by decide +kernel
theorem dX12_frost_20 : decode cX12_frost 20 = .ok (.aload_n 0, 1) := by decide +kernel
theorem dX12_frost_21 : decode cX12_frost 21 = .ok (.iload_n 3, 1) := by decide +kernel
theorem dX12_frost_22 : decode cX12_frost 22 = .ok (.invokevirtual 142, 3) := by decide +kernel
theorem dX12_frost_25 : decode cX12_frost 25 = .ok (.ifCond .eq 7, 3) := by decide +kernel
theorem dX12_frost_28 : decode cX12_frost 28 = .ok (.iconst 1, 1) := by decide +kernel
theorem dX12_frost_29 : decode cX12_frost 29 = .ok (.goto 4, 3) := by decide +kernel
theorem dX12_frost_32 : decode cX12_frost 32 = .ok (.iconst 0, 1) := by decide +kernel
theorem dX12_frost_33 : decode cX12_frost 33 = .ok (.istore 6, 2) := by decide +kernel
theorem dX12_frost_35 : decode cX12_frost 35 = .ok (.iload 6, 2) := by decide +kernel
theorem dX12_frost_37 : decode cX12_frost 37 = .ok (.ifCond .eq 35, 3) := by decide +kernel
theorem dX12_frost_40 : decode cX12_frost 40 = .ok (.iload 4, 2) := by decide +kernel
theorem dX12_frost_42 : decode cX12_frost 42 = .ok (.invokestatic 148, 3) := by decide +kernel
theorem dX12_frost_45 : decode cX12_frost 45 = .ok (.ifCond .eq 27, 3) := by decide +kernel
theorem dX12_frost_48 : decode cX12_frost 48 = .ok (.iload 5, 2) := by decide +kernel
theorem dX12_frost_50 : decode cX12_frost 50 = .ok (.iconst 0, 1) := by decide +kernel
theorem dX12_frost_51 : decode cX12_frost 51 = .ok (.iconst 1, 1) := by decide +kernel
theorem dX12_frost_52 : decode cX12_frost 52 = .ok (.invokestatic 104, 3) := by decide +kernel
theorem dX12_frost_55 : decode cX12_frost 55 = .ok (.ifCond .eq 17, 3) := by decide +kernel
theorem dX12_frost_58 : decode cX12_frost 58 = .ok (.aload_n 0, 1) := by decide +kernel
theorem dX12_frost_59 : decode cX12_frost 59 = .ok (.iload_n 1, 1) := by decide +kernel
theorem dX12_frost_60 : decode cX12_frost 60 = .ok (.iload_n 2, 1) := by decide +kernel
theorem dX12_frost_61 : decode cX12_frost 61 = .ok (.iload_n 3, 1) := by decide +kernel
theorem dX12_frost_62 : decode cX12_frost 62 = .ok (.iload 4, 2) := by decide +kernel
theorem dX12_frost_64 : decode cX12_frost 64 = .ok (.iload 5, 2) := by decide +kernel
theorem dX12_frost_66 : decode cX12_frost 66 = .ok (.invokevirtual 259, 3) := by decide +kernel
theorem dX12_frost_69 : decode cX12_frost 69 = .ok (.goto 8, 3) := by decide +kernel
theorem dX12_frost_72 : decode cX12_frost 72 = .ok (.bipush (-2), 2) := by decide +kernel
theorem dX12_frost_74 : decode cX12_frost 74 = .ok (.invokestatic 263, 3) := by decide +kernel
theorem dX12_frost_77 : decode cX12_frost 77 = .ok (.lreturn, 1) := by decide +kernel
theorem dX12_summerOf_0 : decode cX12_summerOf 0 = .ok (.aload_n 0, 1) := by decide +kernel
theorem dX12_summerOf_1 : decode cX12_summerOf 1 = .ok (.invokevirtual 190, 3) := by decide +kernel
theorem dX12_summerOf_4 : decode cX12_summerOf 4 = .ok (.iload_n 1, 1) := by decide +kernel
theorem dX12_summerOf_5 : decode cX12_summerOf 5 = .ok (.istore 4, 2) := by decide +kernel
theorem dX12_summerOf_7 : decode cX12_summerOf 7 = .ok (.iconst 0, 1) := by decide +kernel
theorem dX12_summerOf_8 : decode cX12_summerOf 8 = .ok (.istore 5, 2) := by decide +kernel
theorem dX12_summerOf_10 : decode cX12_summerOf 10 = .ok (.iload 5, 2) := by decide +kernel
theorem dX12_summerOf_12 : decode cX12_summerOf 12 = .ok (.bipush 30, 2) := by decide +kernel
theorem dX12_summerOf_14 : decode cX12_summerOf 14 = .ok (.if_icmp .ge 65, 3) := by decide +kernel
theorem dX12_summerOf_17 : decode cX12_summerOf 17 = .ok (.iload 5, 2) := by decide +kernel
theorem dX12_summerOf_19 : decode cX12_summerOf 19 = .ok (.iload_n 2, 1) := by decide +kernel
theorem dX12_summerOf_20 : decode cX12_summerOf 20 = .ok (.if_icmp .ge 16, 3) := by decide +kernel
theorem dX12_summerOf_23 : decode cX12_summerOf 23 = .ok (.ldc_w 267, 3) := by decide +kernel
theorem dX12_summerOf_26 : decode cX12_summerOf 26 = .ok (.iload 4, 2) := by decide +kernel
theorem dX12_summerOf_28 : decode cX12_summerOf 28 = .ok (.imul, 1) := by decide +kernel
theorem dX12_summerOf_29 : decode cX12_summerOf 29 = .ok (.sipush 12345, 3) := by decide +kernel
theorem dX12_summerOf_32 : decode cX12_summerOf 32 = .ok (.iadd, 1) := by decide +kernel
theorem dX12_summerOf_33 : decode cX12_summerOf 33 = .ok (.goto 5, 3) := by decide +kernel
theorem dX12_summerOf_36 : decode cX12_summerOf 36 = .ok (.iload 4, 2) := by decide +kernel
theorem dX12_summerOf_38 : decode cX12_summerOf 38 = .ok (.istore 4, 2) := by decide +kernel
theorem dX12_summerOf_40 : decode cX12_summerOf 40 = .ok (.aload_n 0, 1) := by decide +kernel
theorem dX12_summerOf_41 : decode cX12_summerOf 41 = .ok (.getfield 43, 3) := by decide +kernel
theorem dX12_summerOf_44 : decode cX12_summerOf 44 = .ok (.iload 5, 2) := by decide +kernel
theorem dX12_summerOf_46 : decode cX12_summerOf 46 = .ok (.iload 5, 2) := by decide +kernel
theorem dX12_summerOf_48 : decode cX12_summerOf 48 = .ok (.iload_n 2, 1) := by decide +kernel
theorem dX12_summerOf_49 : decode cX12_summerOf 49 = .ok (.if_icmp .ge 14, 3) := by decide +kernel
theorem dX12_summerOf_52 : decode cX12_summerOf 52 = .ok (.iload 4, 2) := by decide +kernel
theorem dX12_summerOf_54 : decode cX12_summerOf 54 = .ok (.bipush 16, 2) := by decide +kernel
theorem dX12_summerOf_56 : decode cX12_summerOf 56 = .ok (.iushr, 1) := by decide +kernel
theorem dX12_summerOf_57 : decode cX12_summerOf 57 = .ok (.bipush 10, 2) := by decide +kernel
theorem dX12_summerOf_59 : decode cX12_summerOf 59 = .ok (.irem, 1) := by decide +kernel
theorem dX12_summerOf_60 : decode cX12_summerOf 60 = .ok (.goto 4, 3) := by decide +kernel
theorem dX12_summerOf_63 : decode cX12_summerOf 63 = .ok (.iconst 5, 1) := by decide +kernel
theorem dX12_summerOf_64 : decode cX12_summerOf 64 = .ok (.iastore, 1) := by decide +kernel
theorem dX12_summerOf_65 : decode cX12_summerOf 65 = .ok (.aload_n 0, 1) := by decide +kernel
theorem dX12_summerOf_66 : decode cX12_summerOf 66 = .ok (.getfield 55, 3) := by decide +kernel
theorem dX12_summerOf_69 : decode cX12_summerOf 69 = .ok (.iload 5, 2) := by decide +kernel
theorem dX12_summerOf_71 : decode cX12_summerOf 71 = .ok (.iconst 0, 1) := by decide +kernel
theorem dX12_summerOf_72 : decode cX12_summerOf 72 = .ok (.iastore, 1) := by decide +kernel
theorem dX12_summerOf_73 : decode cX12_summerOf 73 = .ok (.iinc 5 1, 3) := by decide +kernel
theorem dX12_summerOf_76 : decode cX12_summerOf 76 = .ok (.goto (-66), 3) := by decide +kernel
theorem dX12_summerOf_79 : decode cX12_summerOf 79 = .ok (.iconst 0, 1) := by decide +kernel
theorem dX12_summerOf_80 : decode cX12_summerOf 80 = .ok (.istore 5, 2) := by decide +kernel
theorem dX12_summerOf_82 : decode cX12_summerOf 82 = .ok (.iconst 0, 1) := by decide +kernel
theorem dX12_summerOf_83 : decode cX12_summerOf 83 = .ok (.istore 6, 2) := by decide +kernel
theorem dX12_summerOf_85 : decode cX12_summerOf 85 = .ok (.iconst 0, 1) := by decide +kernel
theorem dX12_summerOf_86 : decode cX12_summerOf 86 = .ok (.istore 7, 2) := by decide +kernel
theorem dX12_summerOf_88 : decode cX12_summerOf 88 = .ok (.iload 7, 2) := by decide +kernel
theorem dX12_summerOf_90 : decode cX12_summerOf 90 = .ok (.aload_n 0, 1) := by decide +kernel
theorem dX12_summerOf_91 : decode cX12_summerOf 91 = .ok (.getfield 119, 3) := by decide +kernel
theorem dX12_summerOf_94 : decode cX12_summerOf 94 = .ok (.if_icmp .ge 78, 3) := by decide +kernel
theorem dX12_summerOf_97 : decode cX12_summerOf 97 = .ok (.aload_n 0, 1) := by decide +kernel
theorem dX12_summerOf_98 : decode cX12_summerOf 98 = .ok (.iload 7, 2) := by decide +kernel
theorem dX12_summerOf_100 : decode cX12_summerOf 100 = .ok (.invokevirtual 193, 3) := by decide +kernel
theorem dX12_summerOf_103 : decode cX12_summerOf 103 = .ok (.iconst 0, 1) := by decide +kernel
theorem dX12_summerOf_104 : decode cX12_summerOf 104 = .ok (.istore 8, 2) := by decide +kernel
theorem dX12_summerOf_106 : decode cX12_summerOf 106 = .ok (.iload 8, 2) := by decide +kernel
theorem dX12_summerOf_108 : decode cX12_summerOf 108 = .ok (.bipush 30, 2) := by decide +kernel
theorem dX12_summerOf_110 : decode cX12_summerOf 110 = .ok (.if_icmp .ge 56, 3) := by decide +kernel
theorem dX12_summerOf_113 : decode cX12_summerOf 113 = .ok (.aload_n 0, 1) := by decide +kernel
theorem dX12_summerOf_114 : decode cX12_summerOf 114 = .ok (.getfield 55, 3) := by decide +kernel
theorem dX12_summerOf_117 : decode cX12_summerOf 117 = .ok (.iload 8, 2) := by decide +kernel
theorem dX12_summerOf_119 : decode cX12_summerOf 119 = .ok (.dup2, 1) := by decide +kernel
theorem dX12_summerOf_120 : decode cX12_summerOf 120 = .ok (.iaload, 1) := by decide +kernel
theorem dX12_summerOf_121 : decode cX12_summerOf 121 = .ok (.aload_n 0, 1) := by decide +kernel
theorem dX12_summerOf_122 : decode cX12_summerOf 122 = .ok (.getfield 49, 3) := by decide +kernel
theorem dX12_summerOf_125 : decode cX12_summerOf 125 = .ok (.iload 8, 2) := by decide +kernel
theorem dX12_summerOf_127 : decode cX12_summerOf 127 = .ok (.iaload, 1) := by decide +kernel
theorem dX12_summerOf_128 : decode cX12_summerOf 128 = .ok (.iconst (-1), 1) := by decide +kernel
theorem dX12_summerOf_129 : decode cX12_summerOf 129 = .ok (.if_icmp .eq 7, 3) := by decide +kernel
theorem dX12_summerOf_132 : decode cX12_summerOf 132 = .ok (.iconst 1, 1) := by decide +kernel
theorem dX12_summerOf_133 : decode cX12_summerOf 133 = .ok (.goto 4, 3) := by decide +kernel
theorem dX12_summerOf_136 : decode cX12_summerOf 136 = .ok (.iconst 0, 1) := by decide +kernel
theorem dX12_summerOf_137 : decode cX12_summerOf 137 = .ok (.iadd, 1) := by decide +kernel
theorem dX12_summerOf_138 : decode cX12_summerOf 138 = .ok (.iastore, 1) := by decide +kernel
theorem dX12_summerOf_139 : decode cX12_summerOf 139 = .ok (.iload 5, 2) := by decide +kernel
theorem dX12_summerOf_141 : decode cX12_summerOf 141 = .ok (.aload_n 0, 1) := by decide +kernel
theorem dX12_summerOf_142 : decode cX12_summerOf 142 = .ok (.getfield 52, 3) := by decide +kernel
theorem dX12_summerOf_145 : decode cX12_summerOf 145 = .ok (.iload 8, 2) := by decide +kernel
theorem dX12_summerOf_147 : decode cX12_summerOf 147 = .ok (.iaload, 1) := by decide +kernel
theorem dX12_summerOf_148 : decode cX12_summerOf 148 = .ok (.iconst 3, 1) := by decide +kernel
theorem dX12_summerOf_149 : decode cX12_summerOf 149 = .ok (.if_icmp .ne 7, 3) := by decide +kernel
theorem dX12_summerOf_152 : decode cX12_summerOf 152 = .ok (.iconst 1, 1) := by decide +kernel
theorem dX12_summerOf_153 : decode cX12_summerOf 153 = .ok (.goto 4, 3) := by decide +kernel
theorem dX12_summerOf_156 : decode cX12_summerOf 156 = .ok (.iconst 0, 1) := by decide +kernel
theorem dX12_summerOf_157 : decode cX12_summerOf 157 = .ok (.iadd, 1) := by decide +kernel
theorem dX12_summerOf_158 : decode cX12_summerOf 158 = .ok (.istore 5, 2) := by decide +kernel
theorem dX12_summerOf_160 : decode cX12_summerOf 160 = .ok (.iinc 8 1, 3) := by decide +kernel
theorem dX12_summerOf_163 : decode cX12_summerOf 163 = .ok (.goto (-57), 3) := by decide +kernel
theorem dX12_summerOf_166 : decode cX12_summerOf 166 = .ok (.iinc 7 1, 3) := by decide +kernel
theorem dX12_summerOf_169 : decode cX12_summerOf 169 = .ok (.goto (-81), 3) := by decide +kernel
theorem dX12_summerOf_172 : decode cX12_summerOf 172 = .ok (.iconst 0, 1) := by decide +kernel
theorem dX12_summerOf_173 : decode cX12_summerOf 173 = .ok (.istore 7, 2) := by decide +kernel
theorem dX12_summerOf_175 : decode cX12_summerOf 175 = .ok (.iload 7, 2) := by decide +kernel
theorem dX12_summerOf_177 : decode cX12_summerOf 177 = .ok (.bipush 30, 2) := by decide +kernel
theorem dX12_summerOf_179 : decode cX12_summerOf 179 = .ok (.if_icmp .ge 40, 3) := by decide +kernel
theorem dX12_summerOf_182 : decode cX12_summerOf 182 = .ok (.iload 6, 2) := by decide +kernel
theorem dX12_summerOf_184 : decode cX12_summerOf 184 = .ok (.aload_n 0, 1) := by decide +kernel
theorem dX12_summerOf_185 : decode cX12_summerOf 185 = .ok (.getfield 119, 3) := by decide +kernel
theorem dX12_summerOf_188 : decode cX12_summerOf 188 = .ok (.ifCond .le 21, 3) := by decide +kernel
theorem dX12_summerOf_191 : decode cX12_summerOf 191 = .ok (.aload_n 0, 1) := by decide +kernel
theorem dX12_summerOf_192 : decode cX12_summerOf 192 = .ok (.getfield 55, 3) := by decide +kernel
theorem dX12_summerOf_195 : decode cX12_summerOf 195 = .ok (.iload 7, 2) := by decide +kernel
theorem dX12_summerOf_197 : decode cX12_summerOf 197 = .ok (.iaload, 1) := by decide +kernel
theorem dX12_summerOf_198 : decode cX12_summerOf 198 = .ok (.aload_n 0, 1) := by decide +kernel
theorem dX12_summerOf_199 : decode cX12_summerOf 199 = .ok (.getfield 119, 3) := by decide +kernel
theorem dX12_summerOf_202 : decode cX12_summerOf 202 = .ok (.if_icmp .ne 7, 3) := by decide +kernel
theorem dX12_summerOf_205 : decode cX12_summerOf 205 = .ok (.iconst 1, 1) := by decide +kernel
theorem dX12_summerOf_206 : decode cX12_summerOf 206 = .ok (.goto 4, 3) := by decide +kernel
theorem dX12_summerOf_209 : decode cX12_summerOf 209 = .ok (.iconst 0, 1) := by decide +kernel
theorem dX12_summerOf_210 : decode cX12_summerOf 210 = .ok (.iadd, 1) := by decide +kernel
theorem dX12_summerOf_211 : decode cX12_summerOf 211 = .ok (.istore 6, 2) := by decide +kernel
theorem dX12_summerOf_213 : decode cX12_summerOf 213 = .ok (.iinc 7 1, 3) := by decide +kernel
theorem dX12_summerOf_216 : decode cX12_summerOf 216 = .ok (.goto (-41), 3) := by decide +kernel
theorem dX12_summerOf_219 : decode cX12_summerOf 219 = .ok (.iload_n 3, 1) := by decide +kernel
theorem dX12_summerOf_220 : decode cX12_summerOf 220 = .ok (.ifCond .ne 8, 3) := by decide +kernel
theorem dX12_summerOf_223 : decode cX12_summerOf 223 = .ok (.iload 6, 2) := by decide +kernel
theorem dX12_summerOf_225 : decode cX12_summerOf 225 = .ok (.goto 5, 3) := by decide +kernel
theorem dX12_summerOf_228 : decode cX12_summerOf 228 = .ok (.iload 5, 2) := by decide +kernel
theorem dX12_summerOf_230 : decode cX12_summerOf 230 = .ok (.ireturn, 1) := by decide +kernel
theorem dX12_summer_0 : decode cX12_summer 0 = .ok (.iload_n 2, 1) := by decide +kernel
theorem dX12_summer_1 : decode cX12_summer 1 = .ok (.iconst 0, 1) := by decide +kernel
theorem dX12_summer_2 : decode cX12_summer 2 = .ok (.bipush 30, 2) := by decide +kernel
theorem dX12_summer_4 : decode cX12_summer 4 = .ok (.invokestatic 104, 3) := by decide +kernel
theorem dX12_summer_7 : decode cX12_summer 7 = .ok (.ifCond .eq 22, 3) := by decide +kernel
theorem dX12_summer_10 : decode cX12_summer 10 = .ok (.iload_n 3, 1) := by decide +kernel
theorem dX12_summer_11 : decode cX12_summer 11 = .ok (.iconst 0, 1) := by decide +kernel
theorem dX12_summer_12 : decode cX12_summer 12 = .ok (.iconst 1, 1) := by decide +kernel
theorem dX12_summer_13 : decode cX12_summer 13 = .ok (.invokestatic 104, 3) := by decide +kernel
theorem dX12_summer_16 : decode cX12_summer 16 = .ok (.ifCond .eq 13, 3) := by decide +kernel
theorem dX12_summer_19 : decode cX12_summer 19 = .ok (.aload_n 0, 1) := by decide +kernel
theorem dX12_summer_20 : decode cX12_summer 20 = .ok (.iload_n 1, 1) := by decide +kernel
theorem dX12_summer_21 : decode cX12_summer 21 = .ok (.iload_n 2, 1) := by decide +kernel
theorem dX12_summer_22 : decode cX12_summer 22 = .ok (.iload_n 3, 1) := by decide +kernel
theorem dX12_summer_23 : decode cX12_summer 23 = .ok (.invokevirtual 268, 3) := by decide +kernel
theorem dX12_summer_26 : decode cX12_summer 26 = .ok (.goto 5, 3) := by decide +kernel
theorem dX12_summer_29 : decode cX12_summer 29 = .ok (.bipush (-2), 2) := by decide +kernel
theorem dX12_summer_31 : decode cX12_summer 31 = .ok (.ireturn, 1) := by decide +kernel
theorem dX12_meets_0 : decode cX12_meets 0 = .ok (.aload_n 0, 1) := by decide +kernel
theorem dX12_meets_1 : decode cX12_meets 1 = .ok (.iload_n 1, 1) := by decide +kernel
theorem dX12_meets_2 : decode cX12_meets 2 = .ok (.putfield 271, 3) := by decide +kernel
theorem dX12_meets_5 : decode cX12_meets 5 = .ok (.bipush (-10), 2) := by decide +kernel
theorem dX12_meets_7 : decode cX12_meets 7 = .ok (.iload_n 1, 1) := by decide +kernel
theorem dX12_meets_8 : decode cX12_meets 8 = .ok (.isub, 1) := by decide +kernel
theorem dX12_meets_9 : decode cX12_meets 9 = .ok (.ireturn, 1) := by decide +kernel
theorem dX12_isSheet_0 : decode cX12_isSheet 0 = .ok (.iload_n 0, 1) := by decide +kernel
theorem dX12_isSheet_1 : decode cX12_isSheet 1 = .ok (.iconst 0, 1) := by decide +kernel
theorem dX12_isSheet_2 : decode cX12_isSheet 2 = .ok (.iconst 3, 1) := by decide +kernel
theorem dX12_isSheet_3 : decode cX12_isSheet 3 = .ok (.invokestatic 104, 3) := by decide +kernel
theorem dX12_isSheet_6 : decode cX12_isSheet 6 = .ok (.ireturn, 1) := by decide +kernel
theorem dX12_sheet_0 : decode cX12_sheet 0 = .ok (.iload_n 1, 1) := by decide +kernel
theorem dX12_sheet_1 : decode cX12_sheet 1 = .ok (.invokestatic 160, 3) := by decide +kernel
theorem dX12_sheet_4 : decode cX12_sheet 4 = .ok (.ifCond .eq 18, 3) := by decide +kernel
theorem dX12_sheet_7 : decode cX12_sheet 7 = .ok (.iload_n 2, 1) := by decide +kernel
theorem dX12_sheet_8 : decode cX12_sheet 8 = .ok (.iconst 0, 1) := by decide +kernel
theorem dX12_sheet_9 : decode cX12_sheet 9 = .ok (.iconst 2, 1) := by decide +kernel
theorem dX12_sheet_10 : decode cX12_sheet 10 = .ok (.invokestatic 104, 3) := by decide +kernel
theorem dX12_sheet_13 : decode cX12_sheet 13 = .ok (.ifCond .eq 9, 3) := by decide +kernel
theorem dX12_sheet_16 : decode cX12_sheet 16 = .ok (.iload_n 3, 1) := by decide +kernel
theorem dX12_sheet_17 : decode cX12_sheet 17 = .ok (.bipush 60, 2) := by decide +kernel
theorem dX12_sheet_19 : decode cX12_sheet 19 = .ok (.if_icmp .le 6, 3) := by decide +kernel
theorem dX12_sheet_22 : decode cX12_sheet 22 = .ok (.bipush (-2), 2) := by decide +kernel
theorem dX12_sheet_24 : decode cX12_sheet 24 = .ok (.ireturn, 1) := by decide +kernel
theorem dX12_sheet_25 : decode cX12_sheet 25 = .ok (.iload_n 3, 1) := by decide +kernel
theorem dX12_sheet_26 : decode cX12_sheet 26 = .ok (.ifCond .ge 9, 3) := by decide +kernel
theorem dX12_sheet_29 : decode cX12_sheet 29 = .ok (.aload_n 0, 1) := by decide +kernel
theorem dX12_sheet_30 : decode cX12_sheet 30 = .ok (.iconst 5, 1) := by decide +kernel
theorem dX12_sheet_31 : decode cX12_sheet 31 = .ok (.invokevirtual 163, 3) := by decide +kernel
theorem dX12_sheet_34 : decode cX12_sheet 34 = .ok (.ireturn, 1) := by decide +kernel
theorem dX12_sheet_35 : decode cX12_sheet 35 = .ok (.aload_n 0, 1) := by decide +kernel
theorem dX12_sheet_36 : decode cX12_sheet 36 = .ok (.getfield 79, 3) := by decide +kernel
theorem dX12_sheet_39 : decode cX12_sheet 39 = .ok (.iload_n 1, 1) := by decide +kernel
theorem dX12_sheet_40 : decode cX12_sheet 40 = .ok (.iconst 1, 1) := by decide +kernel
theorem dX12_sheet_41 : decode cX12_sheet 41 = .ok (.bastore, 1) := by decide +kernel
theorem dX12_sheet_42 : decode cX12_sheet 42 = .ok (.aload_n 0, 1) := by decide +kernel
theorem dX12_sheet_43 : decode cX12_sheet 43 = .ok (.getfield 83, 3) := by decide +kernel
theorem dX12_sheet_46 : decode cX12_sheet 46 = .ok (.iload_n 1, 1) := by decide +kernel
theorem dX12_sheet_47 : decode cX12_sheet 47 = .ok (.iload_n 2, 1) := by decide +kernel
theorem dX12_sheet_48 : decode cX12_sheet 48 = .ok (.iastore, 1) := by decide +kernel
theorem dX12_sheet_49 : decode cX12_sheet 49 = .ok (.aload_n 0, 1) := by decide +kernel
theorem dX12_sheet_50 : decode cX12_sheet 50 = .ok (.getfield 86, 3) := by decide +kernel
theorem dX12_sheet_53 : decode cX12_sheet 53 = .ok (.iload_n 1, 1) := by decide +kernel
theorem dX12_sheet_54 : decode cX12_sheet 54 = .ok (.iload_n 3, 1) := by decide +kernel
theorem dX12_sheet_55 : decode cX12_sheet 55 = .ok (.iastore, 1) := by decide +kernel
theorem dX12_sheet_56 : decode cX12_sheet 56 = .ok (.iconst 0, 1) := by decide +kernel
theorem dX12_sheet_57 : decode cX12_sheet 57 = .ok (.istore 4, 2) := by decide +kernel
theorem dX12_sheet_59 : decode cX12_sheet 59 = .ok (.iload 4, 2) := by decide +kernel
theorem dX12_sheet_61 : decode cX12_sheet 61 = .ok (.bipush 60, 2) := by decide +kernel
theorem dX12_sheet_63 : decode cX12_sheet 63 = .ok (.if_icmp .ge 22, 3) := by decide +kernel
theorem dX12_sheet_66 : decode cX12_sheet 66 = .ok (.aload_n 0, 1) := by decide +kernel
theorem dX12_sheet_67 : decode cX12_sheet 67 = .ok (.getfield 89, 3) := by decide +kernel
theorem dX12_sheet_70 : decode cX12_sheet 70 = .ok (.bipush 60, 2) := by decide +kernel
theorem dX12_sheet_72 : decode cX12_sheet 72 = .ok (.iload_n 1, 1) := by decide +kernel
theorem dX12_sheet_73 : decode cX12_sheet 73 = .ok (.imul, 1) := by decide +kernel
theorem dX12_sheet_74 : decode cX12_sheet 74 = .ok (.iload 4, 2) := by decide +kernel
theorem dX12_sheet_76 : decode cX12_sheet 76 = .ok (.iadd, 1) := by decide +kernel
theorem dX12_sheet_77 : decode cX12_sheet 77 = .ok (.iconst 0, 1) := by decide +kernel
theorem dX12_sheet_78 : decode cX12_sheet 78 = .ok (.iastore, 1) := by decide +kernel
theorem dX12_sheet_79 : decode cX12_sheet 79 = .ok (.iinc 4 1, 3) := by decide +kernel
theorem dX12_sheet_82 : decode cX12_sheet 82 = .ok (.goto (-23), 3) := by decide +kernel
theorem dX12_sheet_85 : decode cX12_sheet 85 = .ok (.iload_n 3, 1) := by decide +kernel
theorem dX12_sheet_86 : decode cX12_sheet 86 = .ok (.ireturn, 1) := by decide +kernel
theorem dX12_lose_0 : decode cX12_lose 0 = .ok (.iload_n 1, 1) := by decide +kernel
theorem dX12_lose_1 : decode cX12_lose 1 = .ok (.invokestatic 160, 3) := by decide +kernel
theorem dX12_lose_4 : decode cX12_lose 4 = .ok (.ifCond .ne 6, 3) := by decide +kernel
theorem dX12_lose_7 : decode cX12_lose 7 = .ok (.bipush (-2), 2) := by decide +kernel
theorem dX12_lose_9 : decode cX12_lose 9 = .ok (.ireturn, 1) := by decide +kernel
theorem dX12_lose_10 : decode cX12_lose 10 = .ok (.aload_n 0, 1) := by decide +kernel
theorem dX12_lose_11 : decode cX12_lose 11 = .ok (.getfield 79, 3) := by decide +kernel
theorem dX12_lose_14 : decode cX12_lose 14 = .ok (.iload_n 1, 1) := by decide +kernel
theorem dX12_lose_15 : decode cX12_lose 15 = .ok (.baload, 1) := by decide +kernel
theorem dX12_lose_16 : decode cX12_lose 16 = .ok (.ifCond .ne 9, 3) := by decide +kernel
theorem dX12_lose_19 : decode cX12_lose 19 = .ok (.aload_n 0, 1) := by decide +kernel
theorem dX12_lose_20 : decode cX12_lose 20 = .ok (.iconst 1, 1) := by decide +kernel
theorem dX12_lose_21 : decode cX12_lose 21 = .ok (.invokevirtual 163, 3) := by decide +kernel
theorem dX12_lose_24 : decode cX12_lose 24 = .ok (.ireturn, 1) := by decide +kernel
theorem dX12_lose_25 : decode cX12_lose 25 = .ok (.aload_n 0, 1) := by decide +kernel
theorem dX12_lose_26 : decode cX12_lose 26 = .ok (.getfield 79, 3) := by decide +kernel
theorem dX12_lose_29 : decode cX12_lose 29 = .ok (.iload_n 1, 1) := by decide +kernel
theorem dX12_lose_30 : decode cX12_lose 30 = .ok (.iconst 0, 1) := by decide +kernel
theorem dX12_lose_31 : decode cX12_lose 31 = .ok (.bastore, 1) := by decide +kernel
theorem dX12_lose_32 : decode cX12_lose 32 = .ok (.aload_n 0, 1) := by decide +kernel
theorem dX12_lose_33 : decode cX12_lose 33 = .ok (.getfield 86, 3) := by decide +kernel
theorem dX12_lose_36 : decode cX12_lose 36 = .ok (.iload_n 1, 1) := by decide +kernel
theorem dX12_lose_37 : decode cX12_lose 37 = .ok (.iaload, 1) := by decide +kernel
theorem dX12_lose_38 : decode cX12_lose 38 = .ok (.ireturn, 1) := by decide +kernel
theorem dX12_lacks_0 : decode cX12_lacks 0 = .ok (.aload_n 0, 1) := by decide +kernel
theorem dX12_lacks_1 : decode cX12_lacks 1 = .ok (.getfield 79, 3) := by decide +kernel
theorem dX12_lacks_4 : decode cX12_lacks 4 = .ok (.iload_n 1, 1) := by decide +kernel
theorem dX12_lacks_5 : decode cX12_lacks 5 = .ok (.baload, 1) := by decide +kernel
theorem dX12_lacks_6 : decode cX12_lacks 6 = .ok (.ifCond .ne 7, 3) := by decide +kernel
theorem dX12_lacks_9 : decode cX12_lacks 9 = .ok (.iconst 1, 1) := by decide +kernel
theorem dX12_lacks_10 : decode cX12_lacks 10 = .ok (.goto 38, 3) := by decide +kernel
theorem dX12_lacks_13 : decode cX12_lacks 13 = .ok (.aload_n 0, 1) := by decide +kernel
theorem dX12_lacks_14 : decode cX12_lacks 14 = .ok (.getfield 83, 3) := by decide +kernel
theorem dX12_lacks_17 : decode cX12_lacks 17 = .ok (.iload_n 1, 1) := by decide +kernel
theorem dX12_lacks_18 : decode cX12_lacks 18 = .ok (.iaload, 1) := by decide +kernel
theorem dX12_lacks_19 : decode cX12_lacks 19 = .ok (.iload_n 2, 1) := by decide +kernel
theorem dX12_lacks_20 : decode cX12_lacks 20 = .ok (.if_icmp .eq 7, 3) := by decide +kernel
theorem dX12_lacks_23 : decode cX12_lacks 23 = .ok (.iconst 3, 1) := by decide +kernel
theorem dX12_lacks_24 : decode cX12_lacks 24 = .ok (.goto 24, 3) := by decide +kernel
theorem dX12_lacks_27 : decode cX12_lacks 27 = .ok (.iload_n 3, 1) := by decide +kernel
theorem dX12_lacks_28 : decode cX12_lacks 28 = .ok (.iconst 0, 1) := by decide +kernel
theorem dX12_lacks_29 : decode cX12_lacks 29 = .ok (.aload_n 0, 1) := by decide +kernel
theorem dX12_lacks_30 : decode cX12_lacks 30 = .ok (.getfield 86, 3) := by decide +kernel
theorem dX12_lacks_33 : decode cX12_lacks 33 = .ok (.iload_n 1, 1) := by decide +kernel
theorem dX12_lacks_34 : decode cX12_lacks 34 = .ok (.iaload, 1) := by decide +kernel
theorem dX12_lacks_35 : decode cX12_lacks 35 = .ok (.iconst 1, 1) := by decide +kernel
theorem dX12_lacks_36 : decode cX12_lacks 36 = .ok (.isub, 1) := by decide +kernel
theorem dX12_lacks_37 : decode cX12_lacks 37 = .ok (.invokestatic 104, 3) := by decide +kernel
theorem dX12_lacks_40 : decode cX12_lacks 40 = .ok (.ifCond .eq 7, 3) := by decide +kernel
theorem dX12_lacks_43 : decode cX12_lacks 43 = .ok (.iconst 0, 1) := by decide +kernel
theorem dX12_lacks_44 : decode cX12_lacks 44 = .ok (.goto 4, 3) := by decide +kernel
theorem dX12_lacks_47 : decode cX12_lacks 47 = .ok (.iconst 2, 1) := by decide +kernel
theorem dX12_lacks_48 : decode cX12_lacks 48 = .ok (.ireturn, 1) := by decide +kernel
theorem dX12_keep_0 : decode cX12_keep 0 = .ok (.aload_n 0, 1) := by decide +kernel
theorem dX12_keep_1 : decode cX12_keep 1 = .ok (.getfield 89, 3) := by decide +kernel
theorem dX12_keep_4 : decode cX12_keep 4 = .ok (.bipush 60, 2) := by decide +kernel
theorem dX12_keep_6 : decode cX12_keep 6 = .ok (.iload_n 1, 1) := by decide +kernel
theorem dX12_keep_7 : decode cX12_keep 7 = .ok (.imul, 1) := by decide +kernel
theorem dX12_keep_8 : decode cX12_keep 8 = .ok (.iload_n 2, 1) := by decide +kernel
theorem dX12_keep_9 : decode cX12_keep 9 = .ok (.iadd, 1) := by decide +kernel
theorem dX12_keep_10 : decode cX12_keep 10 = .ok (.aload_n 0, 1) := by decide +kernel
theorem dX12_keep_11 : decode cX12_keep 11 = .ok (.getfield 83, 3) := by decide +kernel
theorem dX12_keep_14 : decode cX12_keep 14 = .ok (.iload_n 1, 1) := by decide +kernel
theorem dX12_keep_15 : decode cX12_keep 15 = .ok (.iaload, 1) := by decide +kernel
theorem dX12_keep_16 : decode cX12_keep 16 = .ok (.ifCond .ne 8, 3) := by decide +kernel
theorem dX12_keep_19 : decode cX12_keep 19 = .ok (.iload_n 3, 1) := by decide +kernel
theorem dX12_keep_20 : decode cX12_keep 20 = .ok (.i2b, 1) := by decide +kernel
theorem dX12_keep_21 : decode cX12_keep 21 = .ok (.goto 19, 3) := by decide +kernel
theorem dX12_keep_24 : decode cX12_keep 24 = .ok (.aload_n 0, 1) := by decide +kernel
theorem dX12_keep_25 : decode cX12_keep 25 = .ok (.getfield 83, 3) := by decide +kernel
theorem dX12_keep_28 : decode cX12_keep 28 = .ok (.iload_n 1, 1) := by decide +kernel
theorem dX12_keep_29 : decode cX12_keep 29 = .ok (.iaload, 1) := by decide +kernel
theorem dX12_keep_30 : decode cX12_keep 30 = .ok (.iconst 1, 1) := by decide +kernel
theorem dX12_keep_31 : decode cX12_keep 31 = .ok (.if_icmp .ne 8, 3) := by decide +kernel
theorem dX12_keep_34 : decode cX12_keep 34 = .ok (.iload_n 3, 1) := by decide +kernel
theorem dX12_keep_35 : decode cX12_keep 35 = .ok (.i2s, 1) := by decide +kernel
theorem dX12_keep_36 : decode cX12_keep 36 = .ok (.goto 4, 3) := by decide +kernel
theorem dX12_keep_39 : decode cX12_keep 39 = .ok (.iload_n 3, 1) := by decide +kernel
theorem dX12_keep_40 : decode cX12_keep 40 = .ok (.iastore, 1) := by decide +kernel
theorem dX12_keep_41 : decode cX12_keep 41 = .ok (.return_, 1) := by decide +kernel
theorem dX12_put_0 : decode cX12_put 0 = .ok (.iload_n 1, 1) := by decide +kernel
theorem dX12_put_1 : decode cX12_put 1 = .ok (.invokestatic 160, 3) := by decide +kernel
theorem dX12_put_4 : decode cX12_put 4 = .ok (.ifCond .eq 12, 3) := by decide +kernel
theorem dX12_put_7 : decode cX12_put 7 = .ok (.iload_n 2, 1) := by decide +kernel
theorem dX12_put_8 : decode cX12_put 8 = .ok (.iconst 0, 1) := by decide +kernel
theorem dX12_put_9 : decode cX12_put 9 = .ok (.iconst 2, 1) := by decide +kernel
theorem dX12_put_10 : decode cX12_put 10 = .ok (.invokestatic 104, 3) := by decide +kernel
theorem dX12_put_13 : decode cX12_put 13 = .ok (.ifCond .ne 6, 3) := by decide +kernel
theorem dX12_put_16 : decode cX12_put 16 = .ok (.bipush (-2), 2) := by decide +kernel
theorem dX12_put_18 : decode cX12_put 18 = .ok (.ireturn, 1) := by decide +kernel
theorem dX12_put_19 : decode cX12_put 19 = .ok (.aload_n 0, 1) := by decide +kernel
theorem dX12_put_20 : decode cX12_put 20 = .ok (.iload_n 1, 1) := by decide +kernel
theorem dX12_put_21 : decode cX12_put 21 = .ok (.iload_n 2, 1) := by decide +kernel
theorem dX12_put_22 : decode cX12_put 22 = .ok (.iload_n 3, 1) := by decide +kernel
theorem dX12_put_23 : decode cX12_put 23 = .ok (.invokevirtual 274, 3) := by decide +kernel
theorem dX12_put_26 : decode cX12_put 26 = .ok (.istore 5, 2) := by decide +kernel
theorem dX12_put_28 : decode cX12_put 28 = .ok (.iload 5, 2) := by decide +kernel
theorem dX12_put_30 : decode cX12_put 30 = .ok (.ifCond .le 10, 3) := by decide +kernel
theorem dX12_put_33 : decode cX12_put 33 = .ok (.aload_n 0, 1) := by decide +kernel
theorem dX12_put_34 : decode cX12_put 34 = .ok (.iload 5, 2) := by decide +kernel
theorem dX12_put_36 : decode cX12_put 36 = .ok (.invokevirtual 163, 3) := by decide +kernel
theorem dX12_put_39 : decode cX12_put 39 = .ok (.ireturn, 1) := by decide +kernel
theorem dX12_put_40 : decode cX12_put 40 = .ok (.aload_n 0, 1) := by decide +kernel
theorem dX12_put_41 : decode cX12_put 41 = .ok (.iload_n 1, 1) := by decide +kernel
theorem dX12_put_42 : decode cX12_put 42 = .ok (.iload_n 3, 1) := by decide +kernel
theorem dX12_put_43 : decode cX12_put 43 = .ok (.iload 4, 2) := by decide +kernel
theorem dX12_put_45 : decode cX12_put 45 = .ok (.invokevirtual 277, 3) := by decide +kernel
theorem dX12_put_48 : decode cX12_put 48 = .ok (.iconst 1, 1) := by decide +kernel
theorem dX12_put_49 : decode cX12_put 49 = .ok (.ireturn, 1) := by decide +kernel
theorem dX12_get_0 : decode cX12_get 0 = .ok (.iload_n 1, 1) := by decide +kernel
theorem dX12_get_1 : decode cX12_get 1 = .ok (.invokestatic 160, 3) := by decide +kernel
theorem dX12_get_4 : decode cX12_get 4 = .ok (.ifCond .eq 12, 3) := by decide +kernel
theorem dX12_get_7 : decode cX12_get 7 = .ok (.iload_n 2, 1) := by decide +kernel
theorem dX12_get_8 : decode cX12_get 8 = .ok (.iconst 0, 1) := by decide +kernel
theorem dX12_get_9 : decode cX12_get 9 = .ok (.iconst 2, 1) := by decide +kernel
theorem dX12_get_10 : decode cX12_get 10 = .ok (.invokestatic 104, 3) := by decide +kernel
theorem dX12_get_13 : decode cX12_get 13 = .ok (.ifCond .ne 7, 3) := by decide +kernel
theorem dX12_get_16 : decode cX12_get 16 = .ok (.ldc_w 281, 3) := by decide +kernel
theorem dX12_get_19 : decode cX12_get 19 = .ok (.ireturn, 1) := by decide +kernel
theorem dX12_get_20 : decode cX12_get 20 = .ok (.aload_n 0, 1) := by decide +kernel
theorem dX12_get_21 : decode cX12_get 21 = .ok (.iload_n 1, 1) := by decide +kernel
theorem dX12_get_22 : decode cX12_get 22 = .ok (.iload_n 2, 1) := by decide +kernel
theorem dX12_get_23 : decode cX12_get 23 = .ok (.iload_n 3, 1) := by decide +kernel
theorem dX12_get_24 : decode cX12_get 24 = .ok (.invokevirtual 274, 3) := by decide +kernel
theorem dX12_get_27 : decode cX12_get 27 = .ok (.istore 4, 2) := by decide +kernel
theorem dX12_get_29 : decode cX12_get 29 = .ok (.iload 4, 2) := by decide +kernel
theorem dX12_get_31 : decode cX12_get 31 = .ok (.ifCond .le 13, 3) := by decide +kernel
theorem dX12_get_34 : decode cX12_get 34 = .ok (.aload_n 0, 1) := by decide +kernel
theorem dX12_get_35 : decode cX12_get 35 = .ok (.iload 4, 2) := by decide +kernel
theorem dX12_get_37 : decode cX12_get 37 = .ok (.putfield 271, 3) := by decide +kernel
theorem dX12_get_40 : decode cX12_get 40 = .ok (.ldc_w 281, 3) := by decide +kernel
theorem dX12_get_43 : decode cX12_get 43 = .ok (.ireturn, 1) := by decide +kernel
theorem dX12_get_44 : decode cX12_get 44 = .ok (.aload_n 0, 1) := by decide +kernel
theorem dX12_get_45 : decode cX12_get 45 = .ok (.getfield 89, 3) := by decide +kernel
theorem dX12_get_48 : decode cX12_get 48 = .ok (.bipush 60, 2) := by decide +kernel
theorem dX12_get_50 : decode cX12_get 50 = .ok (.iload_n 1, 1) := by decide +kernel
theorem dX12_get_51 : decode cX12_get 51 = .ok (.imul, 1) := by decide +kernel
theorem dX12_get_52 : decode cX12_get 52 = .ok (.iload_n 3, 1) := by decide +kernel
theorem dX12_get_53 : decode cX12_get 53 = .ok (.iadd, 1) := by decide +kernel
theorem dX12_get_54 : decode cX12_get 54 = .ok (.iaload, 1) := by decide +kernel
theorem dX12_get_55 : decode cX12_get 55 = .ok (.ireturn, 1) := by decide +kernel
theorem dX12_copy_0 : decode cX12_copy 0 = .ok (.iload_n 1, 1) := by decide +kernel
theorem dX12_copy_1 : decode cX12_copy 1 = .ok (.invokestatic 160, 3) := by decide +kernel
theorem dX12_copy_4 : decode cX12_copy 4 = .ok (.ifCond .eq 10, 3) := by decide +kernel
theorem dX12_copy_7 : decode cX12_copy 7 = .ok (.iload_n 3, 1) := by decide +kernel
theorem dX12_copy_8 : decode cX12_copy 8 = .ok (.invokestatic 160, 3) := by decide +kernel
theorem dX12_copy_11 : decode cX12_copy 11 = .ok (.ifCond .ne 6, 3) := by decide +kernel
theorem dX12_copy_14 : decode cX12_copy 14 = .ok (.bipush (-2), 2) := by decide +kernel
theorem dX12_copy_16 : decode cX12_copy 16 = .ok (.ireturn, 1) := by decide +kernel
theorem dX12_copy_17 : decode cX12_copy 17 = .ok (.aload_n 0, 1) := by decide +kernel
theorem dX12_copy_18 : decode cX12_copy 18 = .ok (.getfield 79, 3) := by decide +kernel
theorem dX12_copy_21 : decode cX12_copy 21 = .ok (.iload_n 1, 1) := by decide +kernel
theorem dX12_copy_22 : decode cX12_copy 22 = .ok (.baload, 1) := by decide +kernel
theorem dX12_copy_23 : decode cX12_copy 23 = .ok (.ifCond .eq 12, 3) := by decide +kernel
theorem dX12_copy_26 : decode cX12_copy 26 = .ok (.aload_n 0, 1) := by decide +kernel
theorem dX12_copy_27 : decode cX12_copy 27 = .ok (.getfield 79, 3) := by decide +kernel
theorem dX12_copy_30 : decode cX12_copy 30 = .ok (.iload_n 3, 1) := by decide +kernel
theorem dX12_copy_31 : decode cX12_copy 31 = .ok (.baload, 1) := by decide +kernel
theorem dX12_copy_32 : decode cX12_copy 32 = .ok (.ifCond .ne 9, 3) := by decide +kernel
theorem dX12_copy_35 : decode cX12_copy 35 = .ok (.aload_n 0, 1) := by decide +kernel
theorem dX12_copy_36 : decode cX12_copy 36 = .ok (.iconst 1, 1) := by decide +kernel
theorem dX12_copy_37 : decode cX12_copy 37 = .ok (.invokevirtual 163, 3) := by decide +kernel
theorem dX12_copy_40 : decode cX12_copy 40 = .ok (.ireturn, 1) := by decide +kernel
theorem dX12_copy_41 : decode cX12_copy 41 = .ok (.aload_n 0, 1) := by decide +kernel
theorem dX12_copy_42 : decode cX12_copy 42 = .ok (.getfield 83, 3) := by decide +kernel
theorem dX12_copy_45 : decode cX12_copy 45 = .ok (.iload_n 1, 1) := by decide +kernel
theorem dX12_copy_46 : decode cX12_copy 46 = .ok (.iaload, 1) := by decide +kernel
theorem dX12_copy_47 : decode cX12_copy 47 = .ok (.aload_n 0, 1) := by decide +kernel
theorem dX12_copy_48 : decode cX12_copy 48 = .ok (.getfield 83, 3) := by decide +kernel
theorem dX12_copy_51 : decode cX12_copy 51 = .ok (.iload_n 3, 1) := by decide +kernel
theorem dX12_copy_52 : decode cX12_copy 52 = .ok (.iaload, 1) := by decide +kernel
theorem dX12_copy_53 : decode cX12_copy 53 = .ok (.if_icmp .eq 9, 3) := by decide +kernel
theorem dX12_copy_56 : decode cX12_copy 56 = .ok (.aload_n 0, 1) := by decide +kernel
theorem dX12_copy_57 : decode cX12_copy 57 = .ok (.iconst 4, 1) := by decide +kernel
theorem dX12_copy_58 : decode cX12_copy 58 = .ok (.invokevirtual 163, 3) := by decide +kernel
theorem dX12_copy_61 : decode cX12_copy 61 = .ok (.ireturn, 1) := by decide +kernel
theorem dX12_copy_62 : decode cX12_copy 62 = .ok (.iload_n 2, 1) := by decide +kernel
theorem dX12_copy_63 : decode cX12_copy 63 = .ok (.ifCond .lt 48, 3) := by decide +kernel
theorem dX12_copy_66 : decode cX12_copy 66 = .ok (.iload 4, 2) := by decide +kernel
theorem dX12_copy_68 : decode cX12_copy 68 = .ok (.ifCond .lt 43, 3) := by decide +kernel
theorem dX12_copy_71 : decode cX12_copy 71 = .ok (.iload 5, 2) := by decide +kernel
theorem dX12_copy_73 : decode cX12_copy 73 = .ok (.ifCond .lt 38, 3) := by decide +kernel
theorem dX12_copy_76 : decode cX12_copy 76 = .ok (.iload_n 2, 1) := by decide +kernel
theorem dX12_copy_77 : decode cX12_copy 77 = .ok (.i2l, 1) := by decide +kernel
theorem dX12_copy_78 : decode cX12_copy 78 = .ok (.iload 5, 2) := by decide +kernel
theorem dX12_copy_80 : decode cX12_copy 80 = .ok (.i2l, 1) := by decide +kernel
theorem dX12_copy_81 : decode cX12_copy 81 = .ok (.ladd, 1) := by decide +kernel
theorem dX12_copy_82 : decode cX12_copy 82 = .ok (.aload_n 0, 1) := by decide +kernel
theorem dX12_copy_83 : decode cX12_copy 83 = .ok (.getfield 86, 3) := by decide +kernel
theorem dX12_copy_86 : decode cX12_copy 86 = .ok (.iload_n 1, 1) := by decide +kernel
theorem dX12_copy_87 : decode cX12_copy 87 = .ok (.iaload, 1) := by decide +kernel
theorem dX12_copy_88 : decode cX12_copy 88 = .ok (.i2l, 1) := by decide +kernel
theorem dX12_copy_89 : decode cX12_copy 89 = .ok (.lcmp, 1) := by decide +kernel
theorem dX12_copy_90 : decode cX12_copy 90 = .ok (.ifCond .gt 21, 3) := by decide +kernel
theorem dX12_copy_93 : decode cX12_copy 93 = .ok (.iload 4, 2) := by decide +kernel
theorem dX12_copy_95 : decode cX12_copy 95 = .ok (.i2l, 1) := by decide +kernel
theorem dX12_copy_96 : decode cX12_copy 96 = .ok (.iload 5, 2) := by decide +kernel
theorem dX12_copy_98 : decode cX12_copy 98 = .ok (.i2l, 1) := by decide +kernel
theorem dX12_copy_99 : decode cX12_copy 99 = .ok (.ladd, 1) := by decide +kernel
theorem dX12_copy_100 : decode cX12_copy 100 = .ok (.aload_n 0, 1) := by decide +kernel
theorem dX12_copy_101 : decode cX12_copy 101 = .ok (.getfield 86, 3) := by decide +kernel
theorem dX12_copy_104 : decode cX12_copy 104 = .ok (.iload_n 3, 1) := by decide +kernel
theorem dX12_copy_105 : decode cX12_copy 105 = .ok (.iaload, 1) := by decide +kernel
theorem dX12_copy_106 : decode cX12_copy 106 = .ok (.i2l, 1) := by decide +kernel
theorem dX12_copy_107 : decode cX12_copy 107 = .ok (.lcmp, 1) := by decide +kernel
theorem dX12_copy_108 : decode cX12_copy 108 = .ok (.ifCond .le 9, 3) := by decide +kernel
theorem dX12_copy_111 : decode cX12_copy 111 = .ok (.aload_n 0, 1) := by decide +kernel
theorem dX12_copy_112 : decode cX12_copy 112 = .ok (.iconst 2, 1) := by decide +kernel
theorem dX12_copy_113 : decode cX12_copy 113 = .ok (.invokevirtual 163, 3) := by decide +kernel
theorem dX12_copy_116 : decode cX12_copy 116 = .ok (.ireturn, 1) := by decide +kernel
theorem dX12_copy_117 : decode cX12_copy 117 = .ok (.iconst 0, 1) := by decide +kernel
theorem dX12_copy_118 : decode cX12_copy 118 = .ok (.istore 6, 2) := by decide +kernel
theorem dX12_copy_120 : decode cX12_copy 120 = .ok (.iload 6, 2) := by decide +kernel
theorem dX12_copy_122 : decode cX12_copy 122 = .ok (.iload 5, 2) := by decide +kernel
theorem dX12_copy_124 : decode cX12_copy 124 = .ok (.if_icmp .ge 30, 3) := by decide +kernel
theorem dX12_copy_127 : decode cX12_copy 127 = .ok (.aload_n 0, 1) := by decide +kernel
theorem dX12_copy_128 : decode cX12_copy 128 = .ok (.getfield 92, 3) := by decide +kernel
theorem dX12_copy_131 : decode cX12_copy 131 = .ok (.iload 6, 2) := by decide +kernel
theorem dX12_copy_133 : decode cX12_copy 133 = .ok (.aload_n 0, 1) := by decide +kernel
theorem dX12_copy_134 : decode cX12_copy 134 = .ok (.getfield 89, 3) := by decide +kernel
theorem dX12_copy_137 : decode cX12_copy 137 = .ok (.bipush 60, 2) := by decide +kernel
theorem dX12_copy_139 : decode cX12_copy 139 = .ok (.iload_n 1, 1) := by decide +kernel
theorem dX12_copy_140 : decode cX12_copy 140 = .ok (.imul, 1) := by decide +kernel
theorem dX12_copy_141 : decode cX12_copy 141 = .ok (.iload_n 2, 1) := by decide +kernel
theorem dX12_copy_142 : decode cX12_copy 142 = .ok (.iadd, 1) := by decide +kernel
theorem dX12_copy_143 : decode cX12_copy 143 = .ok (.iload 6, 2) := by decide +kernel
theorem dX12_copy_145 : decode cX12_copy 145 = .ok (.iadd, 1) := by decide +kernel
theorem dX12_copy_146 : decode cX12_copy 146 = .ok (.iaload, 1) := by decide +kernel
theorem dX12_copy_147 : decode cX12_copy 147 = .ok (.iastore, 1) := by decide +kernel
theorem dX12_copy_148 : decode cX12_copy 148 = .ok (.iinc 6 1, 3) := by decide +kernel
theorem dX12_copy_151 : decode cX12_copy 151 = .ok (.goto (-31), 3) := by decide +kernel
theorem dX12_copy_154 : decode cX12_copy 154 = .ok (.iconst 0, 1) := by decide +kernel
theorem dX12_copy_155 : decode cX12_copy 155 = .ok (.istore 6, 2) := by decide +kernel
theorem dX12_copy_157 : decode cX12_copy 157 = .ok (.iload 6, 2) := by decide +kernel
theorem dX12_copy_159 : decode cX12_copy 159 = .ok (.iload 5, 2) := by decide +kernel
theorem dX12_copy_161 : decode cX12_copy 161 = .ok (.if_icmp .ge 31, 3) := by decide +kernel
theorem dX12_copy_164 : decode cX12_copy 164 = .ok (.aload_n 0, 1) := by decide +kernel
theorem dX12_copy_165 : decode cX12_copy 165 = .ok (.getfield 89, 3) := by decide +kernel
theorem dX12_copy_168 : decode cX12_copy 168 = .ok (.bipush 60, 2) := by decide +kernel
theorem dX12_copy_170 : decode cX12_copy 170 = .ok (.iload_n 3, 1) := by decide +kernel
theorem dX12_copy_171 : decode cX12_copy 171 = .ok (.imul, 1) := by decide +kernel
theorem dX12_copy_172 : decode cX12_copy 172 = .ok (.iload 4, 2) := by decide +kernel
theorem dX12_copy_174 : decode cX12_copy 174 = .ok (.iadd, 1) := by decide +kernel
theorem dX12_copy_175 : decode cX12_copy 175 = .ok (.iload 6, 2) := by decide +kernel
theorem dX12_copy_177 : decode cX12_copy 177 = .ok (.iadd, 1) := by decide +kernel
theorem dX12_copy_178 : decode cX12_copy 178 = .ok (.aload_n 0, 1) := by decide +kernel
theorem dX12_copy_179 : decode cX12_copy 179 = .ok (.getfield 92, 3) := by decide +kernel
theorem dX12_copy_182 : decode cX12_copy 182 = .ok (.iload 6, 2) := by decide +kernel
theorem dX12_copy_184 : decode cX12_copy 184 = .ok (.iaload, 1) := by decide +kernel
theorem dX12_copy_185 : decode cX12_copy 185 = .ok (.iastore, 1) := by decide +kernel
theorem dX12_copy_186 : decode cX12_copy 186 = .ok (.iinc 6 1, 3) := by decide +kernel
theorem dX12_copy_189 : decode cX12_copy 189 = .ok (.goto (-32), 3) := by decide +kernel
theorem dX12_copy_192 : decode cX12_copy 192 = .ok (.iconst 1, 1) := by decide +kernel
theorem dX12_copy_193 : decode cX12_copy 193 = .ok (.ireturn, 1) := by decide +kernel
theorem dX12_write_0 : decode cX12_write 0 = .ok (.aload_n 0, 1) := by decide +kernel
theorem dX12_write_1 : decode cX12_write 1 = .ok (.iload_n 1, 1) := by decide +kernel
theorem dX12_write_2 : decode cX12_write 2 = .ok (.invokevirtual 142, 3) := by decide +kernel
theorem dX12_write_5 : decode cX12_write 5 = .ok (.ifCond .eq 10, 3) := by decide +kernel
theorem dX12_write_8 : decode cX12_write 8 = .ok (.iload_n 2, 1) := by decide +kernel
theorem dX12_write_9 : decode cX12_write 9 = .ok (.invokestatic 160, 3) := by decide +kernel
theorem dX12_write_12 : decode cX12_write 12 = .ok (.ifCond .ne 6, 3) := by decide +kernel
theorem dX12_write_15 : decode cX12_write 15 = .ok (.bipush (-2), 2) := by decide +kernel
theorem dX12_write_17 : decode cX12_write 17 = .ok (.ireturn, 1) := by decide +kernel
theorem dX12_write_18 : decode cX12_write 18 = .ok (.aload_n 0, 1) := by decide +kernel
theorem dX12_write_19 : decode cX12_write 19 = .ok (.getfield 79, 3) := by decide +kernel
theorem dX12_write_22 : decode cX12_write 22 = .ok (.iload_n 2, 1) := by decide +kernel
theorem dX12_write_23 : decode cX12_write 23 = .ok (.baload, 1) := by decide +kernel
theorem dX12_write_24 : decode cX12_write 24 = .ok (.ifCond .ne 9, 3) := by decide +kernel
theorem dX12_write_27 : decode cX12_write 27 = .ok (.aload_n 0, 1) := by decide +kernel
theorem dX12_write_28 : decode cX12_write 28 = .ok (.iconst 1, 1) := by decide +kernel
theorem dX12_write_29 : decode cX12_write 29 = .ok (.invokevirtual 163, 3) := by decide +kernel
theorem dX12_write_32 : decode cX12_write 32 = .ok (.ireturn, 1) := by decide +kernel
theorem dX12_write_33 : decode cX12_write 33 = .ok (.aload_n 0, 1) := by decide +kernel
theorem dX12_write_34 : decode cX12_write 34 = .ok (.iload_n 1, 1) := by decide +kernel
theorem dX12_write_35 : decode cX12_write 35 = .ok (.invokevirtual 196, 3) := by decide +kernel
theorem dX12_write_38 : decode cX12_write 38 = .ok (.iconst 0, 1) := by decide +kernel
theorem dX12_write_39 : decode cX12_write 39 = .ok (.istore_n 3, 1) := by decide +kernel
theorem dX12_write_40 : decode cX12_write 40 = .ok (.iload_n 3, 1) := by decide +kernel
theorem dX12_write_41 : decode cX12_write 41 = .ok (.aload_n 0, 1) := by decide +kernel
theorem dX12_write_42 : decode cX12_write 42 = .ok (.getfield 86, 3) := by decide +kernel
theorem dX12_write_45 : decode cX12_write 45 = .ok (.iload_n 2, 1) := by decide +kernel
theorem dX12_write_46 : decode cX12_write 46 = .ok (.iaload, 1) := by decide +kernel
theorem dX12_write_47 : decode cX12_write 47 = .ok (.if_icmp .ge 27, 3) := by decide +kernel
theorem dX12_write_50 : decode cX12_write 50 = .ok (.iload_n 3, 1) := by decide +kernel
theorem dX12_write_51 : decode cX12_write 51 = .ok (.bipush 30, 2) := by decide +kernel
theorem dX12_write_53 : decode cX12_write 53 = .ok (.if_icmp .ge 21, 3) := by decide +kernel
theorem dX12_write_56 : decode cX12_write 56 = .ok (.aload_n 0, 1) := by decide +kernel
theorem dX12_write_57 : decode cX12_write 57 = .ok (.iload_n 2, 1) := by decide +kernel
theorem dX12_write_58 : decode cX12_write 58 = .ok (.iload_n 3, 1) := by decide +kernel
theorem dX12_write_59 : decode cX12_write 59 = .ok (.aload_n 0, 1) := by decide +kernel
theorem dX12_write_60 : decode cX12_write 60 = .ok (.getfield 49, 3) := by decide +kernel
theorem dX12_write_63 : decode cX12_write 63 = .ok (.iload_n 3, 1) := by decide +kernel
theorem dX12_write_64 : decode cX12_write 64 = .ok (.iaload, 1) := by decide +kernel
theorem dX12_write_65 : decode cX12_write 65 = .ok (.invokevirtual 277, 3) := by decide +kernel
theorem dX12_write_68 : decode cX12_write 68 = .ok (.iinc 3 1, 3) := by decide +kernel
theorem dX12_write_71 : decode cX12_write 71 = .ok (.goto (-31), 3) := by decide +kernel
theorem dX12_write_74 : decode cX12_write 74 = .ok (.iload_n 3, 1) := by decide +kernel
theorem dX12_write_75 : decode cX12_write 75 = .ok (.ireturn, 1) := by decide +kernel
theorem dX12_eatenNow_0 : decode cX12_eatenNow 0 = .ok (.aload_n 0, 1) := by decide +kernel
theorem dX12_eatenNow_1 : decode cX12_eatenNow 1 = .ok (.invokevirtual 190, 3) := by decide +kernel
theorem dX12_eatenNow_4 : decode cX12_eatenNow 4 = .ok (.iconst 0, 1) := by decide +kernel
theorem dX12_eatenNow_5 : decode cX12_eatenNow 5 = .ok (.istore_n 1, 1) := by decide +kernel
theorem dX12_eatenNow_6 : decode cX12_eatenNow 6 = .ok (.iconst 0, 1) := by decide +kernel
theorem dX12_eatenNow_7 : decode cX12_eatenNow 7 = .ok (.istore_n 2, 1) := by decide +kernel
theorem dX12_eatenNow_8 : decode cX12_eatenNow 8 = .ok (.iload_n 2, 1) := by decide +kernel
theorem dX12_eatenNow_9 : decode cX12_eatenNow 9 = .ok (.aload_n 0, 1) := by decide +kernel
theorem dX12_eatenNow_10 : decode cX12_eatenNow 10 = .ok (.getfield 119, 3) := by decide +kernel
theorem dX12_eatenNow_13 : decode cX12_eatenNow 13 = .ok (.if_icmp .ge 46, 3) := by decide +kernel
theorem dX12_eatenNow_16 : decode cX12_eatenNow 16 = .ok (.aload_n 0, 1) := by decide +kernel
theorem dX12_eatenNow_17 : decode cX12_eatenNow 17 = .ok (.iload_n 2, 1) := by decide +kernel
theorem dX12_eatenNow_18 : decode cX12_eatenNow 18 = .ok (.invokevirtual 193, 3) := by decide +kernel
theorem dX12_eatenNow_21 : decode cX12_eatenNow 21 = .ok (.iconst 0, 1) := by decide +kernel
theorem dX12_eatenNow_22 : decode cX12_eatenNow 22 = .ok (.istore_n 3, 1) := by decide +kernel
theorem dX12_eatenNow_23 : decode cX12_eatenNow 23 = .ok (.iload_n 3, 1) := by decide +kernel
theorem dX12_eatenNow_24 : decode cX12_eatenNow 24 = .ok (.bipush 30, 2) := by decide +kernel
theorem dX12_eatenNow_26 : decode cX12_eatenNow 26 = .ok (.if_icmp .ge 27, 3) := by decide +kernel
theorem dX12_eatenNow_29 : decode cX12_eatenNow 29 = .ok (.iload_n 1, 1) := by decide +kernel
theorem dX12_eatenNow_30 : decode cX12_eatenNow 30 = .ok (.aload_n 0, 1) := by decide +kernel
theorem dX12_eatenNow_31 : decode cX12_eatenNow 31 = .ok (.getfield 52, 3) := by decide +kernel
theorem dX12_eatenNow_34 : decode cX12_eatenNow 34 = .ok (.iload_n 3, 1) := by decide +kernel
theorem dX12_eatenNow_35 : decode cX12_eatenNow 35 = .ok (.iaload, 1) := by decide +kernel
theorem dX12_eatenNow_36 : decode cX12_eatenNow 36 = .ok (.iconst 3, 1) := by decide +kernel
theorem dX12_eatenNow_37 : decode cX12_eatenNow 37 = .ok (.if_icmp .ne 7, 3) := by decide +kernel
theorem dX12_eatenNow_40 : decode cX12_eatenNow 40 = .ok (.iconst 1, 1) := by decide +kernel
theorem dX12_eatenNow_41 : decode cX12_eatenNow 41 = .ok (.goto 4, 3) := by decide +kernel
theorem dX12_eatenNow_44 : decode cX12_eatenNow 44 = .ok (.iconst 0, 1) := by decide +kernel
theorem dX12_eatenNow_45 : decode cX12_eatenNow 45 = .ok (.iadd, 1) := by decide +kernel
theorem dX12_eatenNow_46 : decode cX12_eatenNow 46 = .ok (.istore_n 1, 1) := by decide +kernel
theorem dX12_eatenNow_47 : decode cX12_eatenNow 47 = .ok (.iinc 3 1, 3) := by decide +kernel
theorem dX12_eatenNow_50 : decode cX12_eatenNow 50 = .ok (.goto (-27), 3) := by decide +kernel
theorem dX12_eatenNow_53 : decode cX12_eatenNow 53 = .ok (.iinc 2 1, 3) := by decide +kernel
theorem dX12_eatenNow_56 : decode cX12_eatenNow 56 = .ok (.goto (-48), 3) := by decide +kernel
theorem dX12_eatenNow_59 : decode cX12_eatenNow 59 = .ok (.iload_n 1, 1) := by decide +kernel
theorem dX12_eatenNow_60 : decode cX12_eatenNow 60 = .ok (.ireturn, 1) := by decide +kernel
theorem dX12_sumOf_0 : decode cX12_sumOf 0 = .ok (.aload_n 0, 1) := by decide +kernel
theorem dX12_sumOf_1 : decode cX12_sumOf 1 = .ok (.invokevirtual 282, 3) := by decide +kernel
theorem dX12_sumOf_4 : decode cX12_sumOf 4 = .ok (.istore_n 2, 1) := by decide +kernel
theorem dX12_sumOf_5 : decode cX12_sumOf 5 = .ok (.iload_n 1, 1) := by decide +kernel
theorem dX12_sumOf_6 : decode cX12_sumOf 6 = .ok (.ifCond .ne 10, 3) := by decide +kernel
theorem dX12_sumOf_9 : decode cX12_sumOf 9 = .ok (.aload_n 0, 1) := by decide +kernel
theorem dX12_sumOf_10 : decode cX12_sumOf 10 = .ok (.getfield 119, 3) := by decide +kernel
theorem dX12_sumOf_13 : decode cX12_sumOf 13 = .ok (.goto 16, 3) := by decide +kernel
theorem dX12_sumOf_16 : decode cX12_sumOf 16 = .ok (.iload_n 1, 1) := by decide +kernel
theorem dX12_sumOf_17 : decode cX12_sumOf 17 = .ok (.iconst 1, 1) := by decide +kernel
theorem dX12_sumOf_18 : decode cX12_sumOf 18 = .ok (.if_icmp .ne 10, 3) := by decide +kernel
theorem dX12_sumOf_21 : decode cX12_sumOf 21 = .ok (.aload_n 0, 1) := by decide +kernel
theorem dX12_sumOf_22 : decode cX12_sumOf 22 = .ok (.getfield 126, 3) := by decide +kernel
theorem dX12_sumOf_25 : decode cX12_sumOf 25 = .ok (.goto 4, 3) := by decide +kernel
theorem dX12_sumOf_28 : decode cX12_sumOf 28 = .ok (.iload_n 2, 1) := by decide +kernel
theorem dX12_sumOf_29 : decode cX12_sumOf 29 = .ok (.ireturn, 1) := by decide +kernel
theorem dX12_count_0 : decode cX12_count 0 = .ok (.iload_n 1, 1) := by decide +kernel
theorem dX12_count_1 : decode cX12_count 1 = .ok (.tableswitch 86 0 8 #[51, 51, 57, 57, 66, 71, 51, 76, 81], 51) := by decide +kernel
theorem dX12_count_52 : decode cX12_count 52 = .ok (.aload_n 0, 1) := by decide +kernel
theorem dX12_count_53 : decode cX12_count 53 = .ok (.iload_n 1, 1) := by decide +kernel
theorem dX12_count_54 : decode cX12_count 54 = .ok (.invokevirtual 285, 3) := by decide +kernel
theorem dX12_count_57 : decode cX12_count 57 = .ok (.ireturn, 1) := by decide +kernel
theorem dX12_count_58 : decode cX12_count 58 = .ok (.aload_n 0, 1) := by decide +kernel
theorem dX12_count_59 : decode cX12_count 59 = .ok (.getfield 7, 3) := by decide +kernel
theorem dX12_count_62 : decode cX12_count 62 = .ok (.iload_n 1, 1) := by decide +kernel
theorem dX12_count_63 : decode cX12_count 63 = .ok (.iconst 2, 1) := by decide +kernel
theorem dX12_count_64 : decode cX12_count 64 = .ok (.isub, 1) := by decide +kernel
theorem dX12_count_65 : decode cX12_count 65 = .ok (.iaload, 1) := by decide +kernel
theorem dX12_count_66 : decode cX12_count 66 = .ok (.ireturn, 1) := by decide +kernel
theorem dX12_count_67 : decode cX12_count 67 = .ok (.aload_n 0, 1) := by decide +kernel
theorem dX12_count_68 : decode cX12_count 68 = .ok (.getfield 154, 3) := by decide +kernel
theorem dX12_count_71 : decode cX12_count 71 = .ok (.ireturn, 1) := by decide +kernel
theorem dX12_count_72 : decode cX12_count 72 = .ok (.aload_n 0, 1) := by decide +kernel
theorem dX12_count_73 : decode cX12_count 73 = .ok (.getfield 157, 3) := by decide +kernel
theorem dX12_count_76 : decode cX12_count 76 = .ok (.ireturn, 1) := by decide +kernel
theorem dX12_count_77 : decode cX12_count 77 = .ok (.aload_n 0, 1) := by decide +kernel
theorem dX12_count_78 : decode cX12_count 78 = .ok (.getfield 237, 3) := by decide +kernel
theorem dX12_count_81 : decode cX12_count 81 = .ok (.ireturn, 1) := by decide +kernel
theorem dX12_count_82 : decode cX12_count 82 = .ok (.aload_n 0, 1) := by decide +kernel
theorem dX12_count_83 : decode cX12_count 83 = .ok (.getfield 271, 3) := by decide +kernel
theorem dX12_count_86 : decode cX12_count 86 = .ok (.ireturn, 1) := by decide +kernel
theorem dX12_count_87 : decode cX12_count 87 = .ok (.bipush (-2), 2) := by decide +kernel
theorem dX12_count_89 : decode cX12_count 89 = .ok (.ireturn, 1) := by decide +kernel
theorem dX12_nightDigest_0 : decode cX12_nightDigest 0 = .ok (.lload_n 1, 1) := by decide +kernel
theorem dX12_nightDigest_1 : decode cX12_nightDigest 1 = .ok (.lstore 5, 2) := by decide +kernel
theorem dX12_nightDigest_3 : decode cX12_nightDigest 3 = .ok (.iconst 0, 1) := by decide +kernel
theorem dX12_nightDigest_4 : decode cX12_nightDigest 4 = .ok (.istore 7, 2) := by decide +kernel
theorem dX12_nightDigest_6 : decode cX12_nightDigest 6 = .ok (.iload 7, 2) := by decide +kernel
theorem dX12_nightDigest_8 : decode cX12_nightDigest 8 = .ok (.iconst 3, 1) := by decide +kernel
theorem dX12_nightDigest_9 : decode cX12_nightDigest 9 = .ok (.if_icmp .ge 28, 3) := by decide +kernel
theorem dX12_nightDigest_12 : decode cX12_nightDigest 12 = .ok (.ldc2_w 288, 3) := by decide +kernel
theorem dX12_nightDigest_15 : decode cX12_nightDigest 15 = .ok (.lload 5, 2) := by decide +kernel
theorem dX12_nightDigest_17 : decode cX12_nightDigest 17 = .ok (.lmul, 1) := by decide +kernel
theorem dX12_nightDigest_18 : decode cX12_nightDigest 18 = .ok (.aload_n 0, 1) := by decide +kernel
theorem dX12_nightDigest_19 : decode cX12_nightDigest 19 = .ok (.iload_n 3, 1) := by decide +kernel
theorem dX12_nightDigest_20 : decode cX12_nightDigest 20 = .ok (.iload 4, 2) := by decide +kernel
theorem dX12_nightDigest_22 : decode cX12_nightDigest 22 = .ok (.iload 7, 2) := by decide +kernel
theorem dX12_nightDigest_24 : decode cX12_nightDigest 24 = .ok (.invokevirtual 199, 3) := by decide +kernel
theorem dX12_nightDigest_27 : decode cX12_nightDigest 27 = .ok (.i2l, 1) := by decide +kernel
theorem dX12_nightDigest_28 : decode cX12_nightDigest 28 = .ok (.ladd, 1) := by decide +kernel
theorem dX12_nightDigest_29 : decode cX12_nightDigest 29 = .ok (.lstore 5, 2) := by decide +kernel
theorem dX12_nightDigest_31 : decode cX12_nightDigest 31 = .ok (.iinc 7 1, 3) := by decide +kernel
theorem dX12_nightDigest_34 : decode cX12_nightDigest 34 = .ok (.goto (-28), 3) := by decide +kernel
theorem dX12_nightDigest_37 : decode cX12_nightDigest 37 = .ok (.lload 5, 2) := by decide +kernel
theorem dX12_nightDigest_39 : decode cX12_nightDigest 39 = .ok (.lreturn, 1) := by decide +kernel
theorem dX12_wheelDigest_0 : decode cX12_wheelDigest 0 = .ok (.lload_n 1, 1) := by decide +kernel
theorem dX12_wheelDigest_1 : decode cX12_wheelDigest 1 = .ok (.lstore 4, 2) := by decide +kernel
theorem dX12_wheelDigest_3 : decode cX12_wheelDigest 3 = .ok (.iconst 0, 1) := by decide +kernel
theorem dX12_wheelDigest_4 : decode cX12_wheelDigest 4 = .ok (.istore 6, 2) := by decide +kernel
theorem dX12_wheelDigest_6 : decode cX12_wheelDigest 6 = .ok (.iload 6, 2) := by decide +kernel
theorem dX12_wheelDigest_8 : decode cX12_wheelDigest 8 = .ok (.bipush 8, 2) := by decide +kernel
theorem dX12_wheelDigest_10 : decode cX12_wheelDigest 10 = .ok (.if_icmp .ge 26, 3) := by decide +kernel
theorem dX12_wheelDigest_13 : decode cX12_wheelDigest 13 = .ok (.ldc2_w 288, 3) := by decide +kernel
theorem dX12_wheelDigest_16 : decode cX12_wheelDigest 16 = .ok (.lload 4, 2) := by decide +kernel
theorem dX12_wheelDigest_18 : decode cX12_wheelDigest 18 = .ok (.lmul, 1) := by decide +kernel
theorem dX12_wheelDigest_19 : decode cX12_wheelDigest 19 = .ok (.aload_n 0, 1) := by decide +kernel
theorem dX12_wheelDigest_20 : decode cX12_wheelDigest 20 = .ok (.iload_n 3, 1) := by decide +kernel
theorem dX12_wheelDigest_21 : decode cX12_wheelDigest 21 = .ok (.iload 6, 2) := by decide +kernel
theorem dX12_wheelDigest_23 : decode cX12_wheelDigest 23 = .ok (.invokevirtual 145, 3) := by decide +kernel
theorem dX12_wheelDigest_26 : decode cX12_wheelDigest 26 = .ok (.i2l, 1) := by decide +kernel
theorem dX12_wheelDigest_27 : decode cX12_wheelDigest 27 = .ok (.ladd, 1) := by decide +kernel
theorem dX12_wheelDigest_28 : decode cX12_wheelDigest 28 = .ok (.lstore 4, 2) := by decide +kernel
theorem dX12_wheelDigest_30 : decode cX12_wheelDigest 30 = .ok (.iinc 6 1, 3) := by decide +kernel
theorem dX12_wheelDigest_33 : decode cX12_wheelDigest 33 = .ok (.goto (-27), 3) := by decide +kernel
theorem dX12_wheelDigest_36 : decode cX12_wheelDigest 36 = .ok (.aload_n 0, 1) := by decide +kernel
theorem dX12_wheelDigest_37 : decode cX12_wheelDigest 37 = .ok (.lload 4, 2) := by decide +kernel
theorem dX12_wheelDigest_39 : decode cX12_wheelDigest 39 = .ok (.iconst 0, 1) := by decide +kernel
theorem dX12_wheelDigest_40 : decode cX12_wheelDigest 40 = .ok (.iload_n 3, 1) := by decide +kernel
theorem dX12_wheelDigest_41 : decode cX12_wheelDigest 41 = .ok (.invokevirtual 290, 3) := by decide +kernel
theorem dX12_wheelDigest_44 : decode cX12_wheelDigest 44 = .ok (.lstore 4, 2) := by decide +kernel
theorem dX12_wheelDigest_46 : decode cX12_wheelDigest 46 = .ok (.aload_n 0, 1) := by decide +kernel
theorem dX12_wheelDigest_47 : decode cX12_wheelDigest 47 = .ok (.lload 4, 2) := by decide +kernel
theorem dX12_wheelDigest_49 : decode cX12_wheelDigest 49 = .ok (.iconst 5, 1) := by decide +kernel
theorem dX12_wheelDigest_50 : decode cX12_wheelDigest 50 = .ok (.iload_n 3, 1) := by decide +kernel
theorem dX12_wheelDigest_51 : decode cX12_wheelDigest 51 = .ok (.invokevirtual 290, 3) := by decide +kernel
theorem dX12_wheelDigest_54 : decode cX12_wheelDigest 54 = .ok (.lstore 4, 2) := by decide +kernel
theorem dX12_wheelDigest_56 : decode cX12_wheelDigest 56 = .ok (.aload_n 0, 1) := by decide +kernel
theorem dX12_wheelDigest_57 : decode cX12_wheelDigest 57 = .ok (.lload 4, 2) := by decide +kernel
theorem dX12_wheelDigest_59 : decode cX12_wheelDigest 59 = .ok (.bipush 12, 2) := by decide +kernel
theorem dX12_wheelDigest_61 : decode cX12_wheelDigest 61 = .ok (.iload_n 3, 1) := by decide +kernel
theorem dX12_wheelDigest_62 : decode cX12_wheelDigest 62 = .ok (.invokevirtual 290, 3) := by decide +kernel
theorem dX12_wheelDigest_65 : decode cX12_wheelDigest 65 = .ok (.lstore 4, 2) := by decide +kernel
theorem dX12_wheelDigest_67 : decode cX12_wheelDigest 67 = .ok (.aload_n 0, 1) := by decide +kernel
theorem dX12_wheelDigest_68 : decode cX12_wheelDigest 68 = .ok (.lload 4, 2) := by decide +kernel
theorem dX12_wheelDigest_70 : decode cX12_wheelDigest 70 = .ok (.bipush 29, 2) := by decide +kernel
theorem dX12_wheelDigest_72 : decode cX12_wheelDigest 72 = .ok (.iload_n 3, 1) := by decide +kernel
theorem dX12_wheelDigest_73 : decode cX12_wheelDigest 73 = .ok (.invokevirtual 290, 3) := by decide +kernel
theorem dX12_wheelDigest_76 : decode cX12_wheelDigest 76 = .ok (.lstore 4, 2) := by decide +kernel
theorem dX12_wheelDigest_78 : decode cX12_wheelDigest 78 = .ok (.ldc2_w 288, 3) := by decide +kernel
theorem dX12_wheelDigest_81 : decode cX12_wheelDigest 81 = .ok (.lload 4, 2) := by decide +kernel
theorem dX12_wheelDigest_83 : decode cX12_wheelDigest 83 = .ok (.lmul, 1) := by decide +kernel
theorem dX12_wheelDigest_84 : decode cX12_wheelDigest 84 = .ok (.aload_n 0, 1) := by decide +kernel
theorem dX12_wheelDigest_85 : decode cX12_wheelDigest 85 = .ok (.iload_n 3, 1) := by decide +kernel
theorem dX12_wheelDigest_86 : decode cX12_wheelDigest 86 = .ok (.invokevirtual 206, 3) := by decide +kernel
theorem dX12_wheelDigest_89 : decode cX12_wheelDigest 89 = .ok (.i2l, 1) := by decide +kernel
theorem dX12_wheelDigest_90 : decode cX12_wheelDigest 90 = .ok (.ladd, 1) := by decide +kernel
theorem dX12_wheelDigest_91 : decode cX12_wheelDigest 91 = .ok (.lstore 4, 2) := by decide +kernel
theorem dX12_wheelDigest_93 : decode cX12_wheelDigest 93 = .ok (.aload_n 0, 1) := by decide +kernel
theorem dX12_wheelDigest_94 : decode cX12_wheelDigest 94 = .ok (.iload_n 3, 1) := by decide +kernel
theorem dX12_wheelDigest_95 : decode cX12_wheelDigest 95 = .ok (.bipush 12, 2) := by decide +kernel
theorem dX12_wheelDigest_97 : decode cX12_wheelDigest 97 = .ok (.invokevirtual 222, 3) := by decide +kernel
theorem dX12_wheelDigest_100 : decode cX12_wheelDigest 100 = .ok (.istore 6, 2) := by decide +kernel
theorem dX12_wheelDigest_102 : decode cX12_wheelDigest 102 = .ok (.ldc2_w 288, 3) := by decide +kernel
theorem dX12_wheelDigest_105 : decode cX12_wheelDigest 105 = .ok (.lload 4, 2) := by decide +kernel
theorem dX12_wheelDigest_107 : decode cX12_wheelDigest 107 = .ok (.lmul, 1) := by decide +kernel
theorem dX12_wheelDigest_108 : decode cX12_wheelDigest 108 = .ok (.iload 6, 2) := by decide +kernel
theorem dX12_wheelDigest_110 : decode cX12_wheelDigest 110 = .ok (.i2l, 1) := by decide +kernel
theorem dX12_wheelDigest_111 : decode cX12_wheelDigest 111 = .ok (.ladd, 1) := by decide +kernel
theorem dX12_wheelDigest_112 : decode cX12_wheelDigest 112 = .ok (.lstore 4, 2) := by decide +kernel
theorem dX12_wheelDigest_114 : decode cX12_wheelDigest 114 = .ok (.ldc2_w 288, 3) := by decide +kernel
theorem dX12_wheelDigest_117 : decode cX12_wheelDigest 117 = .ok (.lload 4, 2) := by decide +kernel
theorem dX12_wheelDigest_119 : decode cX12_wheelDigest 119 = .ok (.lmul, 1) := by decide +kernel
theorem dX12_wheelDigest_120 : decode cX12_wheelDigest 120 = .ok (.aload_n 0, 1) := by decide +kernel
theorem dX12_wheelDigest_121 : decode cX12_wheelDigest 121 = .ok (.iload 6, 2) := by decide +kernel
theorem dX12_wheelDigest_123 : decode cX12_wheelDigest 123 = .ok (.iconst 0, 1) := by decide +kernel
theorem dX12_wheelDigest_124 : decode cX12_wheelDigest 124 = .ok (.invokevirtual 225, 3) := by decide +kernel
theorem dX12_wheelDigest_127 : decode cX12_wheelDigest 127 = .ok (.i2l, 1) := by decide +kernel
theorem dX12_wheelDigest_128 : decode cX12_wheelDigest 128 = .ok (.ladd, 1) := by decide +kernel
theorem dX12_wheelDigest_129 : decode cX12_wheelDigest 129 = .ok (.lstore 4, 2) := by decide +kernel
theorem dX12_wheelDigest_131 : decode cX12_wheelDigest 131 = .ok (.ldc2_w 288, 3) := by decide +kernel
theorem dX12_wheelDigest_134 : decode cX12_wheelDigest 134 = .ok (.lload 4, 2) := by decide +kernel
theorem dX12_wheelDigest_136 : decode cX12_wheelDigest 136 = .ok (.lmul, 1) := by decide +kernel
theorem dX12_wheelDigest_137 : decode cX12_wheelDigest 137 = .ok (.aload_n 0, 1) := by decide +kernel
theorem dX12_wheelDigest_138 : decode cX12_wheelDigest 138 = .ok (.iload_n 3, 1) := by decide +kernel
theorem dX12_wheelDigest_139 : decode cX12_wheelDigest 139 = .ok (.iconst 0, 1) := by decide +kernel
theorem dX12_wheelDigest_140 : decode cX12_wheelDigest 140 = .ok (.invokevirtual 228, 3) := by decide +kernel
theorem dX12_wheelDigest_143 : decode cX12_wheelDigest 143 = .ok (.i2l, 1) := by decide +kernel
theorem dX12_wheelDigest_144 : decode cX12_wheelDigest 144 = .ok (.ladd, 1) := by decide +kernel
theorem dX12_wheelDigest_145 : decode cX12_wheelDigest 145 = .ok (.lstore 4, 2) := by decide +kernel
theorem dX12_wheelDigest_147 : decode cX12_wheelDigest 147 = .ok (.ldc2_w 288, 3) := by decide +kernel
theorem dX12_wheelDigest_150 : decode cX12_wheelDigest 150 = .ok (.lload 4, 2) := by decide +kernel
theorem dX12_wheelDigest_152 : decode cX12_wheelDigest 152 = .ok (.lmul, 1) := by decide +kernel
theorem dX12_wheelDigest_153 : decode cX12_wheelDigest 153 = .ok (.aload_n 0, 1) := by decide +kernel
theorem dX12_wheelDigest_154 : decode cX12_wheelDigest 154 = .ok (.iload_n 3, 1) := by decide +kernel
theorem dX12_wheelDigest_155 : decode cX12_wheelDigest 155 = .ok (.iconst 1, 1) := by decide +kernel
theorem dX12_wheelDigest_156 : decode cX12_wheelDigest 156 = .ok (.invokevirtual 228, 3) := by decide +kernel
theorem dX12_wheelDigest_159 : decode cX12_wheelDigest 159 = .ok (.i2l, 1) := by decide +kernel
theorem dX12_wheelDigest_160 : decode cX12_wheelDigest 160 = .ok (.ladd, 1) := by decide +kernel
theorem dX12_wheelDigest_161 : decode cX12_wheelDigest 161 = .ok (.lstore 4, 2) := by decide +kernel
theorem dX12_wheelDigest_163 : decode cX12_wheelDigest 163 = .ok (.ldc2_w 288, 3) := by decide +kernel
theorem dX12_wheelDigest_166 : decode cX12_wheelDigest 166 = .ok (.lload 4, 2) := by decide +kernel
theorem dX12_wheelDigest_168 : decode cX12_wheelDigest 168 = .ok (.lmul, 1) := by decide +kernel
theorem dX12_wheelDigest_169 : decode cX12_wheelDigest 169 = .ok (.aload_n 0, 1) := by decide +kernel
theorem dX12_wheelDigest_170 : decode cX12_wheelDigest 170 = .ok (.iload_n 3, 1) := by decide +kernel
theorem dX12_wheelDigest_171 : decode cX12_wheelDigest 171 = .ok (.iconst 0, 1) := by decide +kernel
theorem dX12_wheelDigest_172 : decode cX12_wheelDigest 172 = .ok (.invokevirtual 231, 3) := by decide +kernel
theorem dX12_wheelDigest_175 : decode cX12_wheelDigest 175 = .ok (.i2l, 1) := by decide +kernel
theorem dX12_wheelDigest_176 : decode cX12_wheelDigest 176 = .ok (.ladd, 1) := by decide +kernel
theorem dX12_wheelDigest_177 : decode cX12_wheelDigest 177 = .ok (.lstore 4, 2) := by decide +kernel
theorem dX12_wheelDigest_179 : decode cX12_wheelDigest 179 = .ok (.ldc2_w 288, 3) := by decide +kernel
theorem dX12_wheelDigest_182 : decode cX12_wheelDigest 182 = .ok (.lload 4, 2) := by decide +kernel
theorem dX12_wheelDigest_184 : decode cX12_wheelDigest 184 = .ok (.lmul, 1) := by decide +kernel
theorem dX12_wheelDigest_185 : decode cX12_wheelDigest 185 = .ok (.aload_n 0, 1) := by decide +kernel
theorem dX12_wheelDigest_186 : decode cX12_wheelDigest 186 = .ok (.iload_n 3, 1) := by decide +kernel
theorem dX12_wheelDigest_187 : decode cX12_wheelDigest 187 = .ok (.iconst 1, 1) := by decide +kernel
theorem dX12_wheelDigest_188 : decode cX12_wheelDigest 188 = .ok (.invokevirtual 231, 3) := by decide +kernel
theorem dX12_wheelDigest_191 : decode cX12_wheelDigest 191 = .ok (.i2l, 1) := by decide +kernel
theorem dX12_wheelDigest_192 : decode cX12_wheelDigest 192 = .ok (.ladd, 1) := by decide +kernel
theorem dX12_wheelDigest_193 : decode cX12_wheelDigest 193 = .ok (.lstore 4, 2) := by decide +kernel
theorem dX12_wheelDigest_195 : decode cX12_wheelDigest 195 = .ok (.ldc2_w 288, 3) := by decide +kernel
theorem dX12_wheelDigest_198 : decode cX12_wheelDigest 198 = .ok (.lload 4, 2) := by decide +kernel
theorem dX12_wheelDigest_200 : decode cX12_wheelDigest 200 = .ok (.lmul, 1) := by decide +kernel
theorem dX12_wheelDigest_201 : decode cX12_wheelDigest 201 = .ok (.aload_n 0, 1) := by decide +kernel
theorem dX12_wheelDigest_202 : decode cX12_wheelDigest 202 = .ok (.iload_n 3, 1) := by decide +kernel
theorem dX12_wheelDigest_203 : decode cX12_wheelDigest 203 = .ok (.invokevirtual 246, 3) := by decide +kernel
theorem dX12_wheelDigest_206 : decode cX12_wheelDigest 206 = .ok (.i2l, 1) := by decide +kernel
theorem dX12_wheelDigest_207 : decode cX12_wheelDigest 207 = .ok (.ladd, 1) := by decide +kernel
theorem dX12_wheelDigest_208 : decode cX12_wheelDigest 208 = .ok (.lstore 4, 2) := by decide +kernel
theorem dX12_wheelDigest_210 : decode cX12_wheelDigest 210 = .ok (.ldc2_w 288, 3) := by decide +kernel
theorem dX12_wheelDigest_213 : decode cX12_wheelDigest 213 = .ok (.lload 4, 2) := by decide +kernel
theorem dX12_wheelDigest_215 : decode cX12_wheelDigest 215 = .ok (.lmul, 1) := by decide +kernel
theorem dX12_wheelDigest_216 : decode cX12_wheelDigest 216 = .ok (.aload_n 0, 1) := by decide +kernel
theorem dX12_wheelDigest_217 : decode cX12_wheelDigest 217 = .ok (.iload_n 3, 1) := by decide +kernel
theorem dX12_wheelDigest_218 : decode cX12_wheelDigest 218 = .ok (.invokevirtual 249, 3) := by decide +kernel
theorem dX12_wheelDigest_221 : decode cX12_wheelDigest 221 = .ok (.i2l, 1) := by decide +kernel
theorem dX12_wheelDigest_222 : decode cX12_wheelDigest 222 = .ok (.ladd, 1) := by decide +kernel
theorem dX12_wheelDigest_223 : decode cX12_wheelDigest 223 = .ok (.lstore 4, 2) := by decide +kernel
theorem dX12_wheelDigest_225 : decode cX12_wheelDigest 225 = .ok (.ldc2_w 288, 3) := by decide +kernel
theorem dX12_wheelDigest_228 : decode cX12_wheelDigest 228 = .ok (.lload 4, 2) := by decide +kernel
theorem dX12_wheelDigest_230 : decode cX12_wheelDigest 230 = .ok (.lmul, 1) := by decide +kernel
theorem dX12_wheelDigest_231 : decode cX12_wheelDigest 231 = .ok (.aload_n 0, 1) := by decide +kernel
theorem dX12_wheelDigest_232 : decode cX12_wheelDigest 232 = .ok (.iload_n 3, 1) := by decide +kernel
theorem dX12_wheelDigest_233 : decode cX12_wheelDigest 233 = .ok (.invokevirtual 252, 3) := by decide +kernel
theorem dX12_wheelDigest_236 : decode cX12_wheelDigest 236 = .ok (.i2l, 1) := by decide +kernel
theorem dX12_wheelDigest_237 : decode cX12_wheelDigest 237 = .ok (.ladd, 1) := by decide +kernel
theorem dX12_wheelDigest_238 : decode cX12_wheelDigest 238 = .ok (.lstore 4, 2) := by decide +kernel
theorem dX12_wheelDigest_240 : decode cX12_wheelDigest 240 = .ok (.ldc2_w 288, 3) := by decide +kernel
theorem dX12_wheelDigest_243 : decode cX12_wheelDigest 243 = .ok (.lload 4, 2) := by decide +kernel
theorem dX12_wheelDigest_245 : decode cX12_wheelDigest 245 = .ok (.lmul, 1) := by decide +kernel
theorem dX12_wheelDigest_246 : decode cX12_wheelDigest 246 = .ok (.aload_n 0, 1) := by decide +kernel
theorem dX12_wheelDigest_247 : decode cX12_wheelDigest 247 = .ok (.iconst 5, 1) := by decide +kernel
theorem dX12_wheelDigest_248 : decode cX12_wheelDigest 248 = .ok (.iconst 5, 1) := by decide +kernel
theorem dX12_wheelDigest_249 : decode cX12_wheelDigest 249 = .ok (.iload_n 3, 1) := by decide +kernel
theorem dX12_wheelDigest_250 : decode cX12_wheelDigest 250 = .ok (.bipush 12, 2) := by decide +kernel
theorem dX12_wheelDigest_252 : decode cX12_wheelDigest 252 = .ok (.iconst 0, 1) := by decide +kernel
theorem dX12_wheelDigest_253 : decode cX12_wheelDigest 253 = .ok (.invokevirtual 259, 3) := by decide +kernel
theorem dX12_wheelDigest_256 : decode cX12_wheelDigest 256 = .ok (.ladd, 1) := by decide +kernel
theorem dX12_wheelDigest_257 : decode cX12_wheelDigest 257 = .ok (.lstore 4, 2) := by decide +kernel
theorem dX12_wheelDigest_259 : decode cX12_wheelDigest 259 = .ok (.ldc2_w 288, 3) := by decide +kernel
theorem dX12_wheelDigest_262 : decode cX12_wheelDigest 262 = .ok (.lload 4, 2) := by decide +kernel
theorem dX12_wheelDigest_264 : decode cX12_wheelDigest 264 = .ok (.lmul, 1) := by decide +kernel
theorem dX12_wheelDigest_265 : decode cX12_wheelDigest 265 = .ok (.aload_n 0, 1) := by decide +kernel
theorem dX12_wheelDigest_266 : decode cX12_wheelDigest 266 = .ok (.iconst 5, 1) := by decide +kernel
theorem dX12_wheelDigest_267 : decode cX12_wheelDigest 267 = .ok (.iconst 5, 1) := by decide +kernel
theorem dX12_wheelDigest_268 : decode cX12_wheelDigest 268 = .ok (.iload_n 3, 1) := by decide +kernel
theorem dX12_wheelDigest_269 : decode cX12_wheelDigest 269 = .ok (.bipush 12, 2) := by decide +kernel
theorem dX12_wheelDigest_271 : decode cX12_wheelDigest 271 = .ok (.iconst 1, 1) := by decide +kernel
theorem dX12_wheelDigest_272 : decode cX12_wheelDigest 272 = .ok (.invokevirtual 259, 3) := by decide +kernel
theorem dX12_wheelDigest_275 : decode cX12_wheelDigest 275 = .ok (.ladd, 1) := by decide +kernel
theorem dX12_wheelDigest_276 : decode cX12_wheelDigest 276 = .ok (.lreturn, 1) := by decide +kernel
theorem dX12_digest_0 : decode cX12_digest 0 = .ok (.ldc2_w 294, 3) := by decide +kernel
theorem dX12_digest_3 : decode cX12_digest 3 = .ok (.lstore_n 1, 1) := by decide +kernel
theorem dX12_digest_4 : decode cX12_digest 4 = .ok (.iconst 0, 1) := by decide +kernel
theorem dX12_digest_5 : decode cX12_digest 5 = .ok (.istore_n 3, 1) := by decide +kernel
theorem dX12_digest_6 : decode cX12_digest 6 = .ok (.iload_n 3, 1) := by decide +kernel
theorem dX12_digest_7 : decode cX12_digest 7 = .ok (.bipush 8, 2) := by decide +kernel
theorem dX12_digest_9 : decode cX12_digest 9 = .ok (.if_icmp .ge 22, 3) := by decide +kernel
theorem dX12_digest_12 : decode cX12_digest 12 = .ok (.ldc2_w 288, 3) := by decide +kernel
theorem dX12_digest_15 : decode cX12_digest 15 = .ok (.lload_n 1, 1) := by decide +kernel
theorem dX12_digest_16 : decode cX12_digest 16 = .ok (.lmul, 1) := by decide +kernel
theorem dX12_digest_17 : decode cX12_digest 17 = .ok (.aload_n 0, 1) := by decide +kernel
theorem dX12_digest_18 : decode cX12_digest 18 = .ok (.iload_n 3, 1) := by decide +kernel
theorem dX12_digest_19 : decode cX12_digest 19 = .ok (.invokevirtual 296, 3) := by decide +kernel
theorem dX12_digest_22 : decode cX12_digest 22 = .ok (.i2l, 1) := by decide +kernel
theorem dX12_digest_23 : decode cX12_digest 23 = .ok (.ladd, 1) := by decide +kernel
theorem dX12_digest_24 : decode cX12_digest 24 = .ok (.lstore_n 1, 1) := by decide +kernel
theorem dX12_digest_25 : decode cX12_digest 25 = .ok (.iinc 3 1, 3) := by decide +kernel
theorem dX12_digest_28 : decode cX12_digest 28 = .ok (.goto (-22), 3) := by decide +kernel
theorem dX12_digest_31 : decode cX12_digest 31 = .ok (.ldc2_w 288, 3) := by decide +kernel
theorem dX12_digest_34 : decode cX12_digest 34 = .ok (.lload_n 1, 1) := by decide +kernel
theorem dX12_digest_35 : decode cX12_digest 35 = .ok (.lmul, 1) := by decide +kernel
theorem dX12_digest_36 : decode cX12_digest 36 = .ok (.aload_n 0, 1) := by decide +kernel
theorem dX12_digest_37 : decode cX12_digest 37 = .ok (.iconst 0, 1) := by decide +kernel
theorem dX12_digest_38 : decode cX12_digest 38 = .ok (.invokevirtual 136, 3) := by decide +kernel
theorem dX12_digest_41 : decode cX12_digest 41 = .ok (.i2l, 1) := by decide +kernel
theorem dX12_digest_42 : decode cX12_digest 42 = .ok (.ladd, 1) := by decide +kernel
theorem dX12_digest_43 : decode cX12_digest 43 = .ok (.lstore_n 1, 1) := by decide +kernel
theorem dX12_digest_44 : decode cX12_digest 44 = .ok (.ldc2_w 288, 3) := by decide +kernel
theorem dX12_digest_47 : decode cX12_digest 47 = .ok (.lload_n 1, 1) := by decide +kernel
theorem dX12_digest_48 : decode cX12_digest 48 = .ok (.lmul, 1) := by decide +kernel
theorem dX12_digest_49 : decode cX12_digest 49 = .ok (.aload_n 0, 1) := by decide +kernel
theorem dX12_digest_50 : decode cX12_digest 50 = .ok (.iconst 1, 1) := by decide +kernel
theorem dX12_digest_51 : decode cX12_digest 51 = .ok (.invokevirtual 136, 3) := by decide +kernel
theorem dX12_digest_54 : decode cX12_digest 54 = .ok (.i2l, 1) := by decide +kernel
theorem dX12_digest_55 : decode cX12_digest 55 = .ok (.ladd, 1) := by decide +kernel
theorem dX12_digest_56 : decode cX12_digest 56 = .ok (.lstore_n 1, 1) := by decide +kernel
theorem dX12_digest_57 : decode cX12_digest 57 = .ok (.ldc2_w 288, 3) := by decide +kernel
theorem dX12_digest_60 : decode cX12_digest 60 = .ok (.lload_n 1, 1) := by decide +kernel
theorem dX12_digest_61 : decode cX12_digest 61 = .ok (.lmul, 1) := by decide +kernel
theorem dX12_digest_62 : decode cX12_digest 62 = .ok (.aload_n 0, 1) := by decide +kernel
theorem dX12_digest_63 : decode cX12_digest 63 = .ok (.iconst 0, 1) := by decide +kernel
theorem dX12_digest_64 : decode cX12_digest 64 = .ok (.invokevirtual 151, 3) := by decide +kernel
theorem dX12_digest_67 : decode cX12_digest 67 = .ok (.i2l, 1) := by decide +kernel
theorem dX12_digest_68 : decode cX12_digest 68 = .ok (.ladd, 1) := by decide +kernel
theorem dX12_digest_69 : decode cX12_digest 69 = .ok (.lstore_n 1, 1) := by decide +kernel
theorem dX12_digest_70 : decode cX12_digest 70 = .ok (.ldc2_w 288, 3) := by decide +kernel
theorem dX12_digest_73 : decode cX12_digest 73 = .ok (.lload_n 1, 1) := by decide +kernel
theorem dX12_digest_74 : decode cX12_digest 74 = .ok (.lmul, 1) := by decide +kernel
theorem dX12_digest_75 : decode cX12_digest 75 = .ok (.aload_n 0, 1) := by decide +kernel
theorem dX12_digest_76 : decode cX12_digest 76 = .ok (.bipush 9, 2) := by decide +kernel
theorem dX12_digest_78 : decode cX12_digest 78 = .ok (.invokevirtual 151, 3) := by decide +kernel
theorem dX12_digest_81 : decode cX12_digest 81 = .ok (.i2l, 1) := by decide +kernel
theorem dX12_digest_82 : decode cX12_digest 82 = .ok (.ladd, 1) := by decide +kernel
theorem dX12_digest_83 : decode cX12_digest 83 = .ok (.lstore_n 1, 1) := by decide +kernel
theorem dX12_digest_84 : decode cX12_digest 84 = .ok (.ldc2_w 288, 3) := by decide +kernel
theorem dX12_digest_87 : decode cX12_digest 87 = .ok (.lload_n 1, 1) := by decide +kernel
theorem dX12_digest_88 : decode cX12_digest 88 = .ok (.lmul, 1) := by decide +kernel
theorem dX12_digest_89 : decode cX12_digest 89 = .ok (.aload_n 0, 1) := by decide +kernel
theorem dX12_digest_90 : decode cX12_digest 90 = .ok (.bipush 19, 2) := by decide +kernel
theorem dX12_digest_92 : decode cX12_digest 92 = .ok (.invokevirtual 151, 3) := by decide +kernel
theorem dX12_digest_95 : decode cX12_digest 95 = .ok (.i2l, 1) := by decide +kernel
theorem dX12_digest_96 : decode cX12_digest 96 = .ok (.ladd, 1) := by decide +kernel
theorem dX12_digest_97 : decode cX12_digest 97 = .ok (.lstore_n 1, 1) := by decide +kernel
theorem dX12_digest_98 : decode cX12_digest 98 = .ok (.ldc2_w 288, 3) := by decide +kernel
theorem dX12_digest_101 : decode cX12_digest 101 = .ok (.lload_n 1, 1) := by decide +kernel
theorem dX12_digest_102 : decode cX12_digest 102 = .ok (.lmul, 1) := by decide +kernel
theorem dX12_digest_103 : decode cX12_digest 103 = .ok (.aload_n 0, 1) := by decide +kernel
theorem dX12_digest_104 : decode cX12_digest 104 = .ok (.bipush 29, 2) := by decide +kernel
theorem dX12_digest_106 : decode cX12_digest 106 = .ok (.invokevirtual 151, 3) := by decide +kernel
theorem dX12_digest_109 : decode cX12_digest 109 = .ok (.i2l, 1) := by decide +kernel
theorem dX12_digest_110 : decode cX12_digest 110 = .ok (.ladd, 1) := by decide +kernel
theorem dX12_digest_111 : decode cX12_digest 111 = .ok (.lstore_n 1, 1) := by decide +kernel
theorem dX12_digest_112 : decode cX12_digest 112 = .ok (.iconst 0, 1) := by decide +kernel
theorem dX12_digest_113 : decode cX12_digest 113 = .ok (.istore_n 3, 1) := by decide +kernel
theorem dX12_digest_114 : decode cX12_digest 114 = .ok (.iload_n 3, 1) := by decide +kernel
theorem dX12_digest_115 : decode cX12_digest 115 = .ok (.aload_n 0, 1) := by decide +kernel
theorem dX12_digest_116 : decode cX12_digest 116 = .ok (.getfield 119, 3) := by decide +kernel
theorem dX12_digest_119 : decode cX12_digest 119 = .ok (.if_icmp .ge 16, 3) := by decide +kernel
theorem dX12_digest_122 : decode cX12_digest 122 = .ok (.aload_n 0, 1) := by decide +kernel
theorem dX12_digest_123 : decode cX12_digest 123 = .ok (.lload_n 1, 1) := by decide +kernel
theorem dX12_digest_124 : decode cX12_digest 124 = .ok (.iload_n 3, 1) := by decide +kernel
theorem dX12_digest_125 : decode cX12_digest 125 = .ok (.invokevirtual 299, 3) := by decide +kernel
theorem dX12_digest_128 : decode cX12_digest 128 = .ok (.lstore_n 1, 1) := by decide +kernel
theorem dX12_digest_129 : decode cX12_digest 129 = .ok (.iinc 3 1, 3) := by decide +kernel
theorem dX12_digest_132 : decode cX12_digest 132 = .ok (.goto (-18), 3) := by decide +kernel
theorem dX12_digest_135 : decode cX12_digest 135 = .ok (.ldc2_w 288, 3) := by decide +kernel
theorem dX12_digest_138 : decode cX12_digest 138 = .ok (.lload_n 1, 1) := by decide +kernel
theorem dX12_digest_139 : decode cX12_digest 139 = .ok (.lmul, 1) := by decide +kernel
theorem dX12_digest_140 : decode cX12_digest 140 = .ok (.aload_n 0, 1) := by decide +kernel
theorem dX12_digest_141 : decode cX12_digest 141 = .ok (.iconst 0, 1) := by decide +kernel
theorem dX12_digest_142 : decode cX12_digest 142 = .ok (.invokevirtual 209, 3) := by decide +kernel
theorem dX12_digest_145 : decode cX12_digest 145 = .ok (.i2l, 1) := by decide +kernel
theorem dX12_digest_146 : decode cX12_digest 146 = .ok (.ladd, 1) := by decide +kernel
theorem dX12_digest_147 : decode cX12_digest 147 = .ok (.lstore_n 1, 1) := by decide +kernel
theorem dX12_digest_148 : decode cX12_digest 148 = .ok (.ldc2_w 288, 3) := by decide +kernel
theorem dX12_digest_151 : decode cX12_digest 151 = .ok (.lload_n 1, 1) := by decide +kernel
theorem dX12_digest_152 : decode cX12_digest 152 = .ok (.lmul, 1) := by decide +kernel
theorem dX12_digest_153 : decode cX12_digest 153 = .ok (.aload_n 0, 1) := by decide +kernel
theorem dX12_digest_154 : decode cX12_digest 154 = .ok (.iconst 1, 1) := by decide +kernel
theorem dX12_digest_155 : decode cX12_digest 155 = .ok (.invokevirtual 209, 3) := by decide +kernel
theorem dX12_digest_158 : decode cX12_digest 158 = .ok (.i2l, 1) := by decide +kernel
theorem dX12_digest_159 : decode cX12_digest 159 = .ok (.ladd, 1) := by decide +kernel
theorem dX12_digest_160 : decode cX12_digest 160 = .ok (.lstore_n 1, 1) := by decide +kernel
theorem dX12_digest_161 : decode cX12_digest 161 = .ok (.iconst 0, 1) := by decide +kernel
theorem dX12_digest_162 : decode cX12_digest 162 = .ok (.istore_n 3, 1) := by decide +kernel
theorem dX12_digest_163 : decode cX12_digest 163 = .ok (.iload_n 3, 1) := by decide +kernel
theorem dX12_digest_164 : decode cX12_digest 164 = .ok (.bipush 8, 2) := by decide +kernel
theorem dX12_digest_166 : decode cX12_digest 166 = .ok (.if_icmp .ge 37, 3) := by decide +kernel
theorem dX12_digest_169 : decode cX12_digest 169 = .ok (.ldc2_w 288, 3) := by decide +kernel
theorem dX12_digest_172 : decode cX12_digest 172 = .ok (.lload_n 1, 1) := by decide +kernel
theorem dX12_digest_173 : decode cX12_digest 173 = .ok (.lmul, 1) := by decide +kernel
theorem dX12_digest_174 : decode cX12_digest 174 = .ok (.aload_n 0, 1) := by decide +kernel
theorem dX12_digest_175 : decode cX12_digest 175 = .ok (.iload_n 3, 1) := by decide +kernel
theorem dX12_digest_176 : decode cX12_digest 176 = .ok (.iconst 0, 1) := by decide +kernel
theorem dX12_digest_177 : decode cX12_digest 177 = .ok (.invokevirtual 212, 3) := by decide +kernel
theorem dX12_digest_180 : decode cX12_digest 180 = .ok (.i2l, 1) := by decide +kernel
theorem dX12_digest_181 : decode cX12_digest 181 = .ok (.ladd, 1) := by decide +kernel
theorem dX12_digest_182 : decode cX12_digest 182 = .ok (.lstore_n 1, 1) := by decide +kernel
theorem dX12_digest_183 : decode cX12_digest 183 = .ok (.ldc2_w 288, 3) := by decide +kernel
theorem dX12_digest_186 : decode cX12_digest 186 = .ok (.lload_n 1, 1) := by decide +kernel
theorem dX12_digest_187 : decode cX12_digest 187 = .ok (.lmul, 1) := by decide +kernel
theorem dX12_digest_188 : decode cX12_digest 188 = .ok (.aload_n 0, 1) := by decide +kernel
theorem dX12_digest_189 : decode cX12_digest 189 = .ok (.iload_n 3, 1) := by decide +kernel
theorem dX12_digest_190 : decode cX12_digest 190 = .ok (.iconst 1, 1) := by decide +kernel
theorem dX12_digest_191 : decode cX12_digest 191 = .ok (.invokevirtual 212, 3) := by decide +kernel
theorem dX12_digest_194 : decode cX12_digest 194 = .ok (.i2l, 1) := by decide +kernel
theorem dX12_digest_195 : decode cX12_digest 195 = .ok (.ladd, 1) := by decide +kernel
theorem dX12_digest_196 : decode cX12_digest 196 = .ok (.lstore_n 1, 1) := by decide +kernel
theorem dX12_digest_197 : decode cX12_digest 197 = .ok (.iinc 3 1, 3) := by decide +kernel
theorem dX12_digest_200 : decode cX12_digest 200 = .ok (.goto (-37), 3) := by decide +kernel
theorem dX12_digest_203 : decode cX12_digest 203 = .ok (.ldc2_w 288, 3) := by decide +kernel
theorem dX12_digest_206 : decode cX12_digest 206 = .ok (.lload_n 1, 1) := by decide +kernel
theorem dX12_digest_207 : decode cX12_digest 207 = .ok (.lmul, 1) := by decide +kernel
theorem dX12_digest_208 : decode cX12_digest 208 = .ok (.aload_n 0, 1) := by decide +kernel
theorem dX12_digest_209 : decode cX12_digest 209 = .ok (.invokevirtual 216, 3) := by decide +kernel
theorem dX12_digest_212 : decode cX12_digest 212 = .ok (.i2l, 1) := by decide +kernel
theorem dX12_digest_213 : decode cX12_digest 213 = .ok (.ladd, 1) := by decide +kernel
theorem dX12_digest_214 : decode cX12_digest 214 = .ok (.lstore_n 1, 1) := by decide +kernel
theorem dX12_digest_215 : decode cX12_digest 215 = .ok (.ldc2_w 288, 3) := by decide +kernel
theorem dX12_digest_218 : decode cX12_digest 218 = .ok (.lload_n 1, 1) := by decide +kernel
theorem dX12_digest_219 : decode cX12_digest 219 = .ok (.lmul, 1) := by decide +kernel
theorem dX12_digest_220 : decode cX12_digest 220 = .ok (.aload_n 0, 1) := by decide +kernel
theorem dX12_digest_221 : decode cX12_digest 221 = .ok (.invokevirtual 234, 3) := by decide +kernel
theorem dX12_digest_224 : decode cX12_digest 224 = .ok (.i2l, 1) := by decide +kernel
theorem dX12_digest_225 : decode cX12_digest 225 = .ok (.ladd, 1) := by decide +kernel
theorem dX12_digest_226 : decode cX12_digest 226 = .ok (.lstore_n 1, 1) := by decide +kernel
theorem dX12_digest_227 : decode cX12_digest 227 = .ok (.ldc2_w 288, 3) := by decide +kernel
theorem dX12_digest_230 : decode cX12_digest 230 = .ok (.lload_n 1, 1) := by decide +kernel
theorem dX12_digest_231 : decode cX12_digest 231 = .ok (.lmul, 1) := by decide +kernel
theorem dX12_digest_232 : decode cX12_digest 232 = .ok (.aload_n 0, 1) := by decide +kernel
theorem dX12_digest_233 : decode cX12_digest 233 = .ok (.invokevirtual 243, 3) := by decide +kernel
theorem dX12_digest_236 : decode cX12_digest 236 = .ok (.i2l, 1) := by decide +kernel
theorem dX12_digest_237 : decode cX12_digest 237 = .ok (.ladd, 1) := by decide +kernel
theorem dX12_digest_238 : decode cX12_digest 238 = .ok (.lstore_n 1, 1) := by decide +kernel
theorem dX12_digest_239 : decode cX12_digest 239 = .ok (.ldc2_w 288, 3) := by decide +kernel
theorem dX12_digest_242 : decode cX12_digest 242 = .ok (.lload_n 1, 1) := by decide +kernel
theorem dX12_digest_243 : decode cX12_digest 243 = .ok (.lmul, 1) := by decide +kernel
theorem dX12_digest_244 : decode cX12_digest 244 = .ok (.aload_n 0, 1) := by decide +kernel
theorem dX12_digest_245 : decode cX12_digest 245 = .ok (.bipush 7, 2) := by decide +kernel
theorem dX12_digest_247 : decode cX12_digest 247 = .ok (.bipush 20, 2) := by decide +kernel
theorem dX12_digest_249 : decode cX12_digest 249 = .ok (.iconst 0, 1) := by decide +kernel
theorem dX12_digest_250 : decode cX12_digest 250 = .ok (.invokevirtual 268, 3) := by decide +kernel
theorem dX12_digest_253 : decode cX12_digest 253 = .ok (.i2l, 1) := by decide +kernel
theorem dX12_digest_254 : decode cX12_digest 254 = .ok (.ladd, 1) := by decide +kernel
theorem dX12_digest_255 : decode cX12_digest 255 = .ok (.lstore_n 1, 1) := by decide +kernel
theorem dX12_digest_256 : decode cX12_digest 256 = .ok (.ldc2_w 288, 3) := by decide +kernel
theorem dX12_digest_259 : decode cX12_digest 259 = .ok (.lload_n 1, 1) := by decide +kernel
theorem dX12_digest_260 : decode cX12_digest 260 = .ok (.lmul, 1) := by decide +kernel
theorem dX12_digest_261 : decode cX12_digest 261 = .ok (.aload_n 0, 1) := by decide +kernel
theorem dX12_digest_262 : decode cX12_digest 262 = .ok (.bipush 7, 2) := by decide +kernel
theorem dX12_digest_264 : decode cX12_digest 264 = .ok (.bipush 20, 2) := by decide +kernel
theorem dX12_digest_266 : decode cX12_digest 266 = .ok (.iconst 1, 1) := by decide +kernel
theorem dX12_digest_267 : decode cX12_digest 267 = .ok (.invokevirtual 268, 3) := by decide +kernel
theorem dX12_digest_270 : decode cX12_digest 270 = .ok (.i2l, 1) := by decide +kernel
theorem dX12_digest_271 : decode cX12_digest 271 = .ok (.ladd, 1) := by decide +kernel
theorem dX12_digest_272 : decode cX12_digest 272 = .ok (.lreturn, 1) := by decide +kernel
end
section
theorem dL_law_0 : decode cL_law 0 = .ok (.new 7, 3) := by decide +kernel
theorem dL_law_3 : decode cL_law 3 = .ok (.dup, 1) := by decide +kernel
theorem dL_law_4 : decode cL_law 4 = .ok (.invokespecial 9, 3) := by decide +kernel
theorem dL_law_7 : decode cL_law 7 = .ok (.astore_n 1, 1) := by decide +kernel
theorem dL_law_8 : decode cL_law 8 = .ok (.new 10, 3) := by decide +kernel
theorem dL_law_11 : decode cL_law 11 = .ok (.dup, 1) := by decide +kernel
theorem dL_law_12 : decode cL_law 12 = .ok (.invokespecial 12, 3) := by decide +kernel
theorem dL_law_15 : decode cL_law 15 = .ok (.astore_n 2, 1) := by decide +kernel
theorem dL_law_16 : decode cL_law 16 = .ok (.iconst 0, 1) := by decide +kernel
theorem dL_law_17 : decode cL_law 17 = .ok (.istore_n 3, 1) := by decide +kernel
theorem dL_law_18 : decode cL_law 18 = .ok (.iload_n 3, 1) := by decide +kernel
theorem dL_law_19 : decode cL_law 19 = .ok (.aload_n 0, 1) := by decide +kernel
theorem dL_law_20 : decode cL_law 20 = .ok (.arraylength, 1) := by decide +kernel
theorem dL_law_21 : decode cL_law 21 = .ok (.bipush 6, 2) := by decide +kernel
theorem dL_law_23 : decode cL_law 23 = .ok (.isub, 1) := by decide +kernel
theorem dL_law_24 : decode cL_law 24 = .ok (.if_icmp .gt 1257, 3) := by decide +kernel
theorem dL_law_27 : decode cL_law 27 = .ok (.aload_n 0, 1) := by decide +kernel
theorem dL_law_28 : decode cL_law 28 = .ok (.iload_n 3, 1) := by decide +kernel
theorem dL_law_29 : decode cL_law 29 = .ok (.iaload, 1) := by decide +kernel
theorem dL_law_30 : decode cL_law 30 = .ok (.bipush 63, 2) := by decide +kernel
theorem dL_law_32 : decode cL_law 32 = .ok (.iand, 1) := by decide +kernel
theorem dL_law_33 : decode cL_law 33 = .ok (.tableswitch 1242 0 34 #[155, 188, 211, 234, 257, 290, 313, 346, 379, 412, 435, 458, 501, 524, 547, 580, 593, 636, 669, 702, 715, 758, 771, 784, 817, 840, 904, 947, 990, 1013, 1066, 1109, 1172, 1205, 1228], 155) := by decide +kernel
theorem dL_law_188 : decode cL_law 188 = .ok (.aload_n 1, 1) := by decide +kernel
theorem dL_law_189 : decode cL_law 189 = .ok (.aload_n 0, 1) := by decide +kernel
theorem dL_law_190 : decode cL_law 190 = .ok (.iload_n 3, 1) := by decide +kernel
theorem dL_law_191 : decode cL_law 191 = .ok (.iconst 1, 1) := by decide +kernel
theorem dL_law_192 : decode cL_law 192 = .ok (.iadd, 1) := by decide +kernel
theorem dL_law_193 : decode cL_law 193 = .ok (.iaload, 1) := by decide +kernel
theorem dL_law_194 : decode cL_law 194 = .ok (.aload_n 0, 1) := by decide +kernel
theorem dL_law_195 : decode cL_law 195 = .ok (.iload_n 3, 1) := by decide +kernel
theorem dL_law_196 : decode cL_law 196 = .ok (.iconst 2, 1) := by decide +kernel
theorem dL_law_197 : decode cL_law 197 = .ok (.iadd, 1) := by decide +kernel
theorem dL_law_198 : decode cL_law 198 = .ok (.iaload, 1) := by decide +kernel
theorem dL_law_199 : decode cL_law 199 = .ok (.invokevirtual 13, 3) := by decide +kernel
theorem dL_law_202 : decode cL_law 202 = .ok (.aload_n 2, 1) := by decide +kernel
theorem dL_law_203 : decode cL_law 203 = .ok (.aload_n 0, 1) := by decide +kernel
theorem dL_law_204 : decode cL_law 204 = .ok (.iload_n 3, 1) := by decide +kernel
theorem dL_law_205 : decode cL_law 205 = .ok (.iconst 1, 1) := by decide +kernel
theorem dL_law_206 : decode cL_law 206 = .ok (.iadd, 1) := by decide +kernel
theorem dL_law_207 : decode cL_law 207 = .ok (.iaload, 1) := by decide +kernel
theorem dL_law_208 : decode cL_law 208 = .ok (.aload_n 0, 1) := by decide +kernel
theorem dL_law_209 : decode cL_law 209 = .ok (.iload_n 3, 1) := by decide +kernel
theorem dL_law_210 : decode cL_law 210 = .ok (.iconst 2, 1) := by decide +kernel
theorem dL_law_211 : decode cL_law 211 = .ok (.iadd, 1) := by decide +kernel
theorem dL_law_212 : decode cL_law 212 = .ok (.iaload, 1) := by decide +kernel
theorem dL_law_213 : decode cL_law 213 = .ok (.invokevirtual 17, 3) := by decide +kernel
theorem dL_law_216 : decode cL_law 216 = .ok (.if_icmp .eq 1059, 3) := by decide +kernel
theorem dL_law_219 : decode cL_law 219 = .ok (.iconst 0, 1) := by decide +kernel
theorem dL_law_220 : decode cL_law 220 = .ok (.ireturn, 1) := by decide +kernel
theorem dL_law_221 : decode cL_law 221 = .ok (.aload_n 1, 1) := by decide +kernel
theorem dL_law_222 : decode cL_law 222 = .ok (.aload_n 0, 1) := by decide +kernel
theorem dL_law_223 : decode cL_law 223 = .ok (.iload_n 3, 1) := by decide +kernel
theorem dL_law_224 : decode cL_law 224 = .ok (.iconst 1, 1) := by decide +kernel
theorem dL_law_225 : decode cL_law 225 = .ok (.iadd, 1) := by decide +kernel
theorem dL_law_226 : decode cL_law 226 = .ok (.iaload, 1) := by decide +kernel
theorem dL_law_227 : decode cL_law 227 = .ok (.invokevirtual 18, 3) := by decide +kernel
theorem dL_law_230 : decode cL_law 230 = .ok (.aload_n 2, 1) := by decide +kernel
theorem dL_law_231 : decode cL_law 231 = .ok (.aload_n 0, 1) := by decide +kernel
theorem dL_law_232 : decode cL_law 232 = .ok (.iload_n 3, 1) := by decide +kernel
theorem dL_law_233 : decode cL_law 233 = .ok (.iconst 1, 1) := by decide +kernel
theorem dL_law_234 : decode cL_law 234 = .ok (.iadd, 1) := by decide +kernel
theorem dL_law_235 : decode cL_law 235 = .ok (.iaload, 1) := by decide +kernel
theorem dL_law_236 : decode cL_law 236 = .ok (.invokevirtual 22, 3) := by decide +kernel
theorem dL_law_239 : decode cL_law 239 = .ok (.if_icmp .eq 1036, 3) := by decide +kernel
theorem dL_law_242 : decode cL_law 242 = .ok (.iconst 0, 1) := by decide +kernel
theorem dL_law_243 : decode cL_law 243 = .ok (.ireturn, 1) := by decide +kernel
theorem dL_law_244 : decode cL_law 244 = .ok (.aload_n 1, 1) := by decide +kernel
theorem dL_law_245 : decode cL_law 245 = .ok (.aload_n 0, 1) := by decide +kernel
theorem dL_law_246 : decode cL_law 246 = .ok (.iload_n 3, 1) := by decide +kernel
theorem dL_law_247 : decode cL_law 247 = .ok (.iconst 1, 1) := by decide +kernel
theorem dL_law_248 : decode cL_law 248 = .ok (.iadd, 1) := by decide +kernel
theorem dL_law_249 : decode cL_law 249 = .ok (.iaload, 1) := by decide +kernel
theorem dL_law_250 : decode cL_law 250 = .ok (.invokevirtual 23, 3) := by decide +kernel
theorem dL_law_253 : decode cL_law 253 = .ok (.aload_n 2, 1) := by decide +kernel
theorem dL_law_254 : decode cL_law 254 = .ok (.aload_n 0, 1) := by decide +kernel
theorem dL_law_255 : decode cL_law 255 = .ok (.iload_n 3, 1) := by decide +kernel
theorem dL_law_256 : decode cL_law 256 = .ok (.iconst 1, 1) := by decide +kernel
theorem dL_law_257 : decode cL_law 257 = .ok (.iadd, 1) := by decide +kernel
theorem dL_law_258 : decode cL_law 258 = .ok (.iaload, 1) := by decide +kernel
theorem dL_law_259 : decode cL_law 259 = .ok (.invokevirtual 26, 3) := by decide +kernel
theorem dL_law_262 : decode cL_law 262 = .ok (.if_icmp .eq 1013, 3) := by decide +kernel
theorem dL_law_265 : decode cL_law 265 = .ok (.iconst 0, 1) := by decide +kernel
theorem dL_law_266 : decode cL_law 266 = .ok (.ireturn, 1) := by decide +kernel
theorem dL_law_267 : decode cL_law 267 = .ok (.aload_n 1, 1) := by decide +kernel
theorem dL_law_268 : decode cL_law 268 = .ok (.aload_n 0, 1) := by decide +kernel
theorem dL_law_269 : decode cL_law 269 = .ok (.iload_n 3, 1) := by decide +kernel
theorem dL_law_270 : decode cL_law 270 = .ok (.iconst 1, 1) := by decide +kernel
theorem dL_law_271 : decode cL_law 271 = .ok (.iadd, 1) := by decide +kernel
theorem dL_law_272 : decode cL_law 272 = .ok (.iaload, 1) := by decide +kernel
theorem dL_law_273 : decode cL_law 273 = .ok (.invokevirtual 27, 3) := by decide +kernel
theorem dL_law_276 : decode cL_law 276 = .ok (.aload_n 2, 1) := by decide +kernel
theorem dL_law_277 : decode cL_law 277 = .ok (.aload_n 0, 1) := by decide +kernel
theorem dL_law_278 : decode cL_law 278 = .ok (.iload_n 3, 1) := by decide +kernel
theorem dL_law_279 : decode cL_law 279 = .ok (.iconst 1, 1) := by decide +kernel
theorem dL_law_280 : decode cL_law 280 = .ok (.iadd, 1) := by decide +kernel
theorem dL_law_281 : decode cL_law 281 = .ok (.iaload, 1) := by decide +kernel
theorem dL_law_282 : decode cL_law 282 = .ok (.invokevirtual 30, 3) := by decide +kernel
theorem dL_law_285 : decode cL_law 285 = .ok (.if_icmp .eq 990, 3) := by decide +kernel
theorem dL_law_288 : decode cL_law 288 = .ok (.iconst 0, 1) := by decide +kernel
theorem dL_law_289 : decode cL_law 289 = .ok (.ireturn, 1) := by decide +kernel
theorem dL_law_290 : decode cL_law 290 = .ok (.aload_n 1, 1) := by decide +kernel
theorem dL_law_291 : decode cL_law 291 = .ok (.aload_n 0, 1) := by decide +kernel
theorem dL_law_292 : decode cL_law 292 = .ok (.iload_n 3, 1) := by decide +kernel
theorem dL_law_293 : decode cL_law 293 = .ok (.iconst 1, 1) := by decide +kernel
theorem dL_law_294 : decode cL_law 294 = .ok (.iadd, 1) := by decide +kernel
theorem dL_law_295 : decode cL_law 295 = .ok (.iaload, 1) := by decide +kernel
theorem dL_law_296 : decode cL_law 296 = .ok (.aload_n 0, 1) := by decide +kernel
theorem dL_law_297 : decode cL_law 297 = .ok (.iload_n 3, 1) := by decide +kernel
theorem dL_law_298 : decode cL_law 298 = .ok (.iconst 2, 1) := by decide +kernel
theorem dL_law_299 : decode cL_law 299 = .ok (.iadd, 1) := by decide +kernel
theorem dL_law_300 : decode cL_law 300 = .ok (.iaload, 1) := by decide +kernel
theorem dL_law_301 : decode cL_law 301 = .ok (.invokevirtual 31, 3) := by decide +kernel
theorem dL_law_304 : decode cL_law 304 = .ok (.aload_n 2, 1) := by decide +kernel
theorem dL_law_305 : decode cL_law 305 = .ok (.aload_n 0, 1) := by decide +kernel
theorem dL_law_306 : decode cL_law 306 = .ok (.iload_n 3, 1) := by decide +kernel
theorem dL_law_307 : decode cL_law 307 = .ok (.iconst 1, 1) := by decide +kernel
theorem dL_law_308 : decode cL_law 308 = .ok (.iadd, 1) := by decide +kernel
theorem dL_law_309 : decode cL_law 309 = .ok (.iaload, 1) := by decide +kernel
theorem dL_law_310 : decode cL_law 310 = .ok (.aload_n 0, 1) := by decide +kernel
theorem dL_law_311 : decode cL_law 311 = .ok (.iload_n 3, 1) := by decide +kernel
theorem dL_law_312 : decode cL_law 312 = .ok (.iconst 2, 1) := by decide +kernel
theorem dL_law_313 : decode cL_law 313 = .ok (.iadd, 1) := by decide +kernel
theorem dL_law_314 : decode cL_law 314 = .ok (.iaload, 1) := by decide +kernel
theorem dL_law_315 : decode cL_law 315 = .ok (.invokevirtual 34, 3) := by decide +kernel
theorem dL_law_318 : decode cL_law 318 = .ok (.if_icmp .eq 957, 3) := by decide +kernel
theorem dL_law_321 : decode cL_law 321 = .ok (.iconst 0, 1) := by decide +kernel
theorem dL_law_322 : decode cL_law 322 = .ok (.ireturn, 1) := by decide +kernel
theorem dL_law_323 : decode cL_law 323 = .ok (.aload_n 1, 1) := by decide +kernel
theorem dL_law_324 : decode cL_law 324 = .ok (.aload_n 0, 1) := by decide +kernel
theorem dL_law_325 : decode cL_law 325 = .ok (.iload_n 3, 1) := by decide +kernel
theorem dL_law_326 : decode cL_law 326 = .ok (.iconst 1, 1) := by decide +kernel
theorem dL_law_327 : decode cL_law 327 = .ok (.iadd, 1) := by decide +kernel
theorem dL_law_328 : decode cL_law 328 = .ok (.iaload, 1) := by decide +kernel
theorem dL_law_329 : decode cL_law 329 = .ok (.invokevirtual 35, 3) := by decide +kernel
theorem dL_law_332 : decode cL_law 332 = .ok (.aload_n 2, 1) := by decide +kernel
theorem dL_law_333 : decode cL_law 333 = .ok (.aload_n 0, 1) := by decide +kernel
theorem dL_law_334 : decode cL_law 334 = .ok (.iload_n 3, 1) := by decide +kernel
theorem dL_law_335 : decode cL_law 335 = .ok (.iconst 1, 1) := by decide +kernel
theorem dL_law_336 : decode cL_law 336 = .ok (.iadd, 1) := by decide +kernel
theorem dL_law_337 : decode cL_law 337 = .ok (.iaload, 1) := by decide +kernel
theorem dL_law_338 : decode cL_law 338 = .ok (.invokevirtual 38, 3) := by decide +kernel
theorem dL_law_341 : decode cL_law 341 = .ok (.if_icmp .eq 934, 3) := by decide +kernel
theorem dL_law_344 : decode cL_law 344 = .ok (.iconst 0, 1) := by decide +kernel
theorem dL_law_345 : decode cL_law 345 = .ok (.ireturn, 1) := by decide +kernel
theorem dL_law_346 : decode cL_law 346 = .ok (.aload_n 1, 1) := by decide +kernel
theorem dL_law_347 : decode cL_law 347 = .ok (.aload_n 0, 1) := by decide +kernel
theorem dL_law_348 : decode cL_law 348 = .ok (.iload_n 3, 1) := by decide +kernel
theorem dL_law_349 : decode cL_law 349 = .ok (.iconst 1, 1) := by decide +kernel
theorem dL_law_350 : decode cL_law 350 = .ok (.iadd, 1) := by decide +kernel
theorem dL_law_351 : decode cL_law 351 = .ok (.iaload, 1) := by decide +kernel
theorem dL_law_352 : decode cL_law 352 = .ok (.aload_n 0, 1) := by decide +kernel
theorem dL_law_353 : decode cL_law 353 = .ok (.iload_n 3, 1) := by decide +kernel
theorem dL_law_354 : decode cL_law 354 = .ok (.iconst 2, 1) := by decide +kernel
theorem dL_law_355 : decode cL_law 355 = .ok (.iadd, 1) := by decide +kernel
theorem dL_law_356 : decode cL_law 356 = .ok (.iaload, 1) := by decide +kernel
theorem dL_law_357 : decode cL_law 357 = .ok (.invokevirtual 39, 3) := by decide +kernel
theorem dL_law_360 : decode cL_law 360 = .ok (.aload_n 2, 1) := by decide +kernel
theorem dL_law_361 : decode cL_law 361 = .ok (.aload_n 0, 1) := by decide +kernel
theorem dL_law_362 : decode cL_law 362 = .ok (.iload_n 3, 1) := by decide +kernel
theorem dL_law_363 : decode cL_law 363 = .ok (.iconst 1, 1) := by decide +kernel
theorem dL_law_364 : decode cL_law 364 = .ok (.iadd, 1) := by decide +kernel
theorem dL_law_365 : decode cL_law 365 = .ok (.iaload, 1) := by decide +kernel
theorem dL_law_366 : decode cL_law 366 = .ok (.aload_n 0, 1) := by decide +kernel
theorem dL_law_367 : decode cL_law 367 = .ok (.iload_n 3, 1) := by decide +kernel
theorem dL_law_368 : decode cL_law 368 = .ok (.iconst 2, 1) := by decide +kernel
theorem dL_law_369 : decode cL_law 369 = .ok (.iadd, 1) := by decide +kernel
theorem dL_law_370 : decode cL_law 370 = .ok (.iaload, 1) := by decide +kernel
theorem dL_law_371 : decode cL_law 371 = .ok (.invokevirtual 42, 3) := by decide +kernel
theorem dL_law_374 : decode cL_law 374 = .ok (.if_icmp .eq 901, 3) := by decide +kernel
theorem dL_law_377 : decode cL_law 377 = .ok (.iconst 0, 1) := by decide +kernel
theorem dL_law_378 : decode cL_law 378 = .ok (.ireturn, 1) := by decide +kernel
theorem dL_law_379 : decode cL_law 379 = .ok (.aload_n 1, 1) := by decide +kernel
theorem dL_law_380 : decode cL_law 380 = .ok (.aload_n 0, 1) := by decide +kernel
theorem dL_law_381 : decode cL_law 381 = .ok (.iload_n 3, 1) := by decide +kernel
theorem dL_law_382 : decode cL_law 382 = .ok (.iconst 1, 1) := by decide +kernel
theorem dL_law_383 : decode cL_law 383 = .ok (.iadd, 1) := by decide +kernel
theorem dL_law_384 : decode cL_law 384 = .ok (.iaload, 1) := by decide +kernel
theorem dL_law_385 : decode cL_law 385 = .ok (.aload_n 0, 1) := by decide +kernel
theorem dL_law_386 : decode cL_law 386 = .ok (.iload_n 3, 1) := by decide +kernel
theorem dL_law_387 : decode cL_law 387 = .ok (.iconst 2, 1) := by decide +kernel
theorem dL_law_388 : decode cL_law 388 = .ok (.iadd, 1) := by decide +kernel
theorem dL_law_389 : decode cL_law 389 = .ok (.iaload, 1) := by decide +kernel
theorem dL_law_390 : decode cL_law 390 = .ok (.invokevirtual 43, 3) := by decide +kernel
theorem dL_law_393 : decode cL_law 393 = .ok (.aload_n 2, 1) := by decide +kernel
theorem dL_law_394 : decode cL_law 394 = .ok (.aload_n 0, 1) := by decide +kernel
theorem dL_law_395 : decode cL_law 395 = .ok (.iload_n 3, 1) := by decide +kernel
theorem dL_law_396 : decode cL_law 396 = .ok (.iconst 1, 1) := by decide +kernel
theorem dL_law_397 : decode cL_law 397 = .ok (.iadd, 1) := by decide +kernel
theorem dL_law_398 : decode cL_law 398 = .ok (.iaload, 1) := by decide +kernel
theorem dL_law_399 : decode cL_law 399 = .ok (.aload_n 0, 1) := by decide +kernel
theorem dL_law_400 : decode cL_law 400 = .ok (.iload_n 3, 1) := by decide +kernel
theorem dL_law_401 : decode cL_law 401 = .ok (.iconst 2, 1) := by decide +kernel
theorem dL_law_402 : decode cL_law 402 = .ok (.iadd, 1) := by decide +kernel
theorem dL_law_403 : decode cL_law 403 = .ok (.iaload, 1) := by decide +kernel
theorem dL_law_404 : decode cL_law 404 = .ok (.invokevirtual 46, 3) := by decide +kernel
theorem dL_law_407 : decode cL_law 407 = .ok (.if_icmp .eq 868, 3) := by decide +kernel
theorem dL_law_410 : decode cL_law 410 = .ok (.iconst 0, 1) := by decide +kernel
theorem dL_law_411 : decode cL_law 411 = .ok (.ireturn, 1) := by decide +kernel
theorem dL_law_412 : decode cL_law 412 = .ok (.aload_n 1, 1) := by decide +kernel
theorem dL_law_413 : decode cL_law 413 = .ok (.aload_n 0, 1) := by decide +kernel
theorem dL_law_414 : decode cL_law 414 = .ok (.iload_n 3, 1) := by decide +kernel
theorem dL_law_415 : decode cL_law 415 = .ok (.iconst 1, 1) := by decide +kernel
theorem dL_law_416 : decode cL_law 416 = .ok (.iadd, 1) := by decide +kernel
theorem dL_law_417 : decode cL_law 417 = .ok (.iaload, 1) := by decide +kernel
theorem dL_law_418 : decode cL_law 418 = .ok (.aload_n 0, 1) := by decide +kernel
theorem dL_law_419 : decode cL_law 419 = .ok (.iload_n 3, 1) := by decide +kernel
theorem dL_law_420 : decode cL_law 420 = .ok (.iconst 2, 1) := by decide +kernel
theorem dL_law_421 : decode cL_law 421 = .ok (.iadd, 1) := by decide +kernel
theorem dL_law_422 : decode cL_law 422 = .ok (.iaload, 1) := by decide +kernel
theorem dL_law_423 : decode cL_law 423 = .ok (.invokevirtual 47, 3) := by decide +kernel
theorem dL_law_426 : decode cL_law 426 = .ok (.aload_n 2, 1) := by decide +kernel
theorem dL_law_427 : decode cL_law 427 = .ok (.aload_n 0, 1) := by decide +kernel
theorem dL_law_428 : decode cL_law 428 = .ok (.iload_n 3, 1) := by decide +kernel
theorem dL_law_429 : decode cL_law 429 = .ok (.iconst 1, 1) := by decide +kernel
theorem dL_law_430 : decode cL_law 430 = .ok (.iadd, 1) := by decide +kernel
theorem dL_law_431 : decode cL_law 431 = .ok (.iaload, 1) := by decide +kernel
theorem dL_law_432 : decode cL_law 432 = .ok (.aload_n 0, 1) := by decide +kernel
theorem dL_law_433 : decode cL_law 433 = .ok (.iload_n 3, 1) := by decide +kernel
theorem dL_law_434 : decode cL_law 434 = .ok (.iconst 2, 1) := by decide +kernel
theorem dL_law_435 : decode cL_law 435 = .ok (.iadd, 1) := by decide +kernel
theorem dL_law_436 : decode cL_law 436 = .ok (.iaload, 1) := by decide +kernel
theorem dL_law_437 : decode cL_law 437 = .ok (.invokevirtual 50, 3) := by decide +kernel
theorem dL_law_440 : decode cL_law 440 = .ok (.if_icmp .eq 835, 3) := by decide +kernel
theorem dL_law_443 : decode cL_law 443 = .ok (.iconst 0, 1) := by decide +kernel
theorem dL_law_444 : decode cL_law 444 = .ok (.ireturn, 1) := by decide +kernel
theorem dL_law_445 : decode cL_law 445 = .ok (.aload_n 1, 1) := by decide +kernel
theorem dL_law_446 : decode cL_law 446 = .ok (.aload_n 0, 1) := by decide +kernel
theorem dL_law_447 : decode cL_law 447 = .ok (.iload_n 3, 1) := by decide +kernel
theorem dL_law_448 : decode cL_law 448 = .ok (.iconst 1, 1) := by decide +kernel
theorem dL_law_449 : decode cL_law 449 = .ok (.iadd, 1) := by decide +kernel
theorem dL_law_450 : decode cL_law 450 = .ok (.iaload, 1) := by decide +kernel
theorem dL_law_451 : decode cL_law 451 = .ok (.invokevirtual 51, 3) := by decide +kernel
theorem dL_law_454 : decode cL_law 454 = .ok (.aload_n 2, 1) := by decide +kernel
theorem dL_law_455 : decode cL_law 455 = .ok (.aload_n 0, 1) := by decide +kernel
theorem dL_law_456 : decode cL_law 456 = .ok (.iload_n 3, 1) := by decide +kernel
theorem dL_law_457 : decode cL_law 457 = .ok (.iconst 1, 1) := by decide +kernel
theorem dL_law_458 : decode cL_law 458 = .ok (.iadd, 1) := by decide +kernel
theorem dL_law_459 : decode cL_law 459 = .ok (.iaload, 1) := by decide +kernel
theorem dL_law_460 : decode cL_law 460 = .ok (.invokevirtual 54, 3) := by decide +kernel
theorem dL_law_463 : decode cL_law 463 = .ok (.if_icmp .eq 812, 3) := by decide +kernel
theorem dL_law_466 : decode cL_law 466 = .ok (.iconst 0, 1) := by decide +kernel
theorem dL_law_467 : decode cL_law 467 = .ok (.ireturn, 1) := by decide +kernel
theorem dL_law_468 : decode cL_law 468 = .ok (.aload_n 1, 1) := by decide +kernel
theorem dL_law_469 : decode cL_law 469 = .ok (.aload_n 0, 1) := by decide +kernel
theorem dL_law_470 : decode cL_law 470 = .ok (.iload_n 3, 1) := by decide +kernel
theorem dL_law_471 : decode cL_law 471 = .ok (.iconst 1, 1) := by decide +kernel
theorem dL_law_472 : decode cL_law 472 = .ok (.iadd, 1) := by decide +kernel
theorem dL_law_473 : decode cL_law 473 = .ok (.iaload, 1) := by decide +kernel
theorem dL_law_474 : decode cL_law 474 = .ok (.invokevirtual 55, 3) := by decide +kernel
theorem dL_law_477 : decode cL_law 477 = .ok (.aload_n 2, 1) := by decide +kernel
theorem dL_law_478 : decode cL_law 478 = .ok (.aload_n 0, 1) := by decide +kernel
theorem dL_law_479 : decode cL_law 479 = .ok (.iload_n 3, 1) := by decide +kernel
theorem dL_law_480 : decode cL_law 480 = .ok (.iconst 1, 1) := by decide +kernel
theorem dL_law_481 : decode cL_law 481 = .ok (.iadd, 1) := by decide +kernel
theorem dL_law_482 : decode cL_law 482 = .ok (.iaload, 1) := by decide +kernel
theorem dL_law_483 : decode cL_law 483 = .ok (.invokevirtual 58, 3) := by decide +kernel
theorem dL_law_486 : decode cL_law 486 = .ok (.if_icmp .eq 789, 3) := by decide +kernel
theorem dL_law_489 : decode cL_law 489 = .ok (.iconst 0, 1) := by decide +kernel
theorem dL_law_490 : decode cL_law 490 = .ok (.ireturn, 1) := by decide +kernel
theorem dL_law_491 : decode cL_law 491 = .ok (.aload_n 1, 1) := by decide +kernel
theorem dL_law_492 : decode cL_law 492 = .ok (.aload_n 0, 1) := by decide +kernel
theorem dL_law_493 : decode cL_law 493 = .ok (.iload_n 3, 1) := by decide +kernel
theorem dL_law_494 : decode cL_law 494 = .ok (.iconst 1, 1) := by decide +kernel
theorem dL_law_495 : decode cL_law 495 = .ok (.iadd, 1) := by decide +kernel
theorem dL_law_496 : decode cL_law 496 = .ok (.iaload, 1) := by decide +kernel
theorem dL_law_497 : decode cL_law 497 = .ok (.aload_n 0, 1) := by decide +kernel
theorem dL_law_498 : decode cL_law 498 = .ok (.iload_n 3, 1) := by decide +kernel
theorem dL_law_499 : decode cL_law 499 = .ok (.iconst 2, 1) := by decide +kernel
theorem dL_law_500 : decode cL_law 500 = .ok (.iadd, 1) := by decide +kernel
theorem dL_law_501 : decode cL_law 501 = .ok (.iaload, 1) := by decide +kernel
theorem dL_law_502 : decode cL_law 502 = .ok (.aload_n 0, 1) := by decide +kernel
theorem dL_law_503 : decode cL_law 503 = .ok (.iload_n 3, 1) := by decide +kernel
theorem dL_law_504 : decode cL_law 504 = .ok (.iconst 3, 1) := by decide +kernel
theorem dL_law_505 : decode cL_law 505 = .ok (.iadd, 1) := by decide +kernel
theorem dL_law_506 : decode cL_law 506 = .ok (.iaload, 1) := by decide +kernel
theorem dL_law_507 : decode cL_law 507 = .ok (.invokevirtual 59, 3) := by decide +kernel
theorem dL_law_510 : decode cL_law 510 = .ok (.aload_n 2, 1) := by decide +kernel
theorem dL_law_511 : decode cL_law 511 = .ok (.aload_n 0, 1) := by decide +kernel
theorem dL_law_512 : decode cL_law 512 = .ok (.iload_n 3, 1) := by decide +kernel
theorem dL_law_513 : decode cL_law 513 = .ok (.iconst 1, 1) := by decide +kernel
theorem dL_law_514 : decode cL_law 514 = .ok (.iadd, 1) := by decide +kernel
theorem dL_law_515 : decode cL_law 515 = .ok (.iaload, 1) := by decide +kernel
theorem dL_law_516 : decode cL_law 516 = .ok (.aload_n 0, 1) := by decide +kernel
theorem dL_law_517 : decode cL_law 517 = .ok (.iload_n 3, 1) := by decide +kernel
theorem dL_law_518 : decode cL_law 518 = .ok (.iconst 2, 1) := by decide +kernel
theorem dL_law_519 : decode cL_law 519 = .ok (.iadd, 1) := by decide +kernel
theorem dL_law_520 : decode cL_law 520 = .ok (.iaload, 1) := by decide +kernel
theorem dL_law_521 : decode cL_law 521 = .ok (.aload_n 0, 1) := by decide +kernel
theorem dL_law_522 : decode cL_law 522 = .ok (.iload_n 3, 1) := by decide +kernel
theorem dL_law_523 : decode cL_law 523 = .ok (.iconst 3, 1) := by decide +kernel
theorem dL_law_524 : decode cL_law 524 = .ok (.iadd, 1) := by decide +kernel
theorem dL_law_525 : decode cL_law 525 = .ok (.iaload, 1) := by decide +kernel
theorem dL_law_526 : decode cL_law 526 = .ok (.invokevirtual 63, 3) := by decide +kernel
theorem dL_law_529 : decode cL_law 529 = .ok (.if_icmp .eq 746, 3) := by decide +kernel
theorem dL_law_532 : decode cL_law 532 = .ok (.iconst 0, 1) := by decide +kernel
theorem dL_law_533 : decode cL_law 533 = .ok (.ireturn, 1) := by decide +kernel
theorem dL_law_534 : decode cL_law 534 = .ok (.aload_n 1, 1) := by decide +kernel
theorem dL_law_535 : decode cL_law 535 = .ok (.aload_n 0, 1) := by decide +kernel
theorem dL_law_536 : decode cL_law 536 = .ok (.iload_n 3, 1) := by decide +kernel
theorem dL_law_537 : decode cL_law 537 = .ok (.iconst 1, 1) := by decide +kernel
theorem dL_law_538 : decode cL_law 538 = .ok (.iadd, 1) := by decide +kernel
theorem dL_law_539 : decode cL_law 539 = .ok (.iaload, 1) := by decide +kernel
theorem dL_law_540 : decode cL_law 540 = .ok (.invokevirtual 64, 3) := by decide +kernel
theorem dL_law_543 : decode cL_law 543 = .ok (.aload_n 2, 1) := by decide +kernel
theorem dL_law_544 : decode cL_law 544 = .ok (.aload_n 0, 1) := by decide +kernel
theorem dL_law_545 : decode cL_law 545 = .ok (.iload_n 3, 1) := by decide +kernel
theorem dL_law_546 : decode cL_law 546 = .ok (.iconst 1, 1) := by decide +kernel
theorem dL_law_547 : decode cL_law 547 = .ok (.iadd, 1) := by decide +kernel
theorem dL_law_548 : decode cL_law 548 = .ok (.iaload, 1) := by decide +kernel
theorem dL_law_549 : decode cL_law 549 = .ok (.invokevirtual 67, 3) := by decide +kernel
theorem dL_law_552 : decode cL_law 552 = .ok (.if_icmp .eq 723, 3) := by decide +kernel
theorem dL_law_555 : decode cL_law 555 = .ok (.iconst 0, 1) := by decide +kernel
theorem dL_law_556 : decode cL_law 556 = .ok (.ireturn, 1) := by decide +kernel
theorem dL_law_557 : decode cL_law 557 = .ok (.aload_n 1, 1) := by decide +kernel
theorem dL_law_558 : decode cL_law 558 = .ok (.aload_n 0, 1) := by decide +kernel
theorem dL_law_559 : decode cL_law 559 = .ok (.iload_n 3, 1) := by decide +kernel
theorem dL_law_560 : decode cL_law 560 = .ok (.iconst 1, 1) := by decide +kernel
theorem dL_law_561 : decode cL_law 561 = .ok (.iadd, 1) := by decide +kernel
theorem dL_law_562 : decode cL_law 562 = .ok (.iaload, 1) := by decide +kernel
theorem dL_law_563 : decode cL_law 563 = .ok (.invokevirtual 68, 3) := by decide +kernel
theorem dL_law_566 : decode cL_law 566 = .ok (.aload_n 2, 1) := by decide +kernel
theorem dL_law_567 : decode cL_law 567 = .ok (.aload_n 0, 1) := by decide +kernel
theorem dL_law_568 : decode cL_law 568 = .ok (.iload_n 3, 1) := by decide +kernel
theorem dL_law_569 : decode cL_law 569 = .ok (.iconst 1, 1) := by decide +kernel
theorem dL_law_570 : decode cL_law 570 = .ok (.iadd, 1) := by decide +kernel
theorem dL_law_571 : decode cL_law 571 = .ok (.iaload, 1) := by decide +kernel
theorem dL_law_572 : decode cL_law 572 = .ok (.invokevirtual 71, 3) := by decide +kernel
theorem dL_law_575 : decode cL_law 575 = .ok (.if_icmp .eq 700, 3) := by decide +kernel
theorem dL_law_578 : decode cL_law 578 = .ok (.iconst 0, 1) := by decide +kernel
theorem dL_law_579 : decode cL_law 579 = .ok (.ireturn, 1) := by decide +kernel
theorem dL_law_580 : decode cL_law 580 = .ok (.aload_n 1, 1) := by decide +kernel
theorem dL_law_581 : decode cL_law 581 = .ok (.aload_n 0, 1) := by decide +kernel
theorem dL_law_582 : decode cL_law 582 = .ok (.iload_n 3, 1) := by decide +kernel
theorem dL_law_583 : decode cL_law 583 = .ok (.iconst 1, 1) := by decide +kernel
theorem dL_law_584 : decode cL_law 584 = .ok (.iadd, 1) := by decide +kernel
theorem dL_law_585 : decode cL_law 585 = .ok (.iaload, 1) := by decide +kernel
theorem dL_law_586 : decode cL_law 586 = .ok (.aload_n 0, 1) := by decide +kernel
theorem dL_law_587 : decode cL_law 587 = .ok (.iload_n 3, 1) := by decide +kernel
theorem dL_law_588 : decode cL_law 588 = .ok (.iconst 2, 1) := by decide +kernel
theorem dL_law_589 : decode cL_law 589 = .ok (.iadd, 1) := by decide +kernel
theorem dL_law_590 : decode cL_law 590 = .ok (.iaload, 1) := by decide +kernel
theorem dL_law_591 : decode cL_law 591 = .ok (.invokevirtual 72, 3) := by decide +kernel
theorem dL_law_594 : decode cL_law 594 = .ok (.aload_n 2, 1) := by decide +kernel
theorem dL_law_595 : decode cL_law 595 = .ok (.aload_n 0, 1) := by decide +kernel
theorem dL_law_596 : decode cL_law 596 = .ok (.iload_n 3, 1) := by decide +kernel
theorem dL_law_597 : decode cL_law 597 = .ok (.iconst 1, 1) := by decide +kernel
theorem dL_law_598 : decode cL_law 598 = .ok (.iadd, 1) := by decide +kernel
theorem dL_law_599 : decode cL_law 599 = .ok (.iaload, 1) := by decide +kernel
theorem dL_law_600 : decode cL_law 600 = .ok (.aload_n 0, 1) := by decide +kernel
theorem dL_law_601 : decode cL_law 601 = .ok (.iload_n 3, 1) := by decide +kernel
theorem dL_law_602 : decode cL_law 602 = .ok (.iconst 2, 1) := by decide +kernel
theorem dL_law_603 : decode cL_law 603 = .ok (.iadd, 1) := by decide +kernel
theorem dL_law_604 : decode cL_law 604 = .ok (.iaload, 1) := by decide +kernel
theorem dL_law_605 : decode cL_law 605 = .ok (.invokevirtual 75, 3) := by decide +kernel
theorem dL_law_608 : decode cL_law 608 = .ok (.if_icmp .eq 667, 3) := by decide +kernel
theorem dL_law_611 : decode cL_law 611 = .ok (.iconst 0, 1) := by decide +kernel
theorem dL_law_612 : decode cL_law 612 = .ok (.ireturn, 1) := by decide +kernel
theorem dL_law_613 : decode cL_law 613 = .ok (.aload_n 1, 1) := by decide +kernel
theorem dL_law_614 : decode cL_law 614 = .ok (.invokevirtual 76, 3) := by decide +kernel
theorem dL_law_617 : decode cL_law 617 = .ok (.aload_n 2, 1) := by decide +kernel
theorem dL_law_618 : decode cL_law 618 = .ok (.invokevirtual 80, 3) := by decide +kernel
theorem dL_law_621 : decode cL_law 621 = .ok (.if_icmp .eq 654, 3) := by decide +kernel
theorem dL_law_624 : decode cL_law 624 = .ok (.iconst 0, 1) := by decide +kernel
theorem dL_law_625 : decode cL_law 625 = .ok (.ireturn, 1) := by decide +kernel
theorem dL_law_626 : decode cL_law 626 = .ok (.aload_n 1, 1) := by decide +kernel
theorem dL_law_627 : decode cL_law 627 = .ok (.aload_n 0, 1) := by decide +kernel
theorem dL_law_628 : decode cL_law 628 = .ok (.iload_n 3, 1) := by decide +kernel
theorem dL_law_629 : decode cL_law 629 = .ok (.iconst 1, 1) := by decide +kernel
theorem dL_law_630 : decode cL_law 630 = .ok (.iadd, 1) := by decide +kernel
theorem dL_law_631 : decode cL_law 631 = .ok (.iaload, 1) := by decide +kernel
theorem dL_law_632 : decode cL_law 632 = .ok (.aload_n 0, 1) := by decide +kernel
theorem dL_law_633 : decode cL_law 633 = .ok (.iload_n 3, 1) := by decide +kernel
theorem dL_law_634 : decode cL_law 634 = .ok (.iconst 2, 1) := by decide +kernel
theorem dL_law_635 : decode cL_law 635 = .ok (.iadd, 1) := by decide +kernel
theorem dL_law_636 : decode cL_law 636 = .ok (.iaload, 1) := by decide +kernel
theorem dL_law_637 : decode cL_law 637 = .ok (.aload_n 0, 1) := by decide +kernel
theorem dL_law_638 : decode cL_law 638 = .ok (.iload_n 3, 1) := by decide +kernel
theorem dL_law_639 : decode cL_law 639 = .ok (.iconst 3, 1) := by decide +kernel
theorem dL_law_640 : decode cL_law 640 = .ok (.iadd, 1) := by decide +kernel
theorem dL_law_641 : decode cL_law 641 = .ok (.iaload, 1) := by decide +kernel
theorem dL_law_642 : decode cL_law 642 = .ok (.invokevirtual 81, 3) := by decide +kernel
theorem dL_law_645 : decode cL_law 645 = .ok (.aload_n 2, 1) := by decide +kernel
theorem dL_law_646 : decode cL_law 646 = .ok (.aload_n 0, 1) := by decide +kernel
theorem dL_law_647 : decode cL_law 647 = .ok (.iload_n 3, 1) := by decide +kernel
theorem dL_law_648 : decode cL_law 648 = .ok (.iconst 1, 1) := by decide +kernel
theorem dL_law_649 : decode cL_law 649 = .ok (.iadd, 1) := by decide +kernel
theorem dL_law_650 : decode cL_law 650 = .ok (.iaload, 1) := by decide +kernel
theorem dL_law_651 : decode cL_law 651 = .ok (.aload_n 0, 1) := by decide +kernel
theorem dL_law_652 : decode cL_law 652 = .ok (.iload_n 3, 1) := by decide +kernel
theorem dL_law_653 : decode cL_law 653 = .ok (.iconst 2, 1) := by decide +kernel
theorem dL_law_654 : decode cL_law 654 = .ok (.iadd, 1) := by decide +kernel
theorem dL_law_655 : decode cL_law 655 = .ok (.iaload, 1) := by decide +kernel
theorem dL_law_656 : decode cL_law 656 = .ok (.aload_n 0, 1) := by decide +kernel
theorem dL_law_657 : decode cL_law 657 = .ok (.iload_n 3, 1) := by decide +kernel
theorem dL_law_658 : decode cL_law 658 = .ok (.iconst 3, 1) := by decide +kernel
theorem dL_law_659 : decode cL_law 659 = .ok (.iadd, 1) := by decide +kernel
theorem dL_law_660 : decode cL_law 660 = .ok (.iaload, 1) := by decide +kernel
theorem dL_law_661 : decode cL_law 661 = .ok (.invokevirtual 84, 3) := by decide +kernel
theorem dL_law_664 : decode cL_law 664 = .ok (.if_icmp .eq 611, 3) := by decide +kernel
theorem dL_law_667 : decode cL_law 667 = .ok (.iconst 0, 1) := by decide +kernel
theorem dL_law_668 : decode cL_law 668 = .ok (.ireturn, 1) := by decide +kernel
theorem dL_law_669 : decode cL_law 669 = .ok (.aload_n 1, 1) := by decide +kernel
theorem dL_law_670 : decode cL_law 670 = .ok (.aload_n 0, 1) := by decide +kernel
theorem dL_law_671 : decode cL_law 671 = .ok (.iload_n 3, 1) := by decide +kernel
theorem dL_law_672 : decode cL_law 672 = .ok (.iconst 1, 1) := by decide +kernel
theorem dL_law_673 : decode cL_law 673 = .ok (.iadd, 1) := by decide +kernel
theorem dL_law_674 : decode cL_law 674 = .ok (.iaload, 1) := by decide +kernel
theorem dL_law_675 : decode cL_law 675 = .ok (.aload_n 0, 1) := by decide +kernel
theorem dL_law_676 : decode cL_law 676 = .ok (.iload_n 3, 1) := by decide +kernel
theorem dL_law_677 : decode cL_law 677 = .ok (.iconst 2, 1) := by decide +kernel
theorem dL_law_678 : decode cL_law 678 = .ok (.iadd, 1) := by decide +kernel
theorem dL_law_679 : decode cL_law 679 = .ok (.iaload, 1) := by decide +kernel
theorem dL_law_680 : decode cL_law 680 = .ok (.invokevirtual 85, 3) := by decide +kernel
theorem dL_law_683 : decode cL_law 683 = .ok (.aload_n 2, 1) := by decide +kernel
theorem dL_law_684 : decode cL_law 684 = .ok (.aload_n 0, 1) := by decide +kernel
theorem dL_law_685 : decode cL_law 685 = .ok (.iload_n 3, 1) := by decide +kernel
theorem dL_law_686 : decode cL_law 686 = .ok (.iconst 1, 1) := by decide +kernel
theorem dL_law_687 : decode cL_law 687 = .ok (.iadd, 1) := by decide +kernel
theorem dL_law_688 : decode cL_law 688 = .ok (.iaload, 1) := by decide +kernel
theorem dL_law_689 : decode cL_law 689 = .ok (.aload_n 0, 1) := by decide +kernel
theorem dL_law_690 : decode cL_law 690 = .ok (.iload_n 3, 1) := by decide +kernel
theorem dL_law_691 : decode cL_law 691 = .ok (.iconst 2, 1) := by decide +kernel
theorem dL_law_692 : decode cL_law 692 = .ok (.iadd, 1) := by decide +kernel
theorem dL_law_693 : decode cL_law 693 = .ok (.iaload, 1) := by decide +kernel
theorem dL_law_694 : decode cL_law 694 = .ok (.invokevirtual 88, 3) := by decide +kernel
theorem dL_law_697 : decode cL_law 697 = .ok (.if_icmp .eq 578, 3) := by decide +kernel
theorem dL_law_700 : decode cL_law 700 = .ok (.iconst 0, 1) := by decide +kernel
theorem dL_law_701 : decode cL_law 701 = .ok (.ireturn, 1) := by decide +kernel
theorem dL_law_702 : decode cL_law 702 = .ok (.aload_n 1, 1) := by decide +kernel
theorem dL_law_703 : decode cL_law 703 = .ok (.aload_n 0, 1) := by decide +kernel
theorem dL_law_704 : decode cL_law 704 = .ok (.iload_n 3, 1) := by decide +kernel
theorem dL_law_705 : decode cL_law 705 = .ok (.iconst 1, 1) := by decide +kernel
theorem dL_law_706 : decode cL_law 706 = .ok (.iadd, 1) := by decide +kernel
theorem dL_law_707 : decode cL_law 707 = .ok (.iaload, 1) := by decide +kernel
theorem dL_law_708 : decode cL_law 708 = .ok (.aload_n 0, 1) := by decide +kernel
theorem dL_law_709 : decode cL_law 709 = .ok (.iload_n 3, 1) := by decide +kernel
theorem dL_law_710 : decode cL_law 710 = .ok (.iconst 2, 1) := by decide +kernel
theorem dL_law_711 : decode cL_law 711 = .ok (.iadd, 1) := by decide +kernel
theorem dL_law_712 : decode cL_law 712 = .ok (.iaload, 1) := by decide +kernel
theorem dL_law_713 : decode cL_law 713 = .ok (.invokevirtual 89, 3) := by decide +kernel
theorem dL_law_716 : decode cL_law 716 = .ok (.aload_n 2, 1) := by decide +kernel
theorem dL_law_717 : decode cL_law 717 = .ok (.aload_n 0, 1) := by decide +kernel
theorem dL_law_718 : decode cL_law 718 = .ok (.iload_n 3, 1) := by decide +kernel
theorem dL_law_719 : decode cL_law 719 = .ok (.iconst 1, 1) := by decide +kernel
theorem dL_law_720 : decode cL_law 720 = .ok (.iadd, 1) := by decide +kernel
theorem dL_law_721 : decode cL_law 721 = .ok (.iaload, 1) := by decide +kernel
theorem dL_law_722 : decode cL_law 722 = .ok (.aload_n 0, 1) := by decide +kernel
theorem dL_law_723 : decode cL_law 723 = .ok (.iload_n 3, 1) := by decide +kernel
theorem dL_law_724 : decode cL_law 724 = .ok (.iconst 2, 1) := by decide +kernel
theorem dL_law_725 : decode cL_law 725 = .ok (.iadd, 1) := by decide +kernel
theorem dL_law_726 : decode cL_law 726 = .ok (.iaload, 1) := by decide +kernel
theorem dL_law_727 : decode cL_law 727 = .ok (.invokevirtual 92, 3) := by decide +kernel
theorem dL_law_730 : decode cL_law 730 = .ok (.if_icmp .eq 545, 3) := by decide +kernel
theorem dL_law_733 : decode cL_law 733 = .ok (.iconst 0, 1) := by decide +kernel
theorem dL_law_734 : decode cL_law 734 = .ok (.ireturn, 1) := by decide +kernel
theorem dL_law_735 : decode cL_law 735 = .ok (.aload_n 1, 1) := by decide +kernel
theorem dL_law_736 : decode cL_law 736 = .ok (.invokevirtual 93, 3) := by decide +kernel
theorem dL_law_739 : decode cL_law 739 = .ok (.aload_n 2, 1) := by decide +kernel
theorem dL_law_740 : decode cL_law 740 = .ok (.invokevirtual 96, 3) := by decide +kernel
theorem dL_law_743 : decode cL_law 743 = .ok (.if_icmp .eq 532, 3) := by decide +kernel
theorem dL_law_746 : decode cL_law 746 = .ok (.iconst 0, 1) := by decide +kernel
theorem dL_law_747 : decode cL_law 747 = .ok (.ireturn, 1) := by decide +kernel
theorem dL_law_748 : decode cL_law 748 = .ok (.aload_n 1, 1) := by decide +kernel
theorem dL_law_749 : decode cL_law 749 = .ok (.aload_n 0, 1) := by decide +kernel
theorem dL_law_750 : decode cL_law 750 = .ok (.iload_n 3, 1) := by decide +kernel
theorem dL_law_751 : decode cL_law 751 = .ok (.iconst 1, 1) := by decide +kernel
theorem dL_law_752 : decode cL_law 752 = .ok (.iadd, 1) := by decide +kernel
theorem dL_law_753 : decode cL_law 753 = .ok (.iaload, 1) := by decide +kernel
theorem dL_law_754 : decode cL_law 754 = .ok (.aload_n 0, 1) := by decide +kernel
theorem dL_law_755 : decode cL_law 755 = .ok (.iload_n 3, 1) := by decide +kernel
theorem dL_law_756 : decode cL_law 756 = .ok (.iconst 2, 1) := by decide +kernel
theorem dL_law_757 : decode cL_law 757 = .ok (.iadd, 1) := by decide +kernel
theorem dL_law_758 : decode cL_law 758 = .ok (.iaload, 1) := by decide +kernel
theorem dL_law_759 : decode cL_law 759 = .ok (.aload_n 0, 1) := by decide +kernel
theorem dL_law_760 : decode cL_law 760 = .ok (.iload_n 3, 1) := by decide +kernel
theorem dL_law_761 : decode cL_law 761 = .ok (.iconst 3, 1) := by decide +kernel
theorem dL_law_762 : decode cL_law 762 = .ok (.iadd, 1) := by decide +kernel
theorem dL_law_763 : decode cL_law 763 = .ok (.iaload, 1) := by decide +kernel
theorem dL_law_764 : decode cL_law 764 = .ok (.invokevirtual 97, 3) := by decide +kernel
theorem dL_law_767 : decode cL_law 767 = .ok (.aload_n 2, 1) := by decide +kernel
theorem dL_law_768 : decode cL_law 768 = .ok (.aload_n 0, 1) := by decide +kernel
theorem dL_law_769 : decode cL_law 769 = .ok (.iload_n 3, 1) := by decide +kernel
theorem dL_law_770 : decode cL_law 770 = .ok (.iconst 1, 1) := by decide +kernel
theorem dL_law_771 : decode cL_law 771 = .ok (.iadd, 1) := by decide +kernel
theorem dL_law_772 : decode cL_law 772 = .ok (.iaload, 1) := by decide +kernel
theorem dL_law_773 : decode cL_law 773 = .ok (.aload_n 0, 1) := by decide +kernel
theorem dL_law_774 : decode cL_law 774 = .ok (.iload_n 3, 1) := by decide +kernel
theorem dL_law_775 : decode cL_law 775 = .ok (.iconst 2, 1) := by decide +kernel
theorem dL_law_776 : decode cL_law 776 = .ok (.iadd, 1) := by decide +kernel
theorem dL_law_777 : decode cL_law 777 = .ok (.iaload, 1) := by decide +kernel
theorem dL_law_778 : decode cL_law 778 = .ok (.aload_n 0, 1) := by decide +kernel
theorem dL_law_779 : decode cL_law 779 = .ok (.iload_n 3, 1) := by decide +kernel
theorem dL_law_780 : decode cL_law 780 = .ok (.iconst 3, 1) := by decide +kernel
theorem dL_law_781 : decode cL_law 781 = .ok (.iadd, 1) := by decide +kernel
theorem dL_law_782 : decode cL_law 782 = .ok (.iaload, 1) := by decide +kernel
theorem dL_law_783 : decode cL_law 783 = .ok (.invokevirtual 100, 3) := by decide +kernel
theorem dL_law_786 : decode cL_law 786 = .ok (.if_icmp .eq 489, 3) := by decide +kernel
theorem dL_law_789 : decode cL_law 789 = .ok (.iconst 0, 1) := by decide +kernel
theorem dL_law_790 : decode cL_law 790 = .ok (.ireturn, 1) := by decide +kernel
theorem dL_law_791 : decode cL_law 791 = .ok (.aload_n 1, 1) := by decide +kernel
theorem dL_law_792 : decode cL_law 792 = .ok (.invokevirtual 101, 3) := by decide +kernel
theorem dL_law_795 : decode cL_law 795 = .ok (.aload_n 2, 1) := by decide +kernel
theorem dL_law_796 : decode cL_law 796 = .ok (.invokevirtual 104, 3) := by decide +kernel
theorem dL_law_799 : decode cL_law 799 = .ok (.if_icmp .eq 476, 3) := by decide +kernel
theorem dL_law_802 : decode cL_law 802 = .ok (.iconst 0, 1) := by decide +kernel
theorem dL_law_803 : decode cL_law 803 = .ok (.ireturn, 1) := by decide +kernel
theorem dL_law_804 : decode cL_law 804 = .ok (.aload_n 1, 1) := by decide +kernel
theorem dL_law_805 : decode cL_law 805 = .ok (.invokevirtual 105, 3) := by decide +kernel
theorem dL_law_808 : decode cL_law 808 = .ok (.aload_n 2, 1) := by decide +kernel
theorem dL_law_809 : decode cL_law 809 = .ok (.invokevirtual 108, 3) := by decide +kernel
theorem dL_law_812 : decode cL_law 812 = .ok (.if_icmp .eq 463, 3) := by decide +kernel
theorem dL_law_815 : decode cL_law 815 = .ok (.iconst 0, 1) := by decide +kernel
theorem dL_law_816 : decode cL_law 816 = .ok (.ireturn, 1) := by decide +kernel
theorem dL_law_817 : decode cL_law 817 = .ok (.aload_n 1, 1) := by decide +kernel
theorem dL_law_818 : decode cL_law 818 = .ok (.aload_n 0, 1) := by decide +kernel
theorem dL_law_819 : decode cL_law 819 = .ok (.iload_n 3, 1) := by decide +kernel
theorem dL_law_820 : decode cL_law 820 = .ok (.iconst 1, 1) := by decide +kernel
theorem dL_law_821 : decode cL_law 821 = .ok (.iadd, 1) := by decide +kernel
theorem dL_law_822 : decode cL_law 822 = .ok (.iaload, 1) := by decide +kernel
theorem dL_law_823 : decode cL_law 823 = .ok (.aload_n 0, 1) := by decide +kernel
theorem dL_law_824 : decode cL_law 824 = .ok (.iload_n 3, 1) := by decide +kernel
theorem dL_law_825 : decode cL_law 825 = .ok (.iconst 2, 1) := by decide +kernel
theorem dL_law_826 : decode cL_law 826 = .ok (.iadd, 1) := by decide +kernel
theorem dL_law_827 : decode cL_law 827 = .ok (.iaload, 1) := by decide +kernel
theorem dL_law_828 : decode cL_law 828 = .ok (.invokevirtual 109, 3) := by decide +kernel
theorem dL_law_831 : decode cL_law 831 = .ok (.aload_n 2, 1) := by decide +kernel
theorem dL_law_832 : decode cL_law 832 = .ok (.aload_n 0, 1) := by decide +kernel
theorem dL_law_833 : decode cL_law 833 = .ok (.iload_n 3, 1) := by decide +kernel
theorem dL_law_834 : decode cL_law 834 = .ok (.iconst 1, 1) := by decide +kernel
theorem dL_law_835 : decode cL_law 835 = .ok (.iadd, 1) := by decide +kernel
theorem dL_law_836 : decode cL_law 836 = .ok (.iaload, 1) := by decide +kernel
theorem dL_law_837 : decode cL_law 837 = .ok (.aload_n 0, 1) := by decide +kernel
theorem dL_law_838 : decode cL_law 838 = .ok (.iload_n 3, 1) := by decide +kernel
theorem dL_law_839 : decode cL_law 839 = .ok (.iconst 2, 1) := by decide +kernel
theorem dL_law_840 : decode cL_law 840 = .ok (.iadd, 1) := by decide +kernel
theorem dL_law_841 : decode cL_law 841 = .ok (.iaload, 1) := by decide +kernel
theorem dL_law_842 : decode cL_law 842 = .ok (.invokevirtual 112, 3) := by decide +kernel
theorem dL_law_845 : decode cL_law 845 = .ok (.if_icmp .eq 430, 3) := by decide +kernel
theorem dL_law_848 : decode cL_law 848 = .ok (.iconst 0, 1) := by decide +kernel
theorem dL_law_849 : decode cL_law 849 = .ok (.ireturn, 1) := by decide +kernel
theorem dL_law_850 : decode cL_law 850 = .ok (.aload_n 1, 1) := by decide +kernel
theorem dL_law_851 : decode cL_law 851 = .ok (.aload_n 0, 1) := by decide +kernel
theorem dL_law_852 : decode cL_law 852 = .ok (.iload_n 3, 1) := by decide +kernel
theorem dL_law_853 : decode cL_law 853 = .ok (.iconst 1, 1) := by decide +kernel
theorem dL_law_854 : decode cL_law 854 = .ok (.iadd, 1) := by decide +kernel
theorem dL_law_855 : decode cL_law 855 = .ok (.iaload, 1) := by decide +kernel
theorem dL_law_856 : decode cL_law 856 = .ok (.invokevirtual 113, 3) := by decide +kernel
theorem dL_law_859 : decode cL_law 859 = .ok (.aload_n 2, 1) := by decide +kernel
theorem dL_law_860 : decode cL_law 860 = .ok (.aload_n 0, 1) := by decide +kernel
theorem dL_law_861 : decode cL_law 861 = .ok (.iload_n 3, 1) := by decide +kernel
theorem dL_law_862 : decode cL_law 862 = .ok (.iconst 1, 1) := by decide +kernel
theorem dL_law_863 : decode cL_law 863 = .ok (.iadd, 1) := by decide +kernel
theorem dL_law_864 : decode cL_law 864 = .ok (.iaload, 1) := by decide +kernel
theorem dL_law_865 : decode cL_law 865 = .ok (.invokevirtual 116, 3) := by decide +kernel
theorem dL_law_868 : decode cL_law 868 = .ok (.if_icmp .eq 407, 3) := by decide +kernel
theorem dL_law_871 : decode cL_law 871 = .ok (.iconst 0, 1) := by decide +kernel
theorem dL_law_872 : decode cL_law 872 = .ok (.ireturn, 1) := by decide +kernel
theorem dL_law_873 : decode cL_law 873 = .ok (.aload_n 1, 1) := by decide +kernel
theorem dL_law_874 : decode cL_law 874 = .ok (.aload_n 0, 1) := by decide +kernel
theorem dL_law_875 : decode cL_law 875 = .ok (.iload_n 3, 1) := by decide +kernel
theorem dL_law_876 : decode cL_law 876 = .ok (.iconst 1, 1) := by decide +kernel
theorem dL_law_877 : decode cL_law 877 = .ok (.iadd, 1) := by decide +kernel
theorem dL_law_878 : decode cL_law 878 = .ok (.iaload, 1) := by decide +kernel
theorem dL_law_879 : decode cL_law 879 = .ok (.aload_n 0, 1) := by decide +kernel
theorem dL_law_880 : decode cL_law 880 = .ok (.iload_n 3, 1) := by decide +kernel
theorem dL_law_881 : decode cL_law 881 = .ok (.iconst 2, 1) := by decide +kernel
theorem dL_law_882 : decode cL_law 882 = .ok (.iadd, 1) := by decide +kernel
theorem dL_law_883 : decode cL_law 883 = .ok (.iaload, 1) := by decide +kernel
theorem dL_law_884 : decode cL_law 884 = .ok (.aload_n 0, 1) := by decide +kernel
theorem dL_law_885 : decode cL_law 885 = .ok (.iload_n 3, 1) := by decide +kernel
theorem dL_law_886 : decode cL_law 886 = .ok (.iconst 3, 1) := by decide +kernel
theorem dL_law_887 : decode cL_law 887 = .ok (.iadd, 1) := by decide +kernel
theorem dL_law_888 : decode cL_law 888 = .ok (.iaload, 1) := by decide +kernel
theorem dL_law_889 : decode cL_law 889 = .ok (.aload_n 0, 1) := by decide +kernel
theorem dL_law_890 : decode cL_law 890 = .ok (.iload_n 3, 1) := by decide +kernel
theorem dL_law_891 : decode cL_law 891 = .ok (.iconst 4, 1) := by decide +kernel
theorem dL_law_892 : decode cL_law 892 = .ok (.iadd, 1) := by decide +kernel
theorem dL_law_893 : decode cL_law 893 = .ok (.iaload, 1) := by decide +kernel
theorem dL_law_894 : decode cL_law 894 = .ok (.aload_n 0, 1) := by decide +kernel
theorem dL_law_895 : decode cL_law 895 = .ok (.iload_n 3, 1) := by decide +kernel
theorem dL_law_896 : decode cL_law 896 = .ok (.iconst 5, 1) := by decide +kernel
theorem dL_law_897 : decode cL_law 897 = .ok (.iadd, 1) := by decide +kernel
theorem dL_law_898 : decode cL_law 898 = .ok (.iaload, 1) := by decide +kernel
theorem dL_law_899 : decode cL_law 899 = .ok (.invokevirtual 117, 3) := by decide +kernel
theorem dL_law_902 : decode cL_law 902 = .ok (.aload_n 2, 1) := by decide +kernel
theorem dL_law_903 : decode cL_law 903 = .ok (.aload_n 0, 1) := by decide +kernel
theorem dL_law_904 : decode cL_law 904 = .ok (.iload_n 3, 1) := by decide +kernel
theorem dL_law_905 : decode cL_law 905 = .ok (.iconst 1, 1) := by decide +kernel
theorem dL_law_906 : decode cL_law 906 = .ok (.iadd, 1) := by decide +kernel
theorem dL_law_907 : decode cL_law 907 = .ok (.iaload, 1) := by decide +kernel
theorem dL_law_908 : decode cL_law 908 = .ok (.aload_n 0, 1) := by decide +kernel
theorem dL_law_909 : decode cL_law 909 = .ok (.iload_n 3, 1) := by decide +kernel
theorem dL_law_910 : decode cL_law 910 = .ok (.iconst 2, 1) := by decide +kernel
theorem dL_law_911 : decode cL_law 911 = .ok (.iadd, 1) := by decide +kernel
theorem dL_law_912 : decode cL_law 912 = .ok (.iaload, 1) := by decide +kernel
theorem dL_law_913 : decode cL_law 913 = .ok (.aload_n 0, 1) := by decide +kernel
theorem dL_law_914 : decode cL_law 914 = .ok (.iload_n 3, 1) := by decide +kernel
theorem dL_law_915 : decode cL_law 915 = .ok (.iconst 3, 1) := by decide +kernel
theorem dL_law_916 : decode cL_law 916 = .ok (.iadd, 1) := by decide +kernel
theorem dL_law_917 : decode cL_law 917 = .ok (.iaload, 1) := by decide +kernel
theorem dL_law_918 : decode cL_law 918 = .ok (.aload_n 0, 1) := by decide +kernel
theorem dL_law_919 : decode cL_law 919 = .ok (.iload_n 3, 1) := by decide +kernel
theorem dL_law_920 : decode cL_law 920 = .ok (.iconst 4, 1) := by decide +kernel
theorem dL_law_921 : decode cL_law 921 = .ok (.iadd, 1) := by decide +kernel
theorem dL_law_922 : decode cL_law 922 = .ok (.iaload, 1) := by decide +kernel
theorem dL_law_923 : decode cL_law 923 = .ok (.aload_n 0, 1) := by decide +kernel
theorem dL_law_924 : decode cL_law 924 = .ok (.iload_n 3, 1) := by decide +kernel
theorem dL_law_925 : decode cL_law 925 = .ok (.iconst 5, 1) := by decide +kernel
theorem dL_law_926 : decode cL_law 926 = .ok (.iadd, 1) := by decide +kernel
theorem dL_law_927 : decode cL_law 927 = .ok (.iaload, 1) := by decide +kernel
theorem dL_law_928 : decode cL_law 928 = .ok (.invokevirtual 121, 3) := by decide +kernel
theorem dL_law_931 : decode cL_law 931 = .ok (.lcmp, 1) := by decide +kernel
theorem dL_law_932 : decode cL_law 932 = .ok (.ifCond .eq 343, 3) := by decide +kernel
theorem dL_law_935 : decode cL_law 935 = .ok (.iconst 0, 1) := by decide +kernel
theorem dL_law_936 : decode cL_law 936 = .ok (.ireturn, 1) := by decide +kernel
theorem dL_law_937 : decode cL_law 937 = .ok (.aload_n 1, 1) := by decide +kernel
theorem dL_law_938 : decode cL_law 938 = .ok (.aload_n 0, 1) := by decide +kernel
theorem dL_law_939 : decode cL_law 939 = .ok (.iload_n 3, 1) := by decide +kernel
theorem dL_law_940 : decode cL_law 940 = .ok (.iconst 1, 1) := by decide +kernel
theorem dL_law_941 : decode cL_law 941 = .ok (.iadd, 1) := by decide +kernel
theorem dL_law_942 : decode cL_law 942 = .ok (.iaload, 1) := by decide +kernel
theorem dL_law_943 : decode cL_law 943 = .ok (.aload_n 0, 1) := by decide +kernel
theorem dL_law_944 : decode cL_law 944 = .ok (.iload_n 3, 1) := by decide +kernel
theorem dL_law_945 : decode cL_law 945 = .ok (.iconst 2, 1) := by decide +kernel
theorem dL_law_946 : decode cL_law 946 = .ok (.iadd, 1) := by decide +kernel
theorem dL_law_947 : decode cL_law 947 = .ok (.iaload, 1) := by decide +kernel
theorem dL_law_948 : decode cL_law 948 = .ok (.aload_n 0, 1) := by decide +kernel
theorem dL_law_949 : decode cL_law 949 = .ok (.iload_n 3, 1) := by decide +kernel
theorem dL_law_950 : decode cL_law 950 = .ok (.iconst 3, 1) := by decide +kernel
theorem dL_law_951 : decode cL_law 951 = .ok (.iadd, 1) := by decide +kernel
theorem dL_law_952 : decode cL_law 952 = .ok (.iaload, 1) := by decide +kernel
theorem dL_law_953 : decode cL_law 953 = .ok (.invokevirtual 122, 3) := by decide +kernel
theorem dL_law_956 : decode cL_law 956 = .ok (.aload_n 2, 1) := by decide +kernel
theorem dL_law_957 : decode cL_law 957 = .ok (.aload_n 0, 1) := by decide +kernel
theorem dL_law_958 : decode cL_law 958 = .ok (.iload_n 3, 1) := by decide +kernel
theorem dL_law_959 : decode cL_law 959 = .ok (.iconst 1, 1) := by decide +kernel
theorem dL_law_960 : decode cL_law 960 = .ok (.iadd, 1) := by decide +kernel
theorem dL_law_961 : decode cL_law 961 = .ok (.iaload, 1) := by decide +kernel
theorem dL_law_962 : decode cL_law 962 = .ok (.aload_n 0, 1) := by decide +kernel
theorem dL_law_963 : decode cL_law 963 = .ok (.iload_n 3, 1) := by decide +kernel
theorem dL_law_964 : decode cL_law 964 = .ok (.iconst 2, 1) := by decide +kernel
theorem dL_law_965 : decode cL_law 965 = .ok (.iadd, 1) := by decide +kernel
theorem dL_law_966 : decode cL_law 966 = .ok (.iaload, 1) := by decide +kernel
theorem dL_law_967 : decode cL_law 967 = .ok (.aload_n 0, 1) := by decide +kernel
theorem dL_law_968 : decode cL_law 968 = .ok (.iload_n 3, 1) := by decide +kernel
theorem dL_law_969 : decode cL_law 969 = .ok (.iconst 3, 1) := by decide +kernel
theorem dL_law_970 : decode cL_law 970 = .ok (.iadd, 1) := by decide +kernel
theorem dL_law_971 : decode cL_law 971 = .ok (.iaload, 1) := by decide +kernel
theorem dL_law_972 : decode cL_law 972 = .ok (.invokevirtual 125, 3) := by decide +kernel
theorem dL_law_975 : decode cL_law 975 = .ok (.if_icmp .eq 300, 3) := by decide +kernel
theorem dL_law_978 : decode cL_law 978 = .ok (.iconst 0, 1) := by decide +kernel
theorem dL_law_979 : decode cL_law 979 = .ok (.ireturn, 1) := by decide +kernel
theorem dL_law_980 : decode cL_law 980 = .ok (.aload_n 1, 1) := by decide +kernel
theorem dL_law_981 : decode cL_law 981 = .ok (.aload_n 0, 1) := by decide +kernel
theorem dL_law_982 : decode cL_law 982 = .ok (.iload_n 3, 1) := by decide +kernel
theorem dL_law_983 : decode cL_law 983 = .ok (.iconst 1, 1) := by decide +kernel
theorem dL_law_984 : decode cL_law 984 = .ok (.iadd, 1) := by decide +kernel
theorem dL_law_985 : decode cL_law 985 = .ok (.iaload, 1) := by decide +kernel
theorem dL_law_986 : decode cL_law 986 = .ok (.aload_n 0, 1) := by decide +kernel
theorem dL_law_987 : decode cL_law 987 = .ok (.iload_n 3, 1) := by decide +kernel
theorem dL_law_988 : decode cL_law 988 = .ok (.iconst 2, 1) := by decide +kernel
theorem dL_law_989 : decode cL_law 989 = .ok (.iadd, 1) := by decide +kernel
theorem dL_law_990 : decode cL_law 990 = .ok (.iaload, 1) := by decide +kernel
theorem dL_law_991 : decode cL_law 991 = .ok (.aload_n 0, 1) := by decide +kernel
theorem dL_law_992 : decode cL_law 992 = .ok (.iload_n 3, 1) := by decide +kernel
theorem dL_law_993 : decode cL_law 993 = .ok (.iconst 3, 1) := by decide +kernel
theorem dL_law_994 : decode cL_law 994 = .ok (.iadd, 1) := by decide +kernel
theorem dL_law_995 : decode cL_law 995 = .ok (.iaload, 1) := by decide +kernel
theorem dL_law_996 : decode cL_law 996 = .ok (.invokevirtual 126, 3) := by decide +kernel
theorem dL_law_999 : decode cL_law 999 = .ok (.aload_n 2, 1) := by decide +kernel
theorem dL_law_1000 : decode cL_law 1000 = .ok (.aload_n 0, 1) := by decide +kernel
theorem dL_law_1001 : decode cL_law 1001 = .ok (.iload_n 3, 1) := by decide +kernel
theorem dL_law_1002 : decode cL_law 1002 = .ok (.iconst 1, 1) := by decide +kernel
theorem dL_law_1003 : decode cL_law 1003 = .ok (.iadd, 1) := by decide +kernel
theorem dL_law_1004 : decode cL_law 1004 = .ok (.iaload, 1) := by decide +kernel
theorem dL_law_1005 : decode cL_law 1005 = .ok (.aload_n 0, 1) := by decide +kernel
theorem dL_law_1006 : decode cL_law 1006 = .ok (.iload_n 3, 1) := by decide +kernel
theorem dL_law_1007 : decode cL_law 1007 = .ok (.iconst 2, 1) := by decide +kernel
theorem dL_law_1008 : decode cL_law 1008 = .ok (.iadd, 1) := by decide +kernel
theorem dL_law_1009 : decode cL_law 1009 = .ok (.iaload, 1) := by decide +kernel
theorem dL_law_1010 : decode cL_law 1010 = .ok (.aload_n 0, 1) := by decide +kernel
theorem dL_law_1011 : decode cL_law 1011 = .ok (.iload_n 3, 1) := by decide +kernel
theorem dL_law_1012 : decode cL_law 1012 = .ok (.iconst 3, 1) := by decide +kernel
theorem dL_law_1013 : decode cL_law 1013 = .ok (.iadd, 1) := by decide +kernel
theorem dL_law_1014 : decode cL_law 1014 = .ok (.iaload, 1) := by decide +kernel
theorem dL_law_1015 : decode cL_law 1015 = .ok (.invokevirtual 129, 3) := by decide +kernel
theorem dL_law_1018 : decode cL_law 1018 = .ok (.if_icmp .eq 257, 3) := by decide +kernel
theorem dL_law_1021 : decode cL_law 1021 = .ok (.iconst 0, 1) := by decide +kernel
theorem dL_law_1022 : decode cL_law 1022 = .ok (.ireturn, 1) := by decide +kernel
theorem dL_law_1023 : decode cL_law 1023 = .ok (.aload_n 1, 1) := by decide +kernel
theorem dL_law_1024 : decode cL_law 1024 = .ok (.aload_n 0, 1) := by decide +kernel
theorem dL_law_1025 : decode cL_law 1025 = .ok (.iload_n 3, 1) := by decide +kernel
theorem dL_law_1026 : decode cL_law 1026 = .ok (.iconst 1, 1) := by decide +kernel
theorem dL_law_1027 : decode cL_law 1027 = .ok (.iadd, 1) := by decide +kernel
theorem dL_law_1028 : decode cL_law 1028 = .ok (.iaload, 1) := by decide +kernel
theorem dL_law_1029 : decode cL_law 1029 = .ok (.invokevirtual 130, 3) := by decide +kernel
theorem dL_law_1032 : decode cL_law 1032 = .ok (.aload_n 2, 1) := by decide +kernel
theorem dL_law_1033 : decode cL_law 1033 = .ok (.aload_n 0, 1) := by decide +kernel
theorem dL_law_1034 : decode cL_law 1034 = .ok (.iload_n 3, 1) := by decide +kernel
theorem dL_law_1035 : decode cL_law 1035 = .ok (.iconst 1, 1) := by decide +kernel
theorem dL_law_1036 : decode cL_law 1036 = .ok (.iadd, 1) := by decide +kernel
theorem dL_law_1037 : decode cL_law 1037 = .ok (.iaload, 1) := by decide +kernel
theorem dL_law_1038 : decode cL_law 1038 = .ok (.invokevirtual 133, 3) := by decide +kernel
theorem dL_law_1041 : decode cL_law 1041 = .ok (.if_icmp .eq 234, 3) := by decide +kernel
theorem dL_law_1044 : decode cL_law 1044 = .ok (.iconst 0, 1) := by decide +kernel
theorem dL_law_1045 : decode cL_law 1045 = .ok (.ireturn, 1) := by decide +kernel
theorem dL_law_1046 : decode cL_law 1046 = .ok (.aload_n 1, 1) := by decide +kernel
theorem dL_law_1047 : decode cL_law 1047 = .ok (.aload_n 0, 1) := by decide +kernel
theorem dL_law_1048 : decode cL_law 1048 = .ok (.iload_n 3, 1) := by decide +kernel
theorem dL_law_1049 : decode cL_law 1049 = .ok (.iconst 1, 1) := by decide +kernel
theorem dL_law_1050 : decode cL_law 1050 = .ok (.iadd, 1) := by decide +kernel
theorem dL_law_1051 : decode cL_law 1051 = .ok (.iaload, 1) := by decide +kernel
theorem dL_law_1052 : decode cL_law 1052 = .ok (.aload_n 0, 1) := by decide +kernel
theorem dL_law_1053 : decode cL_law 1053 = .ok (.iload_n 3, 1) := by decide +kernel
theorem dL_law_1054 : decode cL_law 1054 = .ok (.iconst 2, 1) := by decide +kernel
theorem dL_law_1055 : decode cL_law 1055 = .ok (.iadd, 1) := by decide +kernel
theorem dL_law_1056 : decode cL_law 1056 = .ok (.iaload, 1) := by decide +kernel
theorem dL_law_1057 : decode cL_law 1057 = .ok (.aload_n 0, 1) := by decide +kernel
theorem dL_law_1058 : decode cL_law 1058 = .ok (.iload_n 3, 1) := by decide +kernel
theorem dL_law_1059 : decode cL_law 1059 = .ok (.iconst 3, 1) := by decide +kernel
theorem dL_law_1060 : decode cL_law 1060 = .ok (.iadd, 1) := by decide +kernel
theorem dL_law_1061 : decode cL_law 1061 = .ok (.iaload, 1) := by decide +kernel
theorem dL_law_1062 : decode cL_law 1062 = .ok (.aload_n 0, 1) := by decide +kernel
theorem dL_law_1063 : decode cL_law 1063 = .ok (.iload_n 3, 1) := by decide +kernel
theorem dL_law_1064 : decode cL_law 1064 = .ok (.iconst 4, 1) := by decide +kernel
theorem dL_law_1065 : decode cL_law 1065 = .ok (.iadd, 1) := by decide +kernel
theorem dL_law_1066 : decode cL_law 1066 = .ok (.iaload, 1) := by decide +kernel
theorem dL_law_1067 : decode cL_law 1067 = .ok (.invokevirtual 134, 3) := by decide +kernel
theorem dL_law_1070 : decode cL_law 1070 = .ok (.aload_n 2, 1) := by decide +kernel
theorem dL_law_1071 : decode cL_law 1071 = .ok (.aload_n 0, 1) := by decide +kernel
theorem dL_law_1072 : decode cL_law 1072 = .ok (.iload_n 3, 1) := by decide +kernel
theorem dL_law_1073 : decode cL_law 1073 = .ok (.iconst 1, 1) := by decide +kernel
theorem dL_law_1074 : decode cL_law 1074 = .ok (.iadd, 1) := by decide +kernel
theorem dL_law_1075 : decode cL_law 1075 = .ok (.iaload, 1) := by decide +kernel
theorem dL_law_1076 : decode cL_law 1076 = .ok (.aload_n 0, 1) := by decide +kernel
theorem dL_law_1077 : decode cL_law 1077 = .ok (.iload_n 3, 1) := by decide +kernel
theorem dL_law_1078 : decode cL_law 1078 = .ok (.iconst 2, 1) := by decide +kernel
theorem dL_law_1079 : decode cL_law 1079 = .ok (.iadd, 1) := by decide +kernel
theorem dL_law_1080 : decode cL_law 1080 = .ok (.iaload, 1) := by decide +kernel
theorem dL_law_1081 : decode cL_law 1081 = .ok (.aload_n 0, 1) := by decide +kernel
theorem dL_law_1082 : decode cL_law 1082 = .ok (.iload_n 3, 1) := by decide +kernel
theorem dL_law_1083 : decode cL_law 1083 = .ok (.iconst 3, 1) := by decide +kernel
theorem dL_law_1084 : decode cL_law 1084 = .ok (.iadd, 1) := by decide +kernel
theorem dL_law_1085 : decode cL_law 1085 = .ok (.iaload, 1) := by decide +kernel
theorem dL_law_1086 : decode cL_law 1086 = .ok (.aload_n 0, 1) := by decide +kernel
theorem dL_law_1087 : decode cL_law 1087 = .ok (.iload_n 3, 1) := by decide +kernel
theorem dL_law_1088 : decode cL_law 1088 = .ok (.iconst 4, 1) := by decide +kernel
theorem dL_law_1089 : decode cL_law 1089 = .ok (.iadd, 1) := by decide +kernel
theorem dL_law_1090 : decode cL_law 1090 = .ok (.iaload, 1) := by decide +kernel
theorem dL_law_1091 : decode cL_law 1091 = .ok (.invokevirtual 138, 3) := by decide +kernel
theorem dL_law_1094 : decode cL_law 1094 = .ok (.if_icmp .eq 181, 3) := by decide +kernel
theorem dL_law_1097 : decode cL_law 1097 = .ok (.iconst 0, 1) := by decide +kernel
theorem dL_law_1098 : decode cL_law 1098 = .ok (.ireturn, 1) := by decide +kernel
theorem dL_law_1099 : decode cL_law 1099 = .ok (.aload_n 1, 1) := by decide +kernel
theorem dL_law_1100 : decode cL_law 1100 = .ok (.aload_n 0, 1) := by decide +kernel
theorem dL_law_1101 : decode cL_law 1101 = .ok (.iload_n 3, 1) := by decide +kernel
theorem dL_law_1102 : decode cL_law 1102 = .ok (.iconst 1, 1) := by decide +kernel
theorem dL_law_1103 : decode cL_law 1103 = .ok (.iadd, 1) := by decide +kernel
theorem dL_law_1104 : decode cL_law 1104 = .ok (.iaload, 1) := by decide +kernel
theorem dL_law_1105 : decode cL_law 1105 = .ok (.aload_n 0, 1) := by decide +kernel
theorem dL_law_1106 : decode cL_law 1106 = .ok (.iload_n 3, 1) := by decide +kernel
theorem dL_law_1107 : decode cL_law 1107 = .ok (.iconst 2, 1) := by decide +kernel
theorem dL_law_1108 : decode cL_law 1108 = .ok (.iadd, 1) := by decide +kernel
theorem dL_law_1109 : decode cL_law 1109 = .ok (.iaload, 1) := by decide +kernel
theorem dL_law_1110 : decode cL_law 1110 = .ok (.aload_n 0, 1) := by decide +kernel
theorem dL_law_1111 : decode cL_law 1111 = .ok (.iload_n 3, 1) := by decide +kernel
theorem dL_law_1112 : decode cL_law 1112 = .ok (.iconst 3, 1) := by decide +kernel
theorem dL_law_1113 : decode cL_law 1113 = .ok (.iadd, 1) := by decide +kernel
theorem dL_law_1114 : decode cL_law 1114 = .ok (.iaload, 1) := by decide +kernel
theorem dL_law_1115 : decode cL_law 1115 = .ok (.invokevirtual 139, 3) := by decide +kernel
theorem dL_law_1118 : decode cL_law 1118 = .ok (.aload_n 2, 1) := by decide +kernel
theorem dL_law_1119 : decode cL_law 1119 = .ok (.aload_n 0, 1) := by decide +kernel
theorem dL_law_1120 : decode cL_law 1120 = .ok (.iload_n 3, 1) := by decide +kernel
theorem dL_law_1121 : decode cL_law 1121 = .ok (.iconst 1, 1) := by decide +kernel
theorem dL_law_1122 : decode cL_law 1122 = .ok (.iadd, 1) := by decide +kernel
theorem dL_law_1123 : decode cL_law 1123 = .ok (.iaload, 1) := by decide +kernel
theorem dL_law_1124 : decode cL_law 1124 = .ok (.aload_n 0, 1) := by decide +kernel
theorem dL_law_1125 : decode cL_law 1125 = .ok (.iload_n 3, 1) := by decide +kernel
theorem dL_law_1126 : decode cL_law 1126 = .ok (.iconst 2, 1) := by decide +kernel
theorem dL_law_1127 : decode cL_law 1127 = .ok (.iadd, 1) := by decide +kernel
theorem dL_law_1128 : decode cL_law 1128 = .ok (.iaload, 1) := by decide +kernel
theorem dL_law_1129 : decode cL_law 1129 = .ok (.aload_n 0, 1) := by decide +kernel
theorem dL_law_1130 : decode cL_law 1130 = .ok (.iload_n 3, 1) := by decide +kernel
theorem dL_law_1131 : decode cL_law 1131 = .ok (.iconst 3, 1) := by decide +kernel
theorem dL_law_1132 : decode cL_law 1132 = .ok (.iadd, 1) := by decide +kernel
theorem dL_law_1133 : decode cL_law 1133 = .ok (.iaload, 1) := by decide +kernel
theorem dL_law_1134 : decode cL_law 1134 = .ok (.invokevirtual 142, 3) := by decide +kernel
theorem dL_law_1137 : decode cL_law 1137 = .ok (.if_icmp .eq 138, 3) := by decide +kernel
theorem dL_law_1140 : decode cL_law 1140 = .ok (.iconst 0, 1) := by decide +kernel
theorem dL_law_1141 : decode cL_law 1141 = .ok (.ireturn, 1) := by decide +kernel
theorem dL_law_1142 : decode cL_law 1142 = .ok (.aload_n 1, 1) := by decide +kernel
theorem dL_law_1143 : decode cL_law 1143 = .ok (.aload_n 0, 1) := by decide +kernel
theorem dL_law_1144 : decode cL_law 1144 = .ok (.iload_n 3, 1) := by decide +kernel
theorem dL_law_1145 : decode cL_law 1145 = .ok (.iconst 1, 1) := by decide +kernel
theorem dL_law_1146 : decode cL_law 1146 = .ok (.iadd, 1) := by decide +kernel
theorem dL_law_1147 : decode cL_law 1147 = .ok (.iaload, 1) := by decide +kernel
theorem dL_law_1148 : decode cL_law 1148 = .ok (.aload_n 0, 1) := by decide +kernel
theorem dL_law_1149 : decode cL_law 1149 = .ok (.iload_n 3, 1) := by decide +kernel
theorem dL_law_1150 : decode cL_law 1150 = .ok (.iconst 2, 1) := by decide +kernel
theorem dL_law_1151 : decode cL_law 1151 = .ok (.iadd, 1) := by decide +kernel
theorem dL_law_1152 : decode cL_law 1152 = .ok (.iaload, 1) := by decide +kernel
theorem dL_law_1153 : decode cL_law 1153 = .ok (.aload_n 0, 1) := by decide +kernel
theorem dL_law_1154 : decode cL_law 1154 = .ok (.iload_n 3, 1) := by decide +kernel
theorem dL_law_1155 : decode cL_law 1155 = .ok (.iconst 3, 1) := by decide +kernel
theorem dL_law_1156 : decode cL_law 1156 = .ok (.iadd, 1) := by decide +kernel
theorem dL_law_1157 : decode cL_law 1157 = .ok (.iaload, 1) := by decide +kernel
theorem dL_law_1158 : decode cL_law 1158 = .ok (.aload_n 0, 1) := by decide +kernel
theorem dL_law_1159 : decode cL_law 1159 = .ok (.iload_n 3, 1) := by decide +kernel
theorem dL_law_1160 : decode cL_law 1160 = .ok (.iconst 4, 1) := by decide +kernel
theorem dL_law_1161 : decode cL_law 1161 = .ok (.iadd, 1) := by decide +kernel
theorem dL_law_1162 : decode cL_law 1162 = .ok (.iaload, 1) := by decide +kernel
theorem dL_law_1163 : decode cL_law 1163 = .ok (.aload_n 0, 1) := by decide +kernel
theorem dL_law_1164 : decode cL_law 1164 = .ok (.iload_n 3, 1) := by decide +kernel
theorem dL_law_1165 : decode cL_law 1165 = .ok (.iconst 5, 1) := by decide +kernel
theorem dL_law_1166 : decode cL_law 1166 = .ok (.iadd, 1) := by decide +kernel
theorem dL_law_1167 : decode cL_law 1167 = .ok (.iaload, 1) := by decide +kernel
theorem dL_law_1168 : decode cL_law 1168 = .ok (.invokevirtual 143, 3) := by decide +kernel
theorem dL_law_1171 : decode cL_law 1171 = .ok (.aload_n 2, 1) := by decide +kernel
theorem dL_law_1172 : decode cL_law 1172 = .ok (.aload_n 0, 1) := by decide +kernel
theorem dL_law_1173 : decode cL_law 1173 = .ok (.iload_n 3, 1) := by decide +kernel
theorem dL_law_1174 : decode cL_law 1174 = .ok (.iconst 1, 1) := by decide +kernel
theorem dL_law_1175 : decode cL_law 1175 = .ok (.iadd, 1) := by decide +kernel
theorem dL_law_1176 : decode cL_law 1176 = .ok (.iaload, 1) := by decide +kernel
theorem dL_law_1177 : decode cL_law 1177 = .ok (.aload_n 0, 1) := by decide +kernel
theorem dL_law_1178 : decode cL_law 1178 = .ok (.iload_n 3, 1) := by decide +kernel
theorem dL_law_1179 : decode cL_law 1179 = .ok (.iconst 2, 1) := by decide +kernel
theorem dL_law_1180 : decode cL_law 1180 = .ok (.iadd, 1) := by decide +kernel
theorem dL_law_1181 : decode cL_law 1181 = .ok (.iaload, 1) := by decide +kernel
theorem dL_law_1182 : decode cL_law 1182 = .ok (.aload_n 0, 1) := by decide +kernel
theorem dL_law_1183 : decode cL_law 1183 = .ok (.iload_n 3, 1) := by decide +kernel
theorem dL_law_1184 : decode cL_law 1184 = .ok (.iconst 3, 1) := by decide +kernel
theorem dL_law_1185 : decode cL_law 1185 = .ok (.iadd, 1) := by decide +kernel
theorem dL_law_1186 : decode cL_law 1186 = .ok (.iaload, 1) := by decide +kernel
theorem dL_law_1187 : decode cL_law 1187 = .ok (.aload_n 0, 1) := by decide +kernel
theorem dL_law_1188 : decode cL_law 1188 = .ok (.iload_n 3, 1) := by decide +kernel
theorem dL_law_1189 : decode cL_law 1189 = .ok (.iconst 4, 1) := by decide +kernel
theorem dL_law_1190 : decode cL_law 1190 = .ok (.iadd, 1) := by decide +kernel
theorem dL_law_1191 : decode cL_law 1191 = .ok (.iaload, 1) := by decide +kernel
theorem dL_law_1192 : decode cL_law 1192 = .ok (.aload_n 0, 1) := by decide +kernel
theorem dL_law_1193 : decode cL_law 1193 = .ok (.iload_n 3, 1) := by decide +kernel
theorem dL_law_1194 : decode cL_law 1194 = .ok (.iconst 5, 1) := by decide +kernel
theorem dL_law_1195 : decode cL_law 1195 = .ok (.iadd, 1) := by decide +kernel
theorem dL_law_1196 : decode cL_law 1196 = .ok (.iaload, 1) := by decide +kernel
theorem dL_law_1197 : decode cL_law 1197 = .ok (.invokevirtual 147, 3) := by decide +kernel
theorem dL_law_1200 : decode cL_law 1200 = .ok (.if_icmp .eq 75, 3) := by decide +kernel
theorem dL_law_1203 : decode cL_law 1203 = .ok (.iconst 0, 1) := by decide +kernel
theorem dL_law_1204 : decode cL_law 1204 = .ok (.ireturn, 1) := by decide +kernel
theorem dL_law_1205 : decode cL_law 1205 = .ok (.aload_n 1, 1) := by decide +kernel
theorem dL_law_1206 : decode cL_law 1206 = .ok (.aload_n 0, 1) := by decide +kernel
theorem dL_law_1207 : decode cL_law 1207 = .ok (.iload_n 3, 1) := by decide +kernel
theorem dL_law_1208 : decode cL_law 1208 = .ok (.iconst 1, 1) := by decide +kernel
theorem dL_law_1209 : decode cL_law 1209 = .ok (.iadd, 1) := by decide +kernel
theorem dL_law_1210 : decode cL_law 1210 = .ok (.iaload, 1) := by decide +kernel
theorem dL_law_1211 : decode cL_law 1211 = .ok (.aload_n 0, 1) := by decide +kernel
theorem dL_law_1212 : decode cL_law 1212 = .ok (.iload_n 3, 1) := by decide +kernel
theorem dL_law_1213 : decode cL_law 1213 = .ok (.iconst 2, 1) := by decide +kernel
theorem dL_law_1214 : decode cL_law 1214 = .ok (.iadd, 1) := by decide +kernel
theorem dL_law_1215 : decode cL_law 1215 = .ok (.iaload, 1) := by decide +kernel
theorem dL_law_1216 : decode cL_law 1216 = .ok (.invokevirtual 148, 3) := by decide +kernel
theorem dL_law_1219 : decode cL_law 1219 = .ok (.aload_n 2, 1) := by decide +kernel
theorem dL_law_1220 : decode cL_law 1220 = .ok (.aload_n 0, 1) := by decide +kernel
theorem dL_law_1221 : decode cL_law 1221 = .ok (.iload_n 3, 1) := by decide +kernel
theorem dL_law_1222 : decode cL_law 1222 = .ok (.iconst 1, 1) := by decide +kernel
theorem dL_law_1223 : decode cL_law 1223 = .ok (.iadd, 1) := by decide +kernel
theorem dL_law_1224 : decode cL_law 1224 = .ok (.iaload, 1) := by decide +kernel
theorem dL_law_1225 : decode cL_law 1225 = .ok (.aload_n 0, 1) := by decide +kernel
theorem dL_law_1226 : decode cL_law 1226 = .ok (.iload_n 3, 1) := by decide +kernel
theorem dL_law_1227 : decode cL_law 1227 = .ok (.iconst 2, 1) := by decide +kernel
theorem dL_law_1228 : decode cL_law 1228 = .ok (.iadd, 1) := by decide +kernel
theorem dL_law_1229 : decode cL_law 1229 = .ok (.iaload, 1) := by decide +kernel
theorem dL_law_1230 : decode cL_law 1230 = .ok (.invokevirtual 151, 3) := by decide +kernel
theorem dL_law_1233 : decode cL_law 1233 = .ok (.if_icmp .eq 42, 3) := by decide +kernel
theorem dL_law_1236 : decode cL_law 1236 = .ok (.iconst 0, 1) := by decide +kernel
theorem dL_law_1237 : decode cL_law 1237 = .ok (.ireturn, 1) := by decide +kernel
theorem dL_law_1238 : decode cL_law 1238 = .ok (.aload_n 1, 1) := by decide +kernel
theorem dL_law_1239 : decode cL_law 1239 = .ok (.aload_n 0, 1) := by decide +kernel
theorem dL_law_1240 : decode cL_law 1240 = .ok (.iload_n 3, 1) := by decide +kernel
theorem dL_law_1241 : decode cL_law 1241 = .ok (.iconst 1, 1) := by decide +kernel
theorem dL_law_1242 : decode cL_law 1242 = .ok (.iadd, 1) := by decide +kernel
theorem dL_law_1243 : decode cL_law 1243 = .ok (.iaload, 1) := by decide +kernel
theorem dL_law_1244 : decode cL_law 1244 = .ok (.invokevirtual 152, 3) := by decide +kernel
theorem dL_law_1247 : decode cL_law 1247 = .ok (.aload_n 2, 1) := by decide +kernel
theorem dL_law_1248 : decode cL_law 1248 = .ok (.aload_n 0, 1) := by decide +kernel
theorem dL_law_1249 : decode cL_law 1249 = .ok (.iload_n 3, 1) := by decide +kernel
theorem dL_law_1250 : decode cL_law 1250 = .ok (.iconst 1, 1) := by decide +kernel
theorem dL_law_1251 : decode cL_law 1251 = .ok (.iadd, 1) := by decide +kernel
theorem dL_law_1252 : decode cL_law 1252 = .ok (.iaload, 1) := by decide +kernel
theorem dL_law_1253 : decode cL_law 1253 = .ok (.invokevirtual 155, 3) := by decide +kernel
theorem dL_law_1256 : decode cL_law 1256 = .ok (.if_icmp .eq 19, 3) := by decide +kernel
theorem dL_law_1259 : decode cL_law 1259 = .ok (.iconst 0, 1) := by decide +kernel
theorem dL_law_1260 : decode cL_law 1260 = .ok (.ireturn, 1) := by decide +kernel
theorem dL_law_1261 : decode cL_law 1261 = .ok (.aload_n 1, 1) := by decide +kernel
theorem dL_law_1262 : decode cL_law 1262 = .ok (.invokevirtual 156, 3) := by decide +kernel
theorem dL_law_1265 : decode cL_law 1265 = .ok (.aload_n 2, 1) := by decide +kernel
theorem dL_law_1266 : decode cL_law 1266 = .ok (.invokevirtual 160, 3) := by decide +kernel
theorem dL_law_1269 : decode cL_law 1269 = .ok (.lcmp, 1) := by decide +kernel
theorem dL_law_1270 : decode cL_law 1270 = .ok (.ifCond .eq 5, 3) := by decide +kernel
theorem dL_law_1273 : decode cL_law 1273 = .ok (.iconst 0, 1) := by decide +kernel
theorem dL_law_1274 : decode cL_law 1274 = .ok (.ireturn, 1) := by decide +kernel
theorem dL_law_1275 : decode cL_law 1275 = .ok (.iinc 3 6, 3) := by decide +kernel
theorem dL_law_1278 : decode cL_law 1278 = .ok (.goto (-1260), 3) := by decide +kernel
theorem dL_law_1281 : decode cL_law 1281 = .ok (.iconst 1, 1) := by decide +kernel
theorem dL_law_1282 : decode cL_law 1282 = .ok (.ireturn, 1) := by decide +kernel
end
section
/-! THE MEMORY AS TWO FUNCTIONS: ints and longs by cell and place. Every cell that is made has a fixed shape; references never change. -/
abbrev gm_M : Type := (Nat → Nat → Int32) × (Nat → Nat → Int64)
def gm_I (μ : gm_M) (c k : Nat) (v : Int32) : gm_M := (fun a => if a = c then upd (μ.1 c) k v else μ.1 a, μ.2)
def gm_J (μ : gm_M) (c k : Nat) (v : Int64) : gm_M := (μ.1, fun a => if a = c then vp_updL (μ.2 c) k v else μ.2 a)
def gm_aI (μ : gm_M) (c : Nat) (f : Nat → Int32) : gm_M := (fun a => if a = c then f else μ.1 a, μ.2)
def gm_aJ (μ : gm_M) (c : Nat) (f : Nat → Int64) : gm_M := (μ.1, fun a => if a = c then f else μ.2 a)
def gm_shL : List ((Nat × Nat) ⊕ (Nat × List Nat)) := [
.inr (11, [3, 34, 36, 40, 42, 45, 0]),
  .inr (1, [4, 6, 8, 13, 15, 19, 23, 27, 0, 0]),
  .inr (8, [5, 0]),
  .inl (0, 71),
  .inr (8, [7, 0]),
  .inl (0, 30),
  .inr (10, [9, 10, 11, 12, 0, 0, 0]),
  .inl (0, 8),
  .inl (0, 8),
  .inl (0, 8),
  .inl (0, 40),
  .inr (0, [14, 0, 0]),
  .inl (0, 30),
  .inr (4, [16, 17, 18, 0]),
  .inl (0, 8),
  .inl (0, 8),
  .inl (0, 8),
  .inr (4, [20, 21, 22, 0]),
  .inl (0, 4),
  .inl (0, 4),
  .inl (0, 4),
  .inr (4, [24, 25, 26, 0]),
  .inl (0, 8),
  .inl (0, 8),
  .inl (0, 8),
  .inr (9, [28, 29, 30, 31, 32, 33, 0, 0, 0, 0, 0, 0, 0, 0, 0]),
  .inl (0, 5),
  .inl (0, 30),
  .inl (0, 30),
  .inl (0, 30),
  .inl (0, 30),
  .inl (0, 30),
  .inr (7, [3, 35, 0, 0, 0, 0]),
  .inl (0, 240),
  .inr (5, [3, 37, 38, 39, 0, 0, 0, 0, 0, 0, 0]),
  .inl (0, 240),
  .inl (0, 256),
  .inl (0, 256),
  .inr (3, [3, 41]),
  .inl (0, 270),
  .inr (2, [3, 43, 44, 1, 1, 0, 0]),
  .inl (1, 100),
  .inl (1, 100),
  .inl (3, 4),
  .inr (6, [50, 0, 0, 0]),
  .inr (6, [51, 0, 0, 0]),
  .inr (6, [52, 0, 0, 0]),
  .inr (6, [53, 0, 0, 0]),
  .inl (0, 60),
  .inl (0, 60),
  .inl (0, 60),
  .inl (0, 60),
  .inr (12, [55, 56, 0, 57, 58, 59, 60, 0, 61, 0, 0, 0, 62, 63, 0, 64, 65, 66, 0, 0, 67, 68, 69, 70, 71, 72, 73, 0, 74, 75, 76, 77, 78, 79, 80, 81, 82, 0]),
  .inl (0, 2),
  .inl (0, 142),
  .inl (0, 9),
  .inl (0, 9),
  .inl (0, 9),
  .inl (0, 45),
  .inl (0, 30),
  .inl (0, 8),
  .inl (0, 8),
  .inl (0, 4),
  .inl (0, 4),
  .inl (0, 30),
  .inl (0, 30),
  .inl (0, 30),
  .inl (0, 30),
  .inl (0, 30),
  .inl (0, 2),
  .inl (0, 240),
  .inl (0, 256),
  .inl (0, 8),
  .inl (0, 8),
  .inl (0, 8),
  .inl (0, 600),
  .inl (2, 4),
  .inl (0, 4),
  .inl (0, 4),
  .inl (0, 240),
  .inl (0, 60)]
def gm_sh (c : Nat) : Option ((Nat × Nat) ⊕ (Nat × List Nat)) := gm_shL[c]?
theorem gm_sh_lt {c : Nat} {x : (Nat × Nat) ⊕ (Nat × List Nat)} (h : gm_sh c = some x) : c < 81 := (List.getElem?_eq_some_iff.mp h).1
def gm_f (ad : Nat → Nat) (μ : gm_M) (c j k : Nat) : Value := match k with
  | 0 => .int (μ.1 c j)
  | 1 => .long (μ.2 c j)
  | k + 2 => .ref (ad k)
def gm_e (ad : Nat → Nat) (kc : Nat → ClassId) (μ : gm_M) (c : Nat) : va_E := match gm_sh c with
  | some (.inl (0, n)) => .inl (kc 0, n, .inl (μ.1 c))
  | some (.inl (1, n)) => .inl (kc 1, n, .inr (.inl (μ.2 c)))
  | some (.inl (2, n)) => .inl (kc 2, n, .inl (μ.1 c))
  | some (.inl (_, n)) => .inl (kc 3, n, .inr (.inr (.inr (.inr (fun j => some (ad (44 + j)))))))
  | some (.inr (ci, ks)) => .inr (ci, ks.mapIdx (gm_f ad μ c))
  | none => .inr (0, [])
def gm_w (ad : Nat → Nat) (kc : Nat → ClassId) (μ : gm_M) : va_W := (List.range 81).map (fun c => (ad c, gm_e ad kc μ c))
def gm_tl (kc : Nat → ClassId) : List (ClassId × FieldType) := [(kc 0, .int), (kc 1, .long), (kc 2, .boolean), (kc 3, .object "CheeseEar$Sheet")]
def gm_A (ad : Nat → Nat) : Nat → Prop := fun q => ∃ c, c < 81 ∧ q = ad c
def gm_inj (ad : Nat → Nat) : Prop := ∀ i j, i < 81 → j < 81 → ad i = ad j → i = j
theorem gm_w_get (ad : Nat → Nat) (kc : Nat → ClassId) (μ : gm_M) {c : Nat} (h : c < 81) : (gm_w ad kc μ)[c]? = some (ad c, gm_e ad kc μ c) := by
  unfold gm_w
  rw [List.getElem?_map, List.getElem?_range h]
  rfl
theorem gm_w_inv {ad : Nat → Nat} {kc : Nat → ClassId} {μ : gm_M} {k : Nat} {q : Nat × va_E} (h : (gm_w ad kc μ)[k]? = some q) : k < 81 ∧ q = (ad k, gm_e ad kc μ k) := by
  have hk : k < 81 := by
    have := (List.getElem?_eq_some_iff.mp h).1
    simpa [gm_w] using this
  rw [gm_w_get ad kc μ hk] at h
  exact ⟨hk, (Option.some.inj h).symm⟩
theorem gm_D {ad : Nat → Nat} (hi : gm_inj ad) (kc : Nat → ClassId) (μ : gm_M) : va_D (gm_A ad) (gm_w ad kc μ) := by
  refine ⟨fun i j p q hp hq h => ?_, fun k q h => ?_⟩
  · obtain ⟨h1, rfl⟩ := gm_w_inv hp
    obtain ⟨h2, rfl⟩ := gm_w_inv hq
    exact hi i j h1 h2 h
  · obtain ⟨h1, rfl⟩ := gm_w_inv h
    exact ⟨k, h1, rfl⟩
/-- one cell of the world set anew -/
theorem gm_w_set {ad : Nat → Nat} {kc : Nat → ClassId} {μ μ' : gm_M} {c : Nat} {e : va_E} (hc : c < 81) (h : gm_e ad kc μ' c = e) (ho : ∀ a, a ≠ c → gm_e ad kc μ' a = gm_e ad kc μ a) : (gm_w ad kc μ).set c (ad c, e) = gm_w ad kc μ' := by
  apply List.ext_getElem?
  intro k
  by_cases hk : k < 81
  · rw [gm_w_get ad kc μ' hk, List.getElem?_set]
    by_cases e1 : c = k
    · subst e1
      have hl : c < (gm_w ad kc μ).length := by simpa [gm_w] using hc
      simp [hl, h]
    · rw [if_neg e1, gm_w_get ad kc μ hk, ho k (fun q => e1 q.symm)]
  · have l1 : (gm_w ad kc μ').length = 81 := by simp [gm_w]
    have l2 : (gm_w ad kc μ).length = 81 := by simp [gm_w]
    rw [List.getElem?_eq_none (by rw [List.length_set, l2]; omega), List.getElem?_eq_none (by rw [l1]; omega)]
theorem gm_e_cong {ad : Nat → Nat} {kc : Nat → ClassId} {μ μ' : gm_M} {a : Nat} (h1 : μ'.1 a = μ.1 a) (h2 : μ'.2 a = μ.2 a) : gm_e ad kc μ' a = gm_e ad kc μ a := by
  have hf : gm_f ad μ' a = gm_f ad μ a := by
    funext j k
    match k with
    | 0 => show Value.int (μ'.1 a j) = Value.int (μ.1 a j); rw [h1]
    | 1 => show Value.long (μ'.2 a j) = Value.long (μ.2 a j); rw [h2]
    | k + 2 => rfl
  unfold gm_e
  rw [h1, h2, hf]
theorem gm_e_obj {ad : Nat → Nat} {kc : Nat → ClassId} {μ : gm_M} {c ci : Nat} {ks : List Nat} (hs : gm_sh c = some (.inr (ci, ks))) : gm_e ad kc μ c = .inr (ci, ks.mapIdx (gm_f ad μ c)) := by
  unfold gm_e; simp only [hs]
theorem gm_e_ai {ad : Nat → Nat} {kc : Nat → ClassId} {μ : gm_M} {c n : Nat} (hs : gm_sh c = some (.inl (0, n))) : gm_e ad kc μ c = .inl (kc 0, n, .inl (μ.1 c)) := by
  unfold gm_e; simp only [hs]
theorem gm_e_aj {ad : Nat → Nat} {kc : Nat → ClassId} {μ : gm_M} {c n : Nat} (hs : gm_sh c = some (.inl (1, n))) : gm_e ad kc μ c = .inl (kc 1, n, .inr (.inl (μ.2 c))) := by
  unfold gm_e; simp only [hs]
theorem gm_e_az {ad : Nat → Nat} {kc : Nat → ClassId} {μ : gm_M} {c n : Nat} (hs : gm_sh c = some (.inl (2, n))) : gm_e ad kc μ c = .inl (kc 2, n, .inl (μ.1 c)) := by
  unfold gm_e; simp only [hs]
theorem gm_e_ar {ad : Nat → Nat} {kc : Nat → ClassId} {μ : gm_M} {c n : Nat} (hs : gm_sh c = some (.inl (3, n))) : gm_e ad kc μ c = .inl (kc 3, n, .inr (.inr (.inr (.inr (fun j => some (ad (44 + j))))))) := by
  unfold gm_e; simp only [hs]
theorem gm_fs_I {ad : Nat → Nat} {μ : gm_M} {c k : Nat} {ks : List Nat} {x : Int32} (hk : ks[k]? = some 0) : (ks.mapIdx (gm_f ad μ c)).set k (.int x) = ks.mapIdx (gm_f ad (gm_I μ c k x) c) := by
  apply List.ext_getElem?
  intro i
  rw [List.getElem?_set, List.getElem?_mapIdx, List.getElem?_mapIdx]
  have hl : k < ks.length := (List.getElem?_eq_some_iff.mp hk).1
  by_cases e1 : k = i
  · subst e1
    rw [if_pos rfl, if_pos (by rw [List.length_mapIdx]; exact hl), hk]
    simp [gm_f, gm_I, upd]
  · rw [if_neg e1]
    cases h : ks[i]? with
    | none => rfl
    | some z =>
      match z with
      | 0 => simp [gm_f, gm_I, upd]; intro q; exact absurd q.symm e1
      | 1 => rfl
      | z + 2 => rfl
theorem gm_fs_J {ad : Nat → Nat} {μ : gm_M} {c k : Nat} {ks : List Nat} {x : Int64} (hk : ks[k]? = some 1) : (ks.mapIdx (gm_f ad μ c)).set k (.long x) = ks.mapIdx (gm_f ad (gm_J μ c k x) c) := by
  apply List.ext_getElem?
  intro i
  rw [List.getElem?_set, List.getElem?_mapIdx, List.getElem?_mapIdx]
  have hl : k < ks.length := (List.getElem?_eq_some_iff.mp hk).1
  by_cases e1 : k = i
  · subst e1
    rw [if_pos rfl, if_pos (by rw [List.length_mapIdx]; exact hl), hk]
    simp [gm_f, gm_J, vp_updL]
  · rw [if_neg e1]
    cases h : ks[i]? with
    | none => rfl
    | some z =>
      match z with
      | 0 => rfl
      | 1 => simp [gm_f, gm_J, vp_updL]; intro q; exact absurd q.symm e1
      | z + 2 => rfl
theorem gm_w_I {ad : Nat → Nat} {kc : Nat → ClassId} {μ : gm_M} {c ci k : Nat} {ks : List Nat} {x : Int32} (hs : gm_sh c = some (.inr (ci, ks))) (hk : ks[k]? = some 0) : (gm_w ad kc μ).set c (ad c, .inr (ci, (ks.mapIdx (gm_f ad μ c)).set k (.int x))) = gm_w ad kc (gm_I μ c k x) :=
  gm_w_set (gm_sh_lt hs) (by rw [gm_e_obj hs, gm_fs_I hk]) (fun a h => gm_e_cong (by simp [gm_I, h]) rfl)
theorem gm_w_J {ad : Nat → Nat} {kc : Nat → ClassId} {μ : gm_M} {c ci k : Nat} {ks : List Nat} {x : Int64} (hs : gm_sh c = some (.inr (ci, ks))) (hk : ks[k]? = some 1) : (gm_w ad kc μ).set c (ad c, .inr (ci, (ks.mapIdx (gm_f ad μ c)).set k (.long x))) = gm_w ad kc (gm_J μ c k x) :=
  gm_w_set (gm_sh_lt hs) (by rw [gm_e_obj hs, gm_fs_J hk]) (fun a h => gm_e_cong rfl (by simp [gm_J, h]))
theorem gm_w_aI {ad : Nat → Nat} {kc : Nat → ClassId} {μ : gm_M} {c n : Nat} {f : Nat → Int32} (hs : gm_sh c = some (.inl (0, n))) : (gm_w ad kc μ).set c (ad c, .inl (kc 0, n, .inl f)) = gm_w ad kc (gm_aI μ c f) :=
  gm_w_set (gm_sh_lt hs) (by rw [gm_e_ai hs]; simp [gm_aI]) (fun a h => gm_e_cong (by simp [gm_aI, h]) rfl)
theorem gm_w_aZ {ad : Nat → Nat} {kc : Nat → ClassId} {μ : gm_M} {c n : Nat} {f : Nat → Int32} (hs : gm_sh c = some (.inl (2, n))) : (gm_w ad kc μ).set c (ad c, .inl (kc 2, n, .inl f)) = gm_w ad kc (gm_aI μ c f) :=
  gm_w_set (gm_sh_lt hs) (by rw [gm_e_az hs]; simp [gm_aI]) (fun a h => gm_e_cong (by simp [gm_aI, h]) rfl)
theorem gm_w_aJ {ad : Nat → Nat} {kc : Nat → ClassId} {μ : gm_M} {c n : Nat} {f : Nat → Int64} (hs : gm_sh c = some (.inl (1, n))) : (gm_w ad kc μ).set c (ad c, .inl (kc 1, n, .inr (.inl f))) = gm_w ad kc (gm_aJ μ c f) :=
  gm_w_set (gm_sh_lt hs) (by rw [gm_e_aj hs]; simp [gm_aJ]) (fun a h => gm_e_cong rfl (by simp [gm_aJ, h]))
theorem gm_I_eq (μ : gm_M) (c k : Nat) (v : Int32) : gm_aI μ c (upd (μ.1 c) k v) = gm_I μ c k v := rfl
theorem gm_J_eq (μ : gm_M) (c k : Nat) (v : Int64) : gm_aJ μ c (vp_updL (μ.2 c) k v) = gm_J μ c k v := rfl
/-! reads of a changed memory -/
theorem gm_I1 (μ : gm_M) (c k : Nat) (v : Int32) (a j : Nat) : (gm_I μ c k v).1 a j = if a = c then (if j = k then v else μ.1 c j) else μ.1 a j := by
  unfold gm_I upd; dsimp only; split <;> rfl
theorem gm_I2 (μ : gm_M) (c k : Nat) (v : Int32) : (gm_I μ c k v).2 = μ.2 := rfl
theorem gm_J1 (μ : gm_M) (c k : Nat) (v : Int64) : (gm_J μ c k v).1 = μ.1 := rfl
theorem gm_J2 (μ : gm_M) (c k : Nat) (v : Int64) (a j : Nat) : (gm_J μ c k v).2 a j = if a = c then (if j = k then v else μ.2 c j) else μ.2 a j := by
  unfold gm_J vp_updL; dsimp only; split <;> rfl
/-! values and locals -/
def gm_v (ad : Nat → Nat) (v : Value) : Value := match v with
  | .ref c => .ref (ad c)
  | w => w
theorem gm_v_cat (ad : Nat → Nat) (v : Value) : (gm_v ad v).category = v.category := by cases v <;> rfl
def gm_lr (ad : Nat → Nat) : Nat → List (Option Value) → List (Nat × Value)
  | _, [] => []
  | i, none :: L => gm_lr ad (i + 1) L
  | i, some v :: L => (i, gm_v ad v) :: gm_lr ad (i + 1) L
abbrev gm_l (ad : Nat → Nat) (L : List (Option Value)) : List (Nat × Value) := gm_lr ad 0 L
theorem gm_lr_iff {ad : Nat → Nat} (L : List (Option Value)) : ∀ (i : Nat) (q : Nat × Value), q ∈ gm_lr ad i L ↔ ∃ (k : Nat) (v : Value), L[k]? = some (some v) ∧ q = (i + k, gm_v ad v) := by
  induction L with
  | nil => intro i q; simp [gm_lr]
  | cons a L ih =>
    intro i q
    have key : (∃ (k : Nat) (v : Value), L[k]? = some (some v) ∧ q = (i + 1 + k, gm_v ad v)) ↔ ∃ (k : Nat) (v : Value), (a :: L)[k + 1]? = some (some v) ∧ q = (i + (k + 1), gm_v ad v) := by
      constructor
      · rintro ⟨k, v, h1, h2⟩
        exact ⟨k, v, by simpa using h1, by rw [h2]; congr 1; omega⟩
      · rintro ⟨k, v, h1, h2⟩
        exact ⟨k, v, by simpa using h1, by rw [h2]; congr 1; omega⟩
    cases a with
    | none =>
      rw [gm_lr, ih, key]
      constructor
      · rintro ⟨k, v, h⟩; exact ⟨k + 1, v, h⟩
      · rintro ⟨k, v, h1, h2⟩
        cases k with
        | zero => simp at h1
        | succ k => exact ⟨k, v, h1, h2⟩
    | some b =>
      rw [gm_lr, List.mem_cons, ih, key]
      constructor
      · rintro (h | ⟨k, v, h⟩)
        · exact ⟨0, b, rfl, h⟩
        · exact ⟨k + 1, v, h⟩
      · rintro ⟨k, v, h1, h2⟩
        cases k with
        | zero =>
          have hv : b = v := by simpa using h1
          subst hv
          exact Or.inl h2
        | succ k => exact Or.inr ⟨k, v, h1, h2⟩
theorem gm_l_mem {ad : Nat → Nat} {L : List (Option Value)} {i : Nat} {v : Value} (h : L[i]? = some (some v)) : (i, gm_v ad v) ∈ gm_l ad L := (gm_lr_iff L 0 _).mpr ⟨i, v, h, by rw [Nat.zero_add]⟩
theorem gm_has_at {ls : Array Slot} {nL : Nat} {ad : Nat → Nat} {L : List (Option Value)} (h : lv_has ls nL (gm_l ad L)) {i : Nat} {v : Value} (hi : L[i]? = some (some v)) : ls[i]? = some (.val (gm_v ad v)) := h.2.2 _ (gm_l_mem hi)
theorem gm_has1 {ls : Array Slot} {nL : Nat} {ad : Nat → Nat} {L L' : List (Option Value)} {i : Nat} {v : Value} (h : lv_has ls nL ((i, gm_v ad v) :: (gm_l ad L).filter (fun q => !(q.1 == i) && !(q.1 + 1 == i && q.2.category == 2))))
    (ok : ∀ (j : Nat) (w : Value), L'[j]? = some (some w) → (j = i ∧ w = v) ∨ (j ≠ i ∧ L[j]? = some (some w) ∧ (j + 1 = i → w.category = 1))) : lv_has ls nL (gm_l ad L') := by
  refine ⟨h.1, h.2.1, fun q hq => ?_⟩
  obtain ⟨k, w, h1, h2⟩ := (gm_lr_iff L' 0 q).mp hq
  rw [Nat.zero_add] at h2
  subst h2
  rcases ok k w h1 with ⟨e1, e2⟩ | ⟨e1, e2, e3⟩
  · subst e1; subst e2
    exact h.2.2 _ List.mem_cons_self
  · refine h.2.2 _ (List.mem_cons_of_mem _ (List.mem_filter.mpr ⟨gm_l_mem e2, ?_⟩))
    have h4 : (k == i) = false := by simpa using e1
    by_cases h5 : k + 1 = i
    · have := e3 h5
      simp [h4, gm_v_cat, this]
    · simp [h4, h5]
theorem gm_has2 {ls : Array Slot} {nL : Nat} {ad : Nat → Nat} {L L' : List (Option Value)} {i : Nat} {v : Value} (h : lv_has ls nL ((i, gm_v ad v) :: (gm_l ad L).filter (fun q => !(q.1 == i) && (!(q.1 == i + 1) && !(q.1 + 1 == i && q.2.category == 2)))))
    (ok : ∀ (j : Nat) (w : Value), L'[j]? = some (some w) → (j = i ∧ w = v) ∨ (j ≠ i ∧ j ≠ i + 1 ∧ L[j]? = some (some w) ∧ (j + 1 = i → w.category = 1))) : lv_has ls nL (gm_l ad L') := by
  refine ⟨h.1, h.2.1, fun q hq => ?_⟩
  obtain ⟨k, w, h1, h2⟩ := (gm_lr_iff L' 0 q).mp hq
  rw [Nat.zero_add] at h2
  subst h2
  rcases ok k w h1 with ⟨e1, e2⟩ | ⟨e1, e0, e2, e3⟩
  · subst e1; subst e2
    exact h.2.2 _ List.mem_cons_self
  · refine h.2.2 _ (List.mem_cons_of_mem _ (List.mem_filter.mpr ⟨gm_l_mem e2, ?_⟩))
    have h4 : (k == i) = false := by simpa using e1
    have h6 : (k == i + 1) = false := by simpa using e0
    by_cases h5 : k + 1 = i
    · have := e3 h5
      simp [h4, h6, gm_v_cat, this]
    · simp [h4, h6, h5]
/-- the last of a list of locals isn't long -/
def gm_lc (pre : List (Option Value)) : Bool := match pre.getLast? with
  | some (some v) => v.category == 1
  | _ => true
theorem gm_lc_at {pre : List (Option Value)} (h : gm_lc pre = true) {j : Nat} {w : Value} (hj : pre[j]? = some (some w)) (hl : j + 1 = pre.length) : w.category = 1 := by
  have hg : pre.getLast? = some (some w) := by
    rw [List.getLast?_eq_getElem?, ← hl]
    exact hj
  unfold gm_lc at h
  rw [hg] at h
  simpa using h
theorem gm_ok1 {pre post : List (Option Value)} {x : Option Value} {v : Value} {i : Nat} (hi : pre.length = i) (hc : gm_lc pre = true) (j : Nat) (w : Value) (h : (pre ++ some v :: post)[j]? = some (some w)) : (j = i ∧ w = v) ∨ (j ≠ i ∧ (pre ++ x :: post)[j]? = some (some w) ∧ (j + 1 = i → w.category = 1)) := by
  subst hi
  by_cases h1 : j < pre.length
  · rw [List.getElem?_append_left h1] at h
    refine Or.inr ⟨by omega, by rw [List.getElem?_append_left h1]; exact h, fun e => gm_lc_at hc h e⟩
  · rw [List.getElem?_append_right (by omega)] at h
    by_cases h2 : j = pre.length
    · subst h2
      simp at h
      exact Or.inl ⟨rfl, h.symm⟩
    · refine Or.inr ⟨h2, ?_, fun e => by omega⟩
      rw [List.getElem?_append_right (by omega)]
      obtain ⟨k, hk⟩ : ∃ k, j - pre.length = k + 1 := ⟨j - pre.length - 1, by omega⟩
      rw [hk] at h ⊢
      simpa using h
theorem gm_ok1n {pre post : List (Option Value)} {z x : Option Value} {v : Value} {i : Nat} (hi : pre.length + 1 = i) (j : Nat) (w : Value) (h : (pre ++ none :: some v :: post)[j]? = some (some w)) : (j = i ∧ w = v) ∨ (j ≠ i ∧ (pre ++ z :: x :: post)[j]? = some (some w) ∧ (j + 1 = i → w.category = 1)) := by
  have h0 := gm_ok1 (pre := pre ++ [none]) (post := post) (x := x) (v := v) (i := i) (by simpa using hi) (by simp [gm_lc]) j w (by simpa using h)
  rcases h0 with h0 | ⟨h1, h2, h3⟩
  · exact Or.inl h0
  · refine Or.inr ⟨h1, ?_, h3⟩
    have h2 : (pre ++ none :: x :: post)[j]? = some (some w) := by simpa using h2
    by_cases hj : j < pre.length
    · rw [List.getElem?_append_left hj] at h2 ⊢; exact h2
    · rw [List.getElem?_append_right (by omega)] at h2 ⊢
      cases hk : j - pre.length with
      | zero => rw [hk] at h2; simp at h2
      | succ k => rw [hk] at h2; simpa using h2
theorem gm_ok2 {pre post : List (Option Value)} {x x2 : Option Value} {v : Value} {i : Nat} (hi : pre.length = i) (hc : gm_lc pre = true) (j : Nat) (w : Value) (h : (pre ++ some v :: none :: post)[j]? = some (some w)) : (j = i ∧ w = v) ∨ (j ≠ i ∧ j ≠ i + 1 ∧ (pre ++ x :: x2 :: post)[j]? = some (some w) ∧ (j + 1 = i → w.category = 1)) := by
  rcases gm_ok1 (pre := pre) (post := none :: post) (x := x) (v := v) hi hc j w h with h0 | ⟨h1, h2, h3⟩
  · exact Or.inl h0
  · subst hi
    have hne : j ≠ pre.length + 1 := by
      intro e
      subst e
      rw [List.getElem?_append_right (by omega)] at h2
      simp at h2
    refine Or.inr ⟨h1, hne, ?_, h3⟩
    by_cases hj : j < pre.length
    · rw [List.getElem?_append_left hj] at h2 ⊢; exact h2
    · rw [List.getElem?_append_right (by omega)] at h2 ⊢
      obtain ⟨k, hk⟩ : ∃ k, j - pre.length = k + 2 := ⟨j - pre.length - 2, by omega⟩
      rw [hk] at h2 ⊢
      simpa using h2
/-! what the class's own statics are: two rows of four nights -/
def gm_W1 (j : Nat) : Int32 := if j = 0 then 0 else if j = 1 then 9 else if j = 2 then 19 else 29
def gm_W2 (j : Nat) : Int32 := if j = 0 then 0 else if j = 1 then 5 else if j = 2 then 12 else 29
def gm_S (ad : Nat → Nat) (s : State) : Prop := va_Z "CheeseEar" "DIGEST_WARM_NIGHTS" "[I" (.ref (ad 81)) (gm_A ad) s s.heap ∧ va_T .int (ad 81) 4 (fun j => .int (gm_W1 j)) (gm_A ad) s s.heap ∧ va_Z "CheeseEar" "DIGEST_AT_NIGHTS" "[I" (.ref (ad 82)) (gm_A ad) s s.heap ∧ va_T .int (ad 82) 4 (fun j => .int (gm_W2 j)) (gm_A ad) s s.heap
theorem gm_S.moved {ad : Nat → Nat} {u U : State} (hvm : u.vm.Alike U.vm) (hk : ∀ a : Nat, a < u.heap.size → ¬ gm_A ad a → U.heap[a]? = u.heap[a]?) (h : gm_S ad u) : gm_S ad U :=
  ⟨(h.1.moved hvm).kept hk, (h.2.1.moved hvm).kept hk, (h.2.2.1.moved hvm).kept hk, (h.2.2.2.moved hvm).kept hk⟩
/-! THE JUDGEMENTS. The words that every method takes: all of the tables that stay when classes are warmed; the nest mates' links are carried beside them -/
def gm_tb : List Cond := lw_tbl.filter goodWord
def gm_isN : Cond → Bool
  | .methodLinkNest _ _ _ _ => true
  | .fieldLinkNest _ _ _ _ _ _ => true
  | _ => false
def gm_N (s : State) : Prop := ∀ w ∈ lw_tbl, gm_isN w = true → va_Nw w s
theorem gm_N.warm {s U : State} (hW : s.WarmedH U.vm) (h : gm_N s) : gm_N U := by
  intro w hw hn
  have h1 := h w hw hn
  cases w <;> first | exact va_Nw.warmM hW h1 | exact va_Nw.warmF hW h1 | (simp [gm_isN] at hn; done)
theorem gm_N.same {s U : State} (hv : s.vm = U.vm) (h : gm_N s) : gm_N U := by
  intro w hw hn
  have h1 := h w hw hn
  cases w <;> first | exact va_tabs rfl hv h1 | (simp [gm_isN] at hn; done)
theorem gm_hw {args : Array Value} {s : State} (h : ∀ w ∈ gm_tb, w.before args s = true) {w : Cond} (hm : w ∈ lw_tbl) (hg : goodWord w = true) : w.before args s = true := h w (List.mem_filter.mpr ⟨hm, hg⟩)
theorem gm_good : ∀ w ∈ gm_tb, goodWord w = true := fun _ h => (List.mem_filter.mp h).2
theorem gm_uw {C : String} {T : u_T} {N : Nat} (h : ∀ w ∈ u_ws C T N, w ∈ lw_tbl) : ∀ w ∈ u_ws C T N, w ∈ gm_tb := by
  intro w hw
  refine List.mem_filter.mpr ⟨h w hw, ?_⟩
  obtain ⟨k, -, rfl⟩ := List.mem_map.mp hw
  unfold u_lay
  split <;> rfl
def gm_r (d : Nat) : Room := { frames := d, cells := 0, slots := 0, locals := 40 * d }
def gm_X (y : MethodName) (cc : ByteArray) (nL : Nat) (ret : Option FieldType) (p : Program) (s : State) (m : MethodId) (args : Array Value) (meth : Method) (c : Code) (D : va_G) (ad : Nat → Nat) (kc : Nat → ClassId) : Prop :=
  p.tables.exec = Jvm.exec ∧ c.code = cc ∧ meth.sig.returnType = ret ∧ c.maxLocals = nL ∧ s.vm.findClass y.cls = some m.cls ∧ (∀ w ∈ gm_tb, w.before args s = true) ∧ meth.locks = false ∧ va_K D vwCl (gm_tl kc) s ∧ gm_inj ad ∧ gm_S ad s ∧ gm_N s
def gm_q (D : va_G) (ad : Nat → Nat) (kc : Nat → ClassId) (Post : Option Value → gm_M → Prop) : Array Value → State → Outcome → State → Prop := fun _ st o t =>
  (∃ (r : Option Value) (μ' : gm_M), o = .returned (r.map (gm_v ad)) ∧ Post r μ' ∧ va_P D vwCl (gm_w ad kc μ') t.heap ∧ va_K D vwCl (gm_tl kc) t) ∧ va_F (gm_A ad) st t
/-- from here, inside the method, with these locals, this stack and this memory, it comes to its end with Post -/
def Go (y : MethodName) (cc : ByteArray) (nL : Nat) (ret : Option FieldType) (d : Nat) (pc : Nat) (L : List (Option Value)) (st : List Value) (μ : gm_M) (Post : Option Value → gm_M → Prop) : Prop :=
  ∀ (l : Launch) (p : Program) (e : Env) (s : State) (m : MethodId) (args : Array Value) (below : List Frame) (meth : Method) (c : Code) (D : va_G) (ad : Nat → Nat) (kc : Nat → ClassId) (H : Heap) (locs : List Loc) (ls : Array Slot),
    gm_X y cc nL ret p s m args meth c D ad kc → va_P D vwCl (gm_w ad kc μ) H → va_S (gm_A ad) s.heap H locs → lv_has ls nL (gm_l ad L) →
    W p l e (gm_r d) s m args below meth c H locs 0 0 (MQ below (gm_q D ad kc Post) args s 0 0 (gm_A ad)) (F0 m pc ls (st.map (gm_v ad)))
def gm_B (D : va_G) (ad : Nat → Nat) (kc : Nat → ClassId) (μ : gm_M) (U : State) : Prop := va_P D vwCl (gm_w ad kc μ) U.heap ∧ va_K D vwCl (gm_tl kc) U ∧ gm_inj ad ∧ gm_S ad U ∧ gm_N U
/-- the method, called on these arguments with this memory, returns with Post -/
def Sat (y : MethodName) (cc : ByteArray) (nL : Nat) (ret : Option FieldType) (d : Nat) (As : List Value) (μ : gm_M) (Post : Option Value → gm_M → Prop) : Prop :=
  ∀ (l : Launch) (D : va_G) (ad : Nat → Nat) (kc : Nat → ClassId), Met l y (Cond.code y cc nL ret :: gm_tb) (gm_r d) (va_Pc (As.map (gm_v ad)) (gm_B D ad kc μ)) (gm_q D ad kc Post) 0 0 (gm_A ad)
theorem Sat.of {y : MethodName} {cc : ByteArray} {nL : Nat} {ret : Option FieldType} {d : Nat} {As : List Value} {L : List (Option Value)} {μ : gm_M} {Post : Option Value → gm_M → Prop} (hy : plainName y.cls = true) (hn : ∀ ad : Nat → Nat, Nat.ble (lg_sl (As.map (gm_v ad))).length nL = true) (hL : ∀ ad : Nat → Nat, lv_args 0 (As.map (gm_v ad)) = gm_l ad L)
    (g : Go y cc nL ret d 0 L [] μ Post) : Sat y cc nL ret d As μ Post := by
  intro l D ad kc
  refine Met.ofW (cc := cc) (maxL := nL) (ret := ret) hy rfl ?_
  intro p e s m args below meth c s₁ B hml hv
  obtain ⟨rfl, hP, hK, hi, hSt, hN⟩ := hv
  have hts := atoms_spec (ws := Cond.code y cc nL ret :: gm_tb) B.pre
  have hl := lv_entry (As.map (gm_v ad)) (n := nL) (Nat.le_of_ble_eq_true (hn ad))
  rw [hL ad] at hl
  rw [lg_entry_eq]
  exact g l p e s m _ below meth c D ad kc s.heap [] _ ⟨B.exec, B.bytes, B.returns, hml, findClass_of_methodNamed B.named, fun w hw => hts w (List.mem_cons_of_mem _ hw), B.notSynchronized, hK, hi, hSt, hN⟩ hP va_S.rf hl
theorem Go.post {y : MethodName} {cc : ByteArray} {nL : Nat} {ret : Option FieldType} {d pc : Nat} {L : List (Option Value)} {st : List Value} {μ : gm_M} {P P' : Option Value → gm_M → Prop} (h : ∀ r μ', P r μ' → P' r μ') (g : Go y cc nL ret d pc L st μ P) : Go y cc nL ret d pc L st μ P' := by
  intro l p e s m args below meth c D ad kc H locs ls X hP hS hl T hT Z
  obtain ⟨t, h1, o, h2, h3, ⟨⟨r, μ', q1, q2, q3⟩, q4⟩, h5⟩ := g l p e s m args below meth c D ad kc H locs ls X hP hS hl T hT Z
  exact ⟨t, h1, o, h2, h3, ⟨⟨r, μ', q1, h r μ' q2, q3⟩, q4⟩, h5⟩
theorem Sat.post {y : MethodName} {cc : ByteArray} {nL : Nat} {ret : Option FieldType} {d : Nat} {As : List Value} {μ : gm_M} {P P' : Option Value → gm_M → Prop} (h : ∀ r μ', P r μ' → P' r μ') (g : Sat y cc nL ret d As μ P) : Sat y cc nL ret d As μ P' := by
  intro l D ad kc
  intro p e ha hc hk s m args below hf happ hpre hK
  obtain ⟨t, o, h1, h2, h3, ⟨⟨r, μ', q1, q2, q3⟩, q4⟩, h5⟩ := g l D ad kc p e ha hc hk s m args below hf happ hpre hK
  exact ⟨t, o, h1, h2, h3, ⟨⟨r, μ', q1, h r μ' q2, q3⟩, q4⟩, h5⟩
end
section
section gmRows
variable {y : MethodName} {cc : ByteArray} {nL : Nat} {ret : Option FieldType} {d pc : Nat} {L : List (Option Value)} {st : List Value} {μ : gm_M} {Post : Option Value → gm_M → Prop}
def gb (b : Bool) : Int32 := if b then 1 else 0
theorem gb_eq0 {b : Bool} : gb b = 0 ↔ b = false := by cases b <;> decide
theorem gb_nar (b : Bool) : narrow .boolean (.int (gb b)) = .int (gb b) := by cases b <;> rfl
theorem gb_fit (b : Bool) : fits .boolean (.int (gb b)) = true := by cases b <;> rfl
def gm_le : List (Option Value) → List (Option Value) → Prop
  | [], _ => True
  | none :: L', _ :: L => gm_le L' L
  | some v :: L', x :: L => x = some v ∧ gm_le L' L
  | _ :: _, [] => False
theorem gm_le_at : ∀ {L' L : List (Option Value)} (_ : gm_le L' L) {j : Nat} {v : Value}, L'[j]? = some (some v) → L[j]? = some (some v) := by
  intro L'
  induction L' with
  | nil => intro L _ j v h; simp at h
  | cons a L' ih =>
    intro L hle j v h
    cases L with
    | nil => cases a <;> exact absurd hle (by simp [gm_le])
    | cons b L =>
      cases a with
      | none =>
        have hle : gm_le L' L := hle
        cases j with
        | zero => simp at h
        | succ j => have := ih hle (j := j) (v := v) (by simpa using h); simpa using this
      | some u =>
        have hle : b = some u ∧ gm_le L' L := hle
        cases j with
        | zero => have hv : u = v := by simpa using h
                  subst hv; simpa using hle.1
        | succ j => have := ih hle.2 (j := j) (v := v) (by simpa using h); simpa using this
/-- what is known of the locals may be forgotten -/
theorem Go.le {L' : List (Option Value)} (h : gm_le L' L) (g : Go y cc nL ret d pc L' st μ Post) : Go y cc nL ret d pc L st μ Post := by
  intro l p e s m args below meth c D ad kc H locs ls X hP hS hl
  refine g l p e s m args below meth c D ad kc H locs ls X hP hS ⟨hl.1, hl.2.1, fun q hq => ?_⟩
  obtain ⟨k, v, h1, h2⟩ := (gm_lr_iff L' 0 q).mp hq
  subst h2
  rw [Nat.zero_add]
  exact hl.2.2 _ (gm_l_mem (gm_le_at h h1))
theorem Go.mem {μ' : gm_M} (h : μ = μ') (g : Go y cc nL ret d pc L st μ' Post) : Go y cc nL ret d pc L st μ Post := h ▸ g
theorem gm_sum (ad : Nat → Nat) (rest : List Value) : ((rest.map (gm_v ad)).map fun v => v.category).sum = (rest.map fun v => v.category).sum := by
  rw [List.map_map]
  congr 1
  apply List.map_congr_left
  intro a _
  exact gm_v_cat ad a
theorem go_icm1  (dd : decode cc pc = .ok (.iconst (-1), 1))  (g : Go y cc nL ret d (pc + 1) L (.int (-1) :: st) μ Post) : Go y cc nL ret d pc L (st) μ Post := by
  intro l p e s m args below meth c D ad kc H locs ls X hP hS hl
  exact lv_iconst X.1 X.2.1 dd (by decide) (g l p e s m args below meth c D ad kc H locs ls X hP hS hl)
theorem go_ic0  (dd : decode cc pc = .ok (.iconst 0, 1))  (g : Go y cc nL ret d (pc + 1) L (.int 0 :: st) μ Post) : Go y cc nL ret d pc L (st) μ Post := by
  intro l p e s m args below meth c D ad kc H locs ls X hP hS hl
  exact lv_iconst X.1 X.2.1 dd (by decide) (g l p e s m args below meth c D ad kc H locs ls X hP hS hl)
theorem go_ic1  (dd : decode cc pc = .ok (.iconst 1, 1))  (g : Go y cc nL ret d (pc + 1) L (.int 1 :: st) μ Post) : Go y cc nL ret d pc L (st) μ Post := by
  intro l p e s m args below meth c D ad kc H locs ls X hP hS hl
  exact lv_iconst X.1 X.2.1 dd (by decide) (g l p e s m args below meth c D ad kc H locs ls X hP hS hl)
theorem go_ic2  (dd : decode cc pc = .ok (.iconst 2, 1))  (g : Go y cc nL ret d (pc + 1) L (.int 2 :: st) μ Post) : Go y cc nL ret d pc L (st) μ Post := by
  intro l p e s m args below meth c D ad kc H locs ls X hP hS hl
  exact lv_iconst X.1 X.2.1 dd (by decide) (g l p e s m args below meth c D ad kc H locs ls X hP hS hl)
theorem go_ic3  (dd : decode cc pc = .ok (.iconst 3, 1))  (g : Go y cc nL ret d (pc + 1) L (.int 3 :: st) μ Post) : Go y cc nL ret d pc L (st) μ Post := by
  intro l p e s m args below meth c D ad kc H locs ls X hP hS hl
  exact lv_iconst X.1 X.2.1 dd (by decide) (g l p e s m args below meth c D ad kc H locs ls X hP hS hl)
theorem go_ic4  (dd : decode cc pc = .ok (.iconst 4, 1))  (g : Go y cc nL ret d (pc + 1) L (.int 4 :: st) μ Post) : Go y cc nL ret d pc L (st) μ Post := by
  intro l p e s m args below meth c D ad kc H locs ls X hP hS hl
  exact lv_iconst X.1 X.2.1 dd (by decide) (g l p e s m args below meth c D ad kc H locs ls X hP hS hl)
theorem go_ic5  (dd : decode cc pc = .ok (.iconst 5, 1))  (g : Go y cc nL ret d (pc + 1) L (.int 5 :: st) μ Post) : Go y cc nL ret d pc L (st) μ Post := by
  intro l p e s m args below meth c D ad kc H locs ls X hP hS hl
  exact lv_iconst X.1 X.2.1 dd (by decide) (g l p e s m args below meth c D ad kc H locs ls X hP hS hl)
theorem go_bipush {n : Int} {v : Int32} (dd : decode cc pc = .ok (.bipush n, 2)) (hv : (Int8.ofInt n).toInt32 = v) (g : Go y cc nL ret d (pc + 2) L (.int v :: st) μ Post) : Go y cc nL ret d pc L (st) μ Post := by
  intro l p e s m args below meth c D ad kc H locs ls X hP hS hl
  exact lv_bipush X.1 X.2.1 dd hv (g l p e s m args below meth c D ad kc H locs ls X hP hS hl)
theorem go_sipush {n : Int} {v : Int32} (dd : decode cc pc = .ok (.sipush n, 3)) (hv : (Int16.ofInt n).toInt32 = v) (g : Go y cc nL ret d (pc + 3) L (.int v :: st) μ Post) : Go y cc nL ret d pc L (st) μ Post := by
  intro l p e s m args below meth c D ad kc H locs ls X hP hS hl
  exact lv_sipush X.1 X.2.1 dd hv (g l p e s m args below meth c D ad kc H locs ls X hP hS hl)
theorem go_lc0  (dd : decode cc pc = .ok (.lconst 0, 1))  (g : Go y cc nL ret d (pc + 1) L (.long 0 :: st) μ Post) : Go y cc nL ret d pc L (st) μ Post := by
  intro l p e s m args below meth c D ad kc H locs ls X hP hS hl
  exact lv_lconst X.1 X.2.1 dd (by decide) (g l p e s m args below meth c D ad kc H locs ls X hP hS hl)
theorem go_lc1  (dd : decode cc pc = .ok (.lconst 1, 1))  (g : Go y cc nL ret d (pc + 1) L (.long 1 :: st) μ Post) : Go y cc nL ret d pc L (st) μ Post := by
  intro l p e s m args below meth c D ad kc H locs ls X hP hS hl
  exact lv_lconst X.1 X.2.1 dd (by decide) (g l p e s m args below meth c D ad kc H locs ls X hP hS hl)
theorem go_ldc {i : Nat} {v : Int32} (dd : decode cc pc = .ok (.ldc i, 2)) (hc : Cond.constant y.cls i v ∈ lw_tbl) (g : Go y cc nL ret d (pc + 2) L (.int v :: st) μ Post) : Go y cc nL ret d pc L (st) μ Post := by
  intro l p e s m args below meth c D ad kc H locs ls X hP hS hl
  exact lv_ldc X.1 X.2.1 X.2.2.2.2.1 (gm_hw X.2.2.2.2.2.1 hc rfl) dd (g l p e s m args below meth c D ad kc H locs ls X hP hS hl)
theorem go_ldcw {i : Nat} {v : Int32} (dd : decode cc pc = .ok (.ldc_w i, 3)) (hc : Cond.constant y.cls i v ∈ lw_tbl) (g : Go y cc nL ret d (pc + 3) L (.int v :: st) μ Post) : Go y cc nL ret d pc L (st) μ Post := by
  intro l p e s m args below meth c D ad kc H locs ls X hP hS hl
  exact lv_ldcw X.1 X.2.1 X.2.2.2.2.1 (gm_hw X.2.2.2.2.2.1 hc rfl) dd (g l p e s m args below meth c D ad kc H locs ls X hP hS hl)
theorem go_ldc2 {i : Nat} {v : Int64} (dd : decode cc pc = .ok (.ldc2_w i, 3)) (hc : Cond.constantLong y.cls i v ∈ lw_tbl) (g : Go y cc nL ret d (pc + 3) L (.long v :: st) μ Post) : Go y cc nL ret d pc L (st) μ Post := by
  intro l p e s m args below meth c D ad kc H locs ls X hP hS hl
  exact lv_ldc2 X.1 X.2.1 X.2.2.2.2.1 (gm_hw X.2.2.2.2.2.1 hc rfl) dd (g l p e s m args below meth c D ad kc H locs ls X hP hS hl)
theorem go_iadd {x z : Int32} (dd : decode cc pc = .ok (.iadd, 1))  (g : Go y cc nL ret d (pc + 1) L (.int (x + z) :: st) μ Post) : Go y cc nL ret d pc L (.int z :: .int x :: st) μ Post := by
  intro l p e s m args below meth c D ad kc H locs ls X hP hS hl
  exact lv_iadd X.1 X.2.1 dd (g l p e s m args below meth c D ad kc H locs ls X hP hS hl)
theorem go_isub {x z : Int32} (dd : decode cc pc = .ok (.isub, 1))  (g : Go y cc nL ret d (pc + 1) L (.int (x - z) :: st) μ Post) : Go y cc nL ret d pc L (.int z :: .int x :: st) μ Post := by
  intro l p e s m args below meth c D ad kc H locs ls X hP hS hl
  exact lv_isub X.1 X.2.1 dd (g l p e s m args below meth c D ad kc H locs ls X hP hS hl)
theorem go_imul {x z : Int32} (dd : decode cc pc = .ok (.imul, 1))  (g : Go y cc nL ret d (pc + 1) L (.int (x * z) :: st) μ Post) : Go y cc nL ret d pc L (.int z :: .int x :: st) μ Post := by
  intro l p e s m args below meth c D ad kc H locs ls X hP hS hl
  exact lv_imul X.1 X.2.1 dd (g l p e s m args below meth c D ad kc H locs ls X hP hS hl)
theorem go_iand {x z : Int32} (dd : decode cc pc = .ok (.iand, 1))  (g : Go y cc nL ret d (pc + 1) L (.int (x &&& z) :: st) μ Post) : Go y cc nL ret d pc L (.int z :: .int x :: st) μ Post := by
  intro l p e s m args below meth c D ad kc H locs ls X hP hS hl
  exact lv_iand X.1 X.2.1 dd (g l p e s m args below meth c D ad kc H locs ls X hP hS hl)
theorem go_ior {x z : Int32} (dd : decode cc pc = .ok (.ior, 1))  (g : Go y cc nL ret d (pc + 1) L (.int (x ||| z) :: st) μ Post) : Go y cc nL ret d pc L (.int z :: .int x :: st) μ Post := by
  intro l p e s m args below meth c D ad kc H locs ls X hP hS hl
  exact lv_ior X.1 X.2.1 dd (g l p e s m args below meth c D ad kc H locs ls X hP hS hl)
theorem go_ixor {x z : Int32} (dd : decode cc pc = .ok (.ixor, 1))  (g : Go y cc nL ret d (pc + 1) L (.int (x ^^^ z) :: st) μ Post) : Go y cc nL ret d pc L (.int z :: .int x :: st) μ Post := by
  intro l p e s m args below meth c D ad kc H locs ls X hP hS hl
  exact lv_ixor X.1 X.2.1 dd (g l p e s m args below meth c D ad kc H locs ls X hP hS hl)
theorem go_ishl {x z : Int32} (dd : decode cc pc = .ok (.ishl, 1))  (g : Go y cc nL ret d (pc + 1) L (.int (x <<< (z &&& 31)) :: st) μ Post) : Go y cc nL ret d pc L (.int z :: .int x :: st) μ Post := by
  intro l p e s m args below meth c D ad kc H locs ls X hP hS hl
  exact lv_ishl X.1 X.2.1 dd (g l p e s m args below meth c D ad kc H locs ls X hP hS hl)
theorem go_ishr {x z : Int32} (dd : decode cc pc = .ok (.ishr, 1))  (g : Go y cc nL ret d (pc + 1) L (.int (x >>> (z &&& 31)) :: st) μ Post) : Go y cc nL ret d pc L (.int z :: .int x :: st) μ Post := by
  intro l p e s m args below meth c D ad kc H locs ls X hP hS hl
  exact lv_ishr X.1 X.2.1 dd (g l p e s m args below meth c D ad kc H locs ls X hP hS hl)
theorem go_iushr {x z : Int32} (dd : decode cc pc = .ok (.iushr, 1))  (g : Go y cc nL ret d (pc + 1) L (.int ((x.toUInt32 >>> (z.toUInt32 &&& Int32.toUInt32 31)).toInt32) :: st) μ Post) : Go y cc nL ret d pc L (.int z :: .int x :: st) μ Post := by
  intro l p e s m args below meth c D ad kc H locs ls X hP hS hl
  exact lv_iushr X.1 X.2.1 dd rfl (g l p e s m args below meth c D ad kc H locs ls X hP hS hl)
theorem go_idiv {x z : Int32} (dd : decode cc pc = .ok (.idiv, 1)) (hz : ¬ z = 0) (g : Go y cc nL ret d (pc + 1) L (.int (x / z) :: st) μ Post) : Go y cc nL ret d pc L (.int z :: .int x :: st) μ Post := by
  intro l p e s m args below meth c D ad kc H locs ls X hP hS hl
  exact lv_idiv X.1 X.2.1 dd hz (g l p e s m args below meth c D ad kc H locs ls X hP hS hl)
theorem go_irem {x z : Int32} (dd : decode cc pc = .ok (.irem, 1)) (hz : ¬ z = 0) (g : Go y cc nL ret d (pc + 1) L (.int (x - x / z * z) :: st) μ Post) : Go y cc nL ret d pc L (.int z :: .int x :: st) μ Post := by
  intro l p e s m args below meth c D ad kc H locs ls X hP hS hl
  exact lv_irem X.1 X.2.1 dd hz (g l p e s m args below meth c D ad kc H locs ls X hP hS hl)
theorem go_ineg {x : Int32} (dd : decode cc pc = .ok (.ineg, 1))  (g : Go y cc nL ret d (pc + 1) L (.int (-x) :: st) μ Post) : Go y cc nL ret d pc L (.int x :: st) μ Post := by
  intro l p e s m args below meth c D ad kc H locs ls X hP hS hl
  exact lv_ineg X.1 X.2.1 dd (g l p e s m args below meth c D ad kc H locs ls X hP hS hl)
theorem go_ladd {x z : Int64} (dd : decode cc pc = .ok (.ladd, 1))  (g : Go y cc nL ret d (pc + 1) L (.long (x + z) :: st) μ Post) : Go y cc nL ret d pc L (.long z :: .long x :: st) μ Post := by
  intro l p e s m args below meth c D ad kc H locs ls X hP hS hl
  exact lv_ladd X.1 X.2.1 dd (g l p e s m args below meth c D ad kc H locs ls X hP hS hl)
theorem go_lsub {x z : Int64} (dd : decode cc pc = .ok (.lsub, 1))  (g : Go y cc nL ret d (pc + 1) L (.long (x - z) :: st) μ Post) : Go y cc nL ret d pc L (.long z :: .long x :: st) μ Post := by
  intro l p e s m args below meth c D ad kc H locs ls X hP hS hl
  exact lv_lsub X.1 X.2.1 dd (g l p e s m args below meth c D ad kc H locs ls X hP hS hl)
theorem go_lmul {x z : Int64} (dd : decode cc pc = .ok (.lmul, 1))  (g : Go y cc nL ret d (pc + 1) L (.long (x * z) :: st) μ Post) : Go y cc nL ret d pc L (.long z :: .long x :: st) μ Post := by
  intro l p e s m args below meth c D ad kc H locs ls X hP hS hl
  exact lv_lmul X.1 X.2.1 dd (g l p e s m args below meth c D ad kc H locs ls X hP hS hl)
theorem go_land {x z : Int64} (dd : decode cc pc = .ok (.land, 1))  (g : Go y cc nL ret d (pc + 1) L (.long (x &&& z) :: st) μ Post) : Go y cc nL ret d pc L (.long z :: .long x :: st) μ Post := by
  intro l p e s m args below meth c D ad kc H locs ls X hP hS hl
  exact lv_land X.1 X.2.1 dd (g l p e s m args below meth c D ad kc H locs ls X hP hS hl)
theorem go_lor {x z : Int64} (dd : decode cc pc = .ok (.lor, 1))  (g : Go y cc nL ret d (pc + 1) L (.long (x ||| z) :: st) μ Post) : Go y cc nL ret d pc L (.long z :: .long x :: st) μ Post := by
  intro l p e s m args below meth c D ad kc H locs ls X hP hS hl
  exact lv_lor X.1 X.2.1 dd (g l p e s m args below meth c D ad kc H locs ls X hP hS hl)
theorem go_ldiv {x z : Int64} (dd : decode cc pc = .ok (.ldiv, 1)) (hz : ¬ z = 0) (g : Go y cc nL ret d (pc + 1) L (.long (x / z) :: st) μ Post) : Go y cc nL ret d pc L (.long z :: .long x :: st) μ Post := by
  intro l p e s m args below meth c D ad kc H locs ls X hP hS hl
  exact lv_ldiv X.1 X.2.1 dd hz (g l p e s m args below meth c D ad kc H locs ls X hP hS hl)
theorem go_lrem {x z : Int64} (dd : decode cc pc = .ok (.lrem, 1)) (hz : ¬ z = 0) (g : Go y cc nL ret d (pc + 1) L (.long (x - x / z * z) :: st) μ Post) : Go y cc nL ret d pc L (.long z :: .long x :: st) μ Post := by
  intro l p e s m args below meth c D ad kc H locs ls X hP hS hl
  exact lv_lrem X.1 X.2.1 dd hz (g l p e s m args below meth c D ad kc H locs ls X hP hS hl)
theorem go_lshl {x : Int64} {z : Int32} (dd : decode cc pc = .ok (.lshl, 1))  (g : Go y cc nL ret d (pc + 1) L (.long (x <<< (z.toInt64 &&& 63)) :: st) μ Post) : Go y cc nL ret d pc L (.int z :: .long x :: st) μ Post := by
  intro l p e s m args below meth c D ad kc H locs ls X hP hS hl
  exact lv_lshl X.1 X.2.1 dd rfl (g l p e s m args below meth c D ad kc H locs ls X hP hS hl)
theorem go_lshr {x : Int64} {z : Int32} (dd : decode cc pc = .ok (.lshr, 1))  (g : Go y cc nL ret d (pc + 1) L (.long (x >>> (z.toInt64 &&& 63)) :: st) μ Post) : Go y cc nL ret d pc L (.int z :: .long x :: st) μ Post := by
  intro l p e s m args below meth c D ad kc H locs ls X hP hS hl
  exact lv_lshr X.1 X.2.1 dd rfl (g l p e s m args below meth c D ad kc H locs ls X hP hS hl)
theorem go_i2l {x : Int32} (dd : decode cc pc = .ok (.i2l, 1))  (g : Go y cc nL ret d (pc + 1) L (.long x.toInt64 :: st) μ Post) : Go y cc nL ret d pc L (.int x :: st) μ Post := by
  intro l p e s m args below meth c D ad kc H locs ls X hP hS hl
  exact lv_i2l X.1 X.2.1 dd rfl (g l p e s m args below meth c D ad kc H locs ls X hP hS hl)
theorem go_l2i {x : Int64} (dd : decode cc pc = .ok (.l2i, 1))  (g : Go y cc nL ret d (pc + 1) L (.int x.toInt32 :: st) μ Post) : Go y cc nL ret d pc L (.long x :: st) μ Post := by
  intro l p e s m args below meth c D ad kc H locs ls X hP hS hl
  exact lv_l2i X.1 X.2.1 dd rfl (g l p e s m args below meth c D ad kc H locs ls X hP hS hl)
theorem go_i2b {x : Int32} (dd : decode cc pc = .ok (.i2b, 1))  (g : Go y cc nL ret d (pc + 1) L (.int x.toInt8.toInt32 :: st) μ Post) : Go y cc nL ret d pc L (.int x :: st) μ Post := by
  intro l p e s m args below meth c D ad kc H locs ls X hP hS hl
  exact lv_i2b X.1 X.2.1 dd rfl (g l p e s m args below meth c D ad kc H locs ls X hP hS hl)
theorem go_i2s {x : Int32} (dd : decode cc pc = .ok (.i2s, 1))  (g : Go y cc nL ret d (pc + 1) L (.int x.toInt16.toInt32 :: st) μ Post) : Go y cc nL ret d pc L (.int x :: st) μ Post := by
  intro l p e s m args below meth c D ad kc H locs ls X hP hS hl
  exact lv_i2s X.1 X.2.1 dd rfl (g l p e s m args below meth c D ad kc H locs ls X hP hS hl)
theorem go_lcmp {x z : Int64} (dd : decode cc pc = .ok (.lcmp, 1))  (g : Go y cc nL ret d (pc + 1) L (.int (lg_cmp x z) :: st) μ Post) : Go y cc nL ret d pc L (.long z :: .long x :: st) μ Post := by
  intro l p e s m args below meth c D ad kc H locs ls X hP hS hl
  exact W.lcmp X.1 X.2.1 dd (g l p e s m args below meth c D ad kc H locs ls X hP hS hl)
theorem go_dup {v : Value} (dd : decode cc pc = .ok (.dup, 1)) (hv : v.category = 1) (g : Go y cc nL ret d (pc + 1) L (v :: v :: st) μ Post) : Go y cc nL ret d pc L (v :: st) μ Post := by
  intro l p e s m args below meth c D ad kc H locs ls X hP hS hl
  exact lv_dup X.1 X.2.1 dd ((gm_v_cat ad v).trans hv) (g l p e s m args below meth c D ad kc H locs ls X hP hS hl)
theorem go_dup2 {v u : Value} (dd : decode cc pc = .ok (.dup2, 1)) (hv : v.category = 1) (hu : u.category = 1) (g : Go y cc nL ret d (pc + 1) L (v :: u :: v :: u :: st) μ Post) : Go y cc nL ret d pc L (v :: u :: st) μ Post := by
  intro l p e s m args below meth c D ad kc H locs ls X hP hS hl
  exact lv_dup2_11 X.1 X.2.1 dd ((gm_v_cat ad v).trans hv) ((gm_v_cat ad u).trans hu) (g l p e s m args below meth c D ad kc H locs ls X hP hS hl)
theorem go_dup2J {v : Value} (dd : decode cc pc = .ok (.dup2, 1)) (hv : v.category = 2) (g : Go y cc nL ret d (pc + 1) L (v :: v :: st) μ Post) : Go y cc nL ret d pc L (v :: st) μ Post := by
  intro l p e s m args below meth c D ad kc H locs ls X hP hS hl
  exact lv_dup2_2 X.1 X.2.1 dd ((gm_v_cat ad v).trans hv) (g l p e s m args below meth c D ad kc H locs ls X hP hS hl)
theorem go_pop {v : Value} (dd : decode cc pc = .ok (.pop, 1)) (hv : v.category = 1) (g : Go y cc nL ret d (pc + 1) L (st) μ Post) : Go y cc nL ret d pc L (v :: st) μ Post := by
  intro l p e s m args below meth c D ad kc H locs ls X hP hS hl
  exact lv_pop X.1 X.2.1 dd ((gm_v_cat ad v).trans hv) (g l p e s m args below meth c D ad kc H locs ls X hP hS hl)
theorem go_il0 {r : List (Option Value)} {x : Int32} (dd : decode cc pc = .ok (.iload_n 0, 1)) (g : Go y cc nL ret d (pc + 1) (some (.int x) :: r) (.int x :: st) μ Post) : Go y cc nL ret d pc (some (.int x) :: r) st μ Post := by
  intro l p e s m args below meth c D ad kc H locs ls X hP hS hl
  exact lv_iload_n X.1 X.2.1 dd rfl (gm_has_at hl (i := 0) rfl) (g l p e s m args below meth c D ad kc H locs ls X hP hS hl)
theorem go_ll0 {r : List (Option Value)} {x : Int64} (dd : decode cc pc = .ok (.lload_n 0, 1)) (g : Go y cc nL ret d (pc + 1) (some (.long x) :: r) (.long x :: st) μ Post) : Go y cc nL ret d pc (some (.long x) :: r) st μ Post := by
  intro l p e s m args below meth c D ad kc H locs ls X hP hS hl
  exact lv_lload_n X.1 X.2.1 dd rfl (gm_has_at hl (i := 0) rfl) (g l p e s m args below meth c D ad kc H locs ls X hP hS hl)
theorem go_al0 {r : List (Option Value)} {x : Nat} (dd : decode cc pc = .ok (.aload_n 0, 1)) (g : Go y cc nL ret d (pc + 1) (some (.ref x) :: r) (.ref x :: st) μ Post) : Go y cc nL ret d pc (some (.ref x) :: r) st μ Post := by
  intro l p e s m args below meth c D ad kc H locs ls X hP hS hl
  exact lv_aload_n X.1 X.2.1 dd rfl (gm_has_at hl (i := 0) rfl) (g l p e s m args below meth c D ad kc H locs ls X hP hS hl)
theorem go_il1 {l0 : Option Value} {r : List (Option Value)} {x : Int32} (dd : decode cc pc = .ok (.iload_n 1, 1)) (g : Go y cc nL ret d (pc + 1) (l0 :: some (.int x) :: r) (.int x :: st) μ Post) : Go y cc nL ret d pc (l0 :: some (.int x) :: r) st μ Post := by
  intro l p e s m args below meth c D ad kc H locs ls X hP hS hl
  exact lv_iload_n X.1 X.2.1 dd rfl (gm_has_at hl (i := 1) rfl) (g l p e s m args below meth c D ad kc H locs ls X hP hS hl)
theorem go_ll1 {l0 : Option Value} {r : List (Option Value)} {x : Int64} (dd : decode cc pc = .ok (.lload_n 1, 1)) (g : Go y cc nL ret d (pc + 1) (l0 :: some (.long x) :: r) (.long x :: st) μ Post) : Go y cc nL ret d pc (l0 :: some (.long x) :: r) st μ Post := by
  intro l p e s m args below meth c D ad kc H locs ls X hP hS hl
  exact lv_lload_n X.1 X.2.1 dd rfl (gm_has_at hl (i := 1) rfl) (g l p e s m args below meth c D ad kc H locs ls X hP hS hl)
theorem go_al1 {l0 : Option Value} {r : List (Option Value)} {x : Nat} (dd : decode cc pc = .ok (.aload_n 1, 1)) (g : Go y cc nL ret d (pc + 1) (l0 :: some (.ref x) :: r) (.ref x :: st) μ Post) : Go y cc nL ret d pc (l0 :: some (.ref x) :: r) st μ Post := by
  intro l p e s m args below meth c D ad kc H locs ls X hP hS hl
  exact lv_aload_n X.1 X.2.1 dd rfl (gm_has_at hl (i := 1) rfl) (g l p e s m args below meth c D ad kc H locs ls X hP hS hl)
theorem go_il2 {l0 l1 : Option Value} {r : List (Option Value)} {x : Int32} (dd : decode cc pc = .ok (.iload_n 2, 1)) (g : Go y cc nL ret d (pc + 1) (l0 :: l1 :: some (.int x) :: r) (.int x :: st) μ Post) : Go y cc nL ret d pc (l0 :: l1 :: some (.int x) :: r) st μ Post := by
  intro l p e s m args below meth c D ad kc H locs ls X hP hS hl
  exact lv_iload_n X.1 X.2.1 dd rfl (gm_has_at hl (i := 2) rfl) (g l p e s m args below meth c D ad kc H locs ls X hP hS hl)
theorem go_ll2 {l0 l1 : Option Value} {r : List (Option Value)} {x : Int64} (dd : decode cc pc = .ok (.lload_n 2, 1)) (g : Go y cc nL ret d (pc + 1) (l0 :: l1 :: some (.long x) :: r) (.long x :: st) μ Post) : Go y cc nL ret d pc (l0 :: l1 :: some (.long x) :: r) st μ Post := by
  intro l p e s m args below meth c D ad kc H locs ls X hP hS hl
  exact lv_lload_n X.1 X.2.1 dd rfl (gm_has_at hl (i := 2) rfl) (g l p e s m args below meth c D ad kc H locs ls X hP hS hl)
theorem go_al2 {l0 l1 : Option Value} {r : List (Option Value)} {x : Nat} (dd : decode cc pc = .ok (.aload_n 2, 1)) (g : Go y cc nL ret d (pc + 1) (l0 :: l1 :: some (.ref x) :: r) (.ref x :: st) μ Post) : Go y cc nL ret d pc (l0 :: l1 :: some (.ref x) :: r) st μ Post := by
  intro l p e s m args below meth c D ad kc H locs ls X hP hS hl
  exact lv_aload_n X.1 X.2.1 dd rfl (gm_has_at hl (i := 2) rfl) (g l p e s m args below meth c D ad kc H locs ls X hP hS hl)
theorem go_il3 {l0 l1 l2 : Option Value} {r : List (Option Value)} {x : Int32} (dd : decode cc pc = .ok (.iload_n 3, 1)) (g : Go y cc nL ret d (pc + 1) (l0 :: l1 :: l2 :: some (.int x) :: r) (.int x :: st) μ Post) : Go y cc nL ret d pc (l0 :: l1 :: l2 :: some (.int x) :: r) st μ Post := by
  intro l p e s m args below meth c D ad kc H locs ls X hP hS hl
  exact lv_iload_n X.1 X.2.1 dd rfl (gm_has_at hl (i := 3) rfl) (g l p e s m args below meth c D ad kc H locs ls X hP hS hl)
theorem go_ll3 {l0 l1 l2 : Option Value} {r : List (Option Value)} {x : Int64} (dd : decode cc pc = .ok (.lload_n 3, 1)) (g : Go y cc nL ret d (pc + 1) (l0 :: l1 :: l2 :: some (.long x) :: r) (.long x :: st) μ Post) : Go y cc nL ret d pc (l0 :: l1 :: l2 :: some (.long x) :: r) st μ Post := by
  intro l p e s m args below meth c D ad kc H locs ls X hP hS hl
  exact lv_lload_n X.1 X.2.1 dd rfl (gm_has_at hl (i := 3) rfl) (g l p e s m args below meth c D ad kc H locs ls X hP hS hl)
theorem go_al3 {l0 l1 l2 : Option Value} {r : List (Option Value)} {x : Nat} (dd : decode cc pc = .ok (.aload_n 3, 1)) (g : Go y cc nL ret d (pc + 1) (l0 :: l1 :: l2 :: some (.ref x) :: r) (.ref x :: st) μ Post) : Go y cc nL ret d pc (l0 :: l1 :: l2 :: some (.ref x) :: r) st μ Post := by
  intro l p e s m args below meth c D ad kc H locs ls X hP hS hl
  exact lv_aload_n X.1 X.2.1 dd rfl (gm_has_at hl (i := 3) rfl) (g l p e s m args below meth c D ad kc H locs ls X hP hS hl)
theorem go_il4 {l0 l1 l2 l3 : Option Value} {r : List (Option Value)} {x : Int32} (dd : decode cc pc = .ok (.iload 4, 2)) (g : Go y cc nL ret d (pc + 2) (l0 :: l1 :: l2 :: l3 :: some (.int x) :: r) (.int x :: st) μ Post) : Go y cc nL ret d pc (l0 :: l1 :: l2 :: l3 :: some (.int x) :: r) st μ Post := by
  intro l p e s m args below meth c D ad kc H locs ls X hP hS hl
  exact lv_iload X.1 X.2.1 dd (gm_has_at hl (i := 4) rfl) (g l p e s m args below meth c D ad kc H locs ls X hP hS hl)
theorem go_ll4 {l0 l1 l2 l3 : Option Value} {r : List (Option Value)} {x : Int64} (dd : decode cc pc = .ok (.lload 4, 2)) (g : Go y cc nL ret d (pc + 2) (l0 :: l1 :: l2 :: l3 :: some (.long x) :: r) (.long x :: st) μ Post) : Go y cc nL ret d pc (l0 :: l1 :: l2 :: l3 :: some (.long x) :: r) st μ Post := by
  intro l p e s m args below meth c D ad kc H locs ls X hP hS hl
  exact lv_lload X.1 X.2.1 dd (gm_has_at hl (i := 4) rfl) (g l p e s m args below meth c D ad kc H locs ls X hP hS hl)
theorem go_al4 {l0 l1 l2 l3 : Option Value} {r : List (Option Value)} {x : Nat} (dd : decode cc pc = .ok (.aload 4, 2)) (g : Go y cc nL ret d (pc + 2) (l0 :: l1 :: l2 :: l3 :: some (.ref x) :: r) (.ref x :: st) μ Post) : Go y cc nL ret d pc (l0 :: l1 :: l2 :: l3 :: some (.ref x) :: r) st μ Post := by
  intro l p e s m args below meth c D ad kc H locs ls X hP hS hl
  exact lv_aload X.1 X.2.1 dd (gm_has_at hl (i := 4) rfl) (g l p e s m args below meth c D ad kc H locs ls X hP hS hl)
theorem go_il5 {l0 l1 l2 l3 l4 : Option Value} {r : List (Option Value)} {x : Int32} (dd : decode cc pc = .ok (.iload 5, 2)) (g : Go y cc nL ret d (pc + 2) (l0 :: l1 :: l2 :: l3 :: l4 :: some (.int x) :: r) (.int x :: st) μ Post) : Go y cc nL ret d pc (l0 :: l1 :: l2 :: l3 :: l4 :: some (.int x) :: r) st μ Post := by
  intro l p e s m args below meth c D ad kc H locs ls X hP hS hl
  exact lv_iload X.1 X.2.1 dd (gm_has_at hl (i := 5) rfl) (g l p e s m args below meth c D ad kc H locs ls X hP hS hl)
theorem go_ll5 {l0 l1 l2 l3 l4 : Option Value} {r : List (Option Value)} {x : Int64} (dd : decode cc pc = .ok (.lload 5, 2)) (g : Go y cc nL ret d (pc + 2) (l0 :: l1 :: l2 :: l3 :: l4 :: some (.long x) :: r) (.long x :: st) μ Post) : Go y cc nL ret d pc (l0 :: l1 :: l2 :: l3 :: l4 :: some (.long x) :: r) st μ Post := by
  intro l p e s m args below meth c D ad kc H locs ls X hP hS hl
  exact lv_lload X.1 X.2.1 dd (gm_has_at hl (i := 5) rfl) (g l p e s m args below meth c D ad kc H locs ls X hP hS hl)
theorem go_al5 {l0 l1 l2 l3 l4 : Option Value} {r : List (Option Value)} {x : Nat} (dd : decode cc pc = .ok (.aload 5, 2)) (g : Go y cc nL ret d (pc + 2) (l0 :: l1 :: l2 :: l3 :: l4 :: some (.ref x) :: r) (.ref x :: st) μ Post) : Go y cc nL ret d pc (l0 :: l1 :: l2 :: l3 :: l4 :: some (.ref x) :: r) st μ Post := by
  intro l p e s m args below meth c D ad kc H locs ls X hP hS hl
  exact lv_aload X.1 X.2.1 dd (gm_has_at hl (i := 5) rfl) (g l p e s m args below meth c D ad kc H locs ls X hP hS hl)
theorem go_il6 {l0 l1 l2 l3 l4 l5 : Option Value} {r : List (Option Value)} {x : Int32} (dd : decode cc pc = .ok (.iload 6, 2)) (g : Go y cc nL ret d (pc + 2) (l0 :: l1 :: l2 :: l3 :: l4 :: l5 :: some (.int x) :: r) (.int x :: st) μ Post) : Go y cc nL ret d pc (l0 :: l1 :: l2 :: l3 :: l4 :: l5 :: some (.int x) :: r) st μ Post := by
  intro l p e s m args below meth c D ad kc H locs ls X hP hS hl
  exact lv_iload X.1 X.2.1 dd (gm_has_at hl (i := 6) rfl) (g l p e s m args below meth c D ad kc H locs ls X hP hS hl)
theorem go_ll6 {l0 l1 l2 l3 l4 l5 : Option Value} {r : List (Option Value)} {x : Int64} (dd : decode cc pc = .ok (.lload 6, 2)) (g : Go y cc nL ret d (pc + 2) (l0 :: l1 :: l2 :: l3 :: l4 :: l5 :: some (.long x) :: r) (.long x :: st) μ Post) : Go y cc nL ret d pc (l0 :: l1 :: l2 :: l3 :: l4 :: l5 :: some (.long x) :: r) st μ Post := by
  intro l p e s m args below meth c D ad kc H locs ls X hP hS hl
  exact lv_lload X.1 X.2.1 dd (gm_has_at hl (i := 6) rfl) (g l p e s m args below meth c D ad kc H locs ls X hP hS hl)
theorem go_al6 {l0 l1 l2 l3 l4 l5 : Option Value} {r : List (Option Value)} {x : Nat} (dd : decode cc pc = .ok (.aload 6, 2)) (g : Go y cc nL ret d (pc + 2) (l0 :: l1 :: l2 :: l3 :: l4 :: l5 :: some (.ref x) :: r) (.ref x :: st) μ Post) : Go y cc nL ret d pc (l0 :: l1 :: l2 :: l3 :: l4 :: l5 :: some (.ref x) :: r) st μ Post := by
  intro l p e s m args below meth c D ad kc H locs ls X hP hS hl
  exact lv_aload X.1 X.2.1 dd (gm_has_at hl (i := 6) rfl) (g l p e s m args below meth c D ad kc H locs ls X hP hS hl)
theorem go_il7 {l0 l1 l2 l3 l4 l5 l6 : Option Value} {r : List (Option Value)} {x : Int32} (dd : decode cc pc = .ok (.iload 7, 2)) (g : Go y cc nL ret d (pc + 2) (l0 :: l1 :: l2 :: l3 :: l4 :: l5 :: l6 :: some (.int x) :: r) (.int x :: st) μ Post) : Go y cc nL ret d pc (l0 :: l1 :: l2 :: l3 :: l4 :: l5 :: l6 :: some (.int x) :: r) st μ Post := by
  intro l p e s m args below meth c D ad kc H locs ls X hP hS hl
  exact lv_iload X.1 X.2.1 dd (gm_has_at hl (i := 7) rfl) (g l p e s m args below meth c D ad kc H locs ls X hP hS hl)
theorem go_ll7 {l0 l1 l2 l3 l4 l5 l6 : Option Value} {r : List (Option Value)} {x : Int64} (dd : decode cc pc = .ok (.lload 7, 2)) (g : Go y cc nL ret d (pc + 2) (l0 :: l1 :: l2 :: l3 :: l4 :: l5 :: l6 :: some (.long x) :: r) (.long x :: st) μ Post) : Go y cc nL ret d pc (l0 :: l1 :: l2 :: l3 :: l4 :: l5 :: l6 :: some (.long x) :: r) st μ Post := by
  intro l p e s m args below meth c D ad kc H locs ls X hP hS hl
  exact lv_lload X.1 X.2.1 dd (gm_has_at hl (i := 7) rfl) (g l p e s m args below meth c D ad kc H locs ls X hP hS hl)
theorem go_al7 {l0 l1 l2 l3 l4 l5 l6 : Option Value} {r : List (Option Value)} {x : Nat} (dd : decode cc pc = .ok (.aload 7, 2)) (g : Go y cc nL ret d (pc + 2) (l0 :: l1 :: l2 :: l3 :: l4 :: l5 :: l6 :: some (.ref x) :: r) (.ref x :: st) μ Post) : Go y cc nL ret d pc (l0 :: l1 :: l2 :: l3 :: l4 :: l5 :: l6 :: some (.ref x) :: r) st μ Post := by
  intro l p e s m args below meth c D ad kc H locs ls X hP hS hl
  exact lv_aload X.1 X.2.1 dd (gm_has_at hl (i := 7) rfl) (g l p e s m args below meth c D ad kc H locs ls X hP hS hl)
theorem go_il8 {l0 l1 l2 l3 l4 l5 l6 l7 : Option Value} {r : List (Option Value)} {x : Int32} (dd : decode cc pc = .ok (.iload 8, 2)) (g : Go y cc nL ret d (pc + 2) (l0 :: l1 :: l2 :: l3 :: l4 :: l5 :: l6 :: l7 :: some (.int x) :: r) (.int x :: st) μ Post) : Go y cc nL ret d pc (l0 :: l1 :: l2 :: l3 :: l4 :: l5 :: l6 :: l7 :: some (.int x) :: r) st μ Post := by
  intro l p e s m args below meth c D ad kc H locs ls X hP hS hl
  exact lv_iload X.1 X.2.1 dd (gm_has_at hl (i := 8) rfl) (g l p e s m args below meth c D ad kc H locs ls X hP hS hl)
theorem go_ll8 {l0 l1 l2 l3 l4 l5 l6 l7 : Option Value} {r : List (Option Value)} {x : Int64} (dd : decode cc pc = .ok (.lload 8, 2)) (g : Go y cc nL ret d (pc + 2) (l0 :: l1 :: l2 :: l3 :: l4 :: l5 :: l6 :: l7 :: some (.long x) :: r) (.long x :: st) μ Post) : Go y cc nL ret d pc (l0 :: l1 :: l2 :: l3 :: l4 :: l5 :: l6 :: l7 :: some (.long x) :: r) st μ Post := by
  intro l p e s m args below meth c D ad kc H locs ls X hP hS hl
  exact lv_lload X.1 X.2.1 dd (gm_has_at hl (i := 8) rfl) (g l p e s m args below meth c D ad kc H locs ls X hP hS hl)
theorem go_al8 {l0 l1 l2 l3 l4 l5 l6 l7 : Option Value} {r : List (Option Value)} {x : Nat} (dd : decode cc pc = .ok (.aload 8, 2)) (g : Go y cc nL ret d (pc + 2) (l0 :: l1 :: l2 :: l3 :: l4 :: l5 :: l6 :: l7 :: some (.ref x) :: r) (.ref x :: st) μ Post) : Go y cc nL ret d pc (l0 :: l1 :: l2 :: l3 :: l4 :: l5 :: l6 :: l7 :: some (.ref x) :: r) st μ Post := by
  intro l p e s m args below meth c D ad kc H locs ls X hP hS hl
  exact lv_aload X.1 X.2.1 dd (gm_has_at hl (i := 8) rfl) (g l p e s m args below meth c D ad kc H locs ls X hP hS hl)
theorem go_il9 {l0 l1 l2 l3 l4 l5 l6 l7 l8 : Option Value} {r : List (Option Value)} {x : Int32} (dd : decode cc pc = .ok (.iload 9, 2)) (g : Go y cc nL ret d (pc + 2) (l0 :: l1 :: l2 :: l3 :: l4 :: l5 :: l6 :: l7 :: l8 :: some (.int x) :: r) (.int x :: st) μ Post) : Go y cc nL ret d pc (l0 :: l1 :: l2 :: l3 :: l4 :: l5 :: l6 :: l7 :: l8 :: some (.int x) :: r) st μ Post := by
  intro l p e s m args below meth c D ad kc H locs ls X hP hS hl
  exact lv_iload X.1 X.2.1 dd (gm_has_at hl (i := 9) rfl) (g l p e s m args below meth c D ad kc H locs ls X hP hS hl)
theorem go_ll9 {l0 l1 l2 l3 l4 l5 l6 l7 l8 : Option Value} {r : List (Option Value)} {x : Int64} (dd : decode cc pc = .ok (.lload 9, 2)) (g : Go y cc nL ret d (pc + 2) (l0 :: l1 :: l2 :: l3 :: l4 :: l5 :: l6 :: l7 :: l8 :: some (.long x) :: r) (.long x :: st) μ Post) : Go y cc nL ret d pc (l0 :: l1 :: l2 :: l3 :: l4 :: l5 :: l6 :: l7 :: l8 :: some (.long x) :: r) st μ Post := by
  intro l p e s m args below meth c D ad kc H locs ls X hP hS hl
  exact lv_lload X.1 X.2.1 dd (gm_has_at hl (i := 9) rfl) (g l p e s m args below meth c D ad kc H locs ls X hP hS hl)
theorem go_al9 {l0 l1 l2 l3 l4 l5 l6 l7 l8 : Option Value} {r : List (Option Value)} {x : Nat} (dd : decode cc pc = .ok (.aload 9, 2)) (g : Go y cc nL ret d (pc + 2) (l0 :: l1 :: l2 :: l3 :: l4 :: l5 :: l6 :: l7 :: l8 :: some (.ref x) :: r) (.ref x :: st) μ Post) : Go y cc nL ret d pc (l0 :: l1 :: l2 :: l3 :: l4 :: l5 :: l6 :: l7 :: l8 :: some (.ref x) :: r) st μ Post := by
  intro l p e s m args below meth c D ad kc H locs ls X hP hS hl
  exact lv_aload X.1 X.2.1 dd (gm_has_at hl (i := 9) rfl) (g l p e s m args below meth c D ad kc H locs ls X hP hS hl)
theorem go_il10 {l0 l1 l2 l3 l4 l5 l6 l7 l8 l9 : Option Value} {r : List (Option Value)} {x : Int32} (dd : decode cc pc = .ok (.iload 10, 2)) (g : Go y cc nL ret d (pc + 2) (l0 :: l1 :: l2 :: l3 :: l4 :: l5 :: l6 :: l7 :: l8 :: l9 :: some (.int x) :: r) (.int x :: st) μ Post) : Go y cc nL ret d pc (l0 :: l1 :: l2 :: l3 :: l4 :: l5 :: l6 :: l7 :: l8 :: l9 :: some (.int x) :: r) st μ Post := by
  intro l p e s m args below meth c D ad kc H locs ls X hP hS hl
  exact lv_iload X.1 X.2.1 dd (gm_has_at hl (i := 10) rfl) (g l p e s m args below meth c D ad kc H locs ls X hP hS hl)
theorem go_ll10 {l0 l1 l2 l3 l4 l5 l6 l7 l8 l9 : Option Value} {r : List (Option Value)} {x : Int64} (dd : decode cc pc = .ok (.lload 10, 2)) (g : Go y cc nL ret d (pc + 2) (l0 :: l1 :: l2 :: l3 :: l4 :: l5 :: l6 :: l7 :: l8 :: l9 :: some (.long x) :: r) (.long x :: st) μ Post) : Go y cc nL ret d pc (l0 :: l1 :: l2 :: l3 :: l4 :: l5 :: l6 :: l7 :: l8 :: l9 :: some (.long x) :: r) st μ Post := by
  intro l p e s m args below meth c D ad kc H locs ls X hP hS hl
  exact lv_lload X.1 X.2.1 dd (gm_has_at hl (i := 10) rfl) (g l p e s m args below meth c D ad kc H locs ls X hP hS hl)
theorem go_al10 {l0 l1 l2 l3 l4 l5 l6 l7 l8 l9 : Option Value} {r : List (Option Value)} {x : Nat} (dd : decode cc pc = .ok (.aload 10, 2)) (g : Go y cc nL ret d (pc + 2) (l0 :: l1 :: l2 :: l3 :: l4 :: l5 :: l6 :: l7 :: l8 :: l9 :: some (.ref x) :: r) (.ref x :: st) μ Post) : Go y cc nL ret d pc (l0 :: l1 :: l2 :: l3 :: l4 :: l5 :: l6 :: l7 :: l8 :: l9 :: some (.ref x) :: r) st μ Post := by
  intro l p e s m args below meth c D ad kc H locs ls X hP hS hl
  exact lv_aload X.1 X.2.1 dd (gm_has_at hl (i := 10) rfl) (g l p e s m args below meth c D ad kc H locs ls X hP hS hl)
theorem go_il11 {l0 l1 l2 l3 l4 l5 l6 l7 l8 l9 l10 : Option Value} {r : List (Option Value)} {x : Int32} (dd : decode cc pc = .ok (.iload 11, 2)) (g : Go y cc nL ret d (pc + 2) (l0 :: l1 :: l2 :: l3 :: l4 :: l5 :: l6 :: l7 :: l8 :: l9 :: l10 :: some (.int x) :: r) (.int x :: st) μ Post) : Go y cc nL ret d pc (l0 :: l1 :: l2 :: l3 :: l4 :: l5 :: l6 :: l7 :: l8 :: l9 :: l10 :: some (.int x) :: r) st μ Post := by
  intro l p e s m args below meth c D ad kc H locs ls X hP hS hl
  exact lv_iload X.1 X.2.1 dd (gm_has_at hl (i := 11) rfl) (g l p e s m args below meth c D ad kc H locs ls X hP hS hl)
theorem go_ll11 {l0 l1 l2 l3 l4 l5 l6 l7 l8 l9 l10 : Option Value} {r : List (Option Value)} {x : Int64} (dd : decode cc pc = .ok (.lload 11, 2)) (g : Go y cc nL ret d (pc + 2) (l0 :: l1 :: l2 :: l3 :: l4 :: l5 :: l6 :: l7 :: l8 :: l9 :: l10 :: some (.long x) :: r) (.long x :: st) μ Post) : Go y cc nL ret d pc (l0 :: l1 :: l2 :: l3 :: l4 :: l5 :: l6 :: l7 :: l8 :: l9 :: l10 :: some (.long x) :: r) st μ Post := by
  intro l p e s m args below meth c D ad kc H locs ls X hP hS hl
  exact lv_lload X.1 X.2.1 dd (gm_has_at hl (i := 11) rfl) (g l p e s m args below meth c D ad kc H locs ls X hP hS hl)
theorem go_al11 {l0 l1 l2 l3 l4 l5 l6 l7 l8 l9 l10 : Option Value} {r : List (Option Value)} {x : Nat} (dd : decode cc pc = .ok (.aload 11, 2)) (g : Go y cc nL ret d (pc + 2) (l0 :: l1 :: l2 :: l3 :: l4 :: l5 :: l6 :: l7 :: l8 :: l9 :: l10 :: some (.ref x) :: r) (.ref x :: st) μ Post) : Go y cc nL ret d pc (l0 :: l1 :: l2 :: l3 :: l4 :: l5 :: l6 :: l7 :: l8 :: l9 :: l10 :: some (.ref x) :: r) st μ Post := by
  intro l p e s m args below meth c D ad kc H locs ls X hP hS hl
  exact lv_aload X.1 X.2.1 dd (gm_has_at hl (i := 11) rfl) (g l p e s m args below meth c D ad kc H locs ls X hP hS hl)
theorem go_il12 {l0 l1 l2 l3 l4 l5 l6 l7 l8 l9 l10 l11 : Option Value} {r : List (Option Value)} {x : Int32} (dd : decode cc pc = .ok (.iload 12, 2)) (g : Go y cc nL ret d (pc + 2) (l0 :: l1 :: l2 :: l3 :: l4 :: l5 :: l6 :: l7 :: l8 :: l9 :: l10 :: l11 :: some (.int x) :: r) (.int x :: st) μ Post) : Go y cc nL ret d pc (l0 :: l1 :: l2 :: l3 :: l4 :: l5 :: l6 :: l7 :: l8 :: l9 :: l10 :: l11 :: some (.int x) :: r) st μ Post := by
  intro l p e s m args below meth c D ad kc H locs ls X hP hS hl
  exact lv_iload X.1 X.2.1 dd (gm_has_at hl (i := 12) rfl) (g l p e s m args below meth c D ad kc H locs ls X hP hS hl)
theorem go_ll12 {l0 l1 l2 l3 l4 l5 l6 l7 l8 l9 l10 l11 : Option Value} {r : List (Option Value)} {x : Int64} (dd : decode cc pc = .ok (.lload 12, 2)) (g : Go y cc nL ret d (pc + 2) (l0 :: l1 :: l2 :: l3 :: l4 :: l5 :: l6 :: l7 :: l8 :: l9 :: l10 :: l11 :: some (.long x) :: r) (.long x :: st) μ Post) : Go y cc nL ret d pc (l0 :: l1 :: l2 :: l3 :: l4 :: l5 :: l6 :: l7 :: l8 :: l9 :: l10 :: l11 :: some (.long x) :: r) st μ Post := by
  intro l p e s m args below meth c D ad kc H locs ls X hP hS hl
  exact lv_lload X.1 X.2.1 dd (gm_has_at hl (i := 12) rfl) (g l p e s m args below meth c D ad kc H locs ls X hP hS hl)
theorem go_al12 {l0 l1 l2 l3 l4 l5 l6 l7 l8 l9 l10 l11 : Option Value} {r : List (Option Value)} {x : Nat} (dd : decode cc pc = .ok (.aload 12, 2)) (g : Go y cc nL ret d (pc + 2) (l0 :: l1 :: l2 :: l3 :: l4 :: l5 :: l6 :: l7 :: l8 :: l9 :: l10 :: l11 :: some (.ref x) :: r) (.ref x :: st) μ Post) : Go y cc nL ret d pc (l0 :: l1 :: l2 :: l3 :: l4 :: l5 :: l6 :: l7 :: l8 :: l9 :: l10 :: l11 :: some (.ref x) :: r) st μ Post := by
  intro l p e s m args below meth c D ad kc H locs ls X hP hS hl
  exact lv_aload X.1 X.2.1 dd (gm_has_at hl (i := 12) rfl) (g l p e s m args below meth c D ad kc H locs ls X hP hS hl)
theorem go_il13 {l0 l1 l2 l3 l4 l5 l6 l7 l8 l9 l10 l11 l12 : Option Value} {r : List (Option Value)} {x : Int32} (dd : decode cc pc = .ok (.iload 13, 2)) (g : Go y cc nL ret d (pc + 2) (l0 :: l1 :: l2 :: l3 :: l4 :: l5 :: l6 :: l7 :: l8 :: l9 :: l10 :: l11 :: l12 :: some (.int x) :: r) (.int x :: st) μ Post) : Go y cc nL ret d pc (l0 :: l1 :: l2 :: l3 :: l4 :: l5 :: l6 :: l7 :: l8 :: l9 :: l10 :: l11 :: l12 :: some (.int x) :: r) st μ Post := by
  intro l p e s m args below meth c D ad kc H locs ls X hP hS hl
  exact lv_iload X.1 X.2.1 dd (gm_has_at hl (i := 13) rfl) (g l p e s m args below meth c D ad kc H locs ls X hP hS hl)
theorem go_ll13 {l0 l1 l2 l3 l4 l5 l6 l7 l8 l9 l10 l11 l12 : Option Value} {r : List (Option Value)} {x : Int64} (dd : decode cc pc = .ok (.lload 13, 2)) (g : Go y cc nL ret d (pc + 2) (l0 :: l1 :: l2 :: l3 :: l4 :: l5 :: l6 :: l7 :: l8 :: l9 :: l10 :: l11 :: l12 :: some (.long x) :: r) (.long x :: st) μ Post) : Go y cc nL ret d pc (l0 :: l1 :: l2 :: l3 :: l4 :: l5 :: l6 :: l7 :: l8 :: l9 :: l10 :: l11 :: l12 :: some (.long x) :: r) st μ Post := by
  intro l p e s m args below meth c D ad kc H locs ls X hP hS hl
  exact lv_lload X.1 X.2.1 dd (gm_has_at hl (i := 13) rfl) (g l p e s m args below meth c D ad kc H locs ls X hP hS hl)
theorem go_al13 {l0 l1 l2 l3 l4 l5 l6 l7 l8 l9 l10 l11 l12 : Option Value} {r : List (Option Value)} {x : Nat} (dd : decode cc pc = .ok (.aload 13, 2)) (g : Go y cc nL ret d (pc + 2) (l0 :: l1 :: l2 :: l3 :: l4 :: l5 :: l6 :: l7 :: l8 :: l9 :: l10 :: l11 :: l12 :: some (.ref x) :: r) (.ref x :: st) μ Post) : Go y cc nL ret d pc (l0 :: l1 :: l2 :: l3 :: l4 :: l5 :: l6 :: l7 :: l8 :: l9 :: l10 :: l11 :: l12 :: some (.ref x) :: r) st μ Post := by
  intro l p e s m args below meth c D ad kc H locs ls X hP hS hl
  exact lv_aload X.1 X.2.1 dd (gm_has_at hl (i := 13) rfl) (g l p e s m args below meth c D ad kc H locs ls X hP hS hl)
theorem go_il14 {l0 l1 l2 l3 l4 l5 l6 l7 l8 l9 l10 l11 l12 l13 : Option Value} {r : List (Option Value)} {x : Int32} (dd : decode cc pc = .ok (.iload 14, 2)) (g : Go y cc nL ret d (pc + 2) (l0 :: l1 :: l2 :: l3 :: l4 :: l5 :: l6 :: l7 :: l8 :: l9 :: l10 :: l11 :: l12 :: l13 :: some (.int x) :: r) (.int x :: st) μ Post) : Go y cc nL ret d pc (l0 :: l1 :: l2 :: l3 :: l4 :: l5 :: l6 :: l7 :: l8 :: l9 :: l10 :: l11 :: l12 :: l13 :: some (.int x) :: r) st μ Post := by
  intro l p e s m args below meth c D ad kc H locs ls X hP hS hl
  exact lv_iload X.1 X.2.1 dd (gm_has_at hl (i := 14) rfl) (g l p e s m args below meth c D ad kc H locs ls X hP hS hl)
theorem go_ll14 {l0 l1 l2 l3 l4 l5 l6 l7 l8 l9 l10 l11 l12 l13 : Option Value} {r : List (Option Value)} {x : Int64} (dd : decode cc pc = .ok (.lload 14, 2)) (g : Go y cc nL ret d (pc + 2) (l0 :: l1 :: l2 :: l3 :: l4 :: l5 :: l6 :: l7 :: l8 :: l9 :: l10 :: l11 :: l12 :: l13 :: some (.long x) :: r) (.long x :: st) μ Post) : Go y cc nL ret d pc (l0 :: l1 :: l2 :: l3 :: l4 :: l5 :: l6 :: l7 :: l8 :: l9 :: l10 :: l11 :: l12 :: l13 :: some (.long x) :: r) st μ Post := by
  intro l p e s m args below meth c D ad kc H locs ls X hP hS hl
  exact lv_lload X.1 X.2.1 dd (gm_has_at hl (i := 14) rfl) (g l p e s m args below meth c D ad kc H locs ls X hP hS hl)
theorem go_al14 {l0 l1 l2 l3 l4 l5 l6 l7 l8 l9 l10 l11 l12 l13 : Option Value} {r : List (Option Value)} {x : Nat} (dd : decode cc pc = .ok (.aload 14, 2)) (g : Go y cc nL ret d (pc + 2) (l0 :: l1 :: l2 :: l3 :: l4 :: l5 :: l6 :: l7 :: l8 :: l9 :: l10 :: l11 :: l12 :: l13 :: some (.ref x) :: r) (.ref x :: st) μ Post) : Go y cc nL ret d pc (l0 :: l1 :: l2 :: l3 :: l4 :: l5 :: l6 :: l7 :: l8 :: l9 :: l10 :: l11 :: l12 :: l13 :: some (.ref x) :: r) st μ Post := by
  intro l p e s m args below meth c D ad kc H locs ls X hP hS hl
  exact lv_aload X.1 X.2.1 dd (gm_has_at hl (i := 14) rfl) (g l p e s m args below meth c D ad kc H locs ls X hP hS hl)
theorem go_il15 {l0 l1 l2 l3 l4 l5 l6 l7 l8 l9 l10 l11 l12 l13 l14 : Option Value} {r : List (Option Value)} {x : Int32} (dd : decode cc pc = .ok (.iload 15, 2)) (g : Go y cc nL ret d (pc + 2) (l0 :: l1 :: l2 :: l3 :: l4 :: l5 :: l6 :: l7 :: l8 :: l9 :: l10 :: l11 :: l12 :: l13 :: l14 :: some (.int x) :: r) (.int x :: st) μ Post) : Go y cc nL ret d pc (l0 :: l1 :: l2 :: l3 :: l4 :: l5 :: l6 :: l7 :: l8 :: l9 :: l10 :: l11 :: l12 :: l13 :: l14 :: some (.int x) :: r) st μ Post := by
  intro l p e s m args below meth c D ad kc H locs ls X hP hS hl
  exact lv_iload X.1 X.2.1 dd (gm_has_at hl (i := 15) rfl) (g l p e s m args below meth c D ad kc H locs ls X hP hS hl)
theorem go_ll15 {l0 l1 l2 l3 l4 l5 l6 l7 l8 l9 l10 l11 l12 l13 l14 : Option Value} {r : List (Option Value)} {x : Int64} (dd : decode cc pc = .ok (.lload 15, 2)) (g : Go y cc nL ret d (pc + 2) (l0 :: l1 :: l2 :: l3 :: l4 :: l5 :: l6 :: l7 :: l8 :: l9 :: l10 :: l11 :: l12 :: l13 :: l14 :: some (.long x) :: r) (.long x :: st) μ Post) : Go y cc nL ret d pc (l0 :: l1 :: l2 :: l3 :: l4 :: l5 :: l6 :: l7 :: l8 :: l9 :: l10 :: l11 :: l12 :: l13 :: l14 :: some (.long x) :: r) st μ Post := by
  intro l p e s m args below meth c D ad kc H locs ls X hP hS hl
  exact lv_lload X.1 X.2.1 dd (gm_has_at hl (i := 15) rfl) (g l p e s m args below meth c D ad kc H locs ls X hP hS hl)
theorem go_al15 {l0 l1 l2 l3 l4 l5 l6 l7 l8 l9 l10 l11 l12 l13 l14 : Option Value} {r : List (Option Value)} {x : Nat} (dd : decode cc pc = .ok (.aload 15, 2)) (g : Go y cc nL ret d (pc + 2) (l0 :: l1 :: l2 :: l3 :: l4 :: l5 :: l6 :: l7 :: l8 :: l9 :: l10 :: l11 :: l12 :: l13 :: l14 :: some (.ref x) :: r) (.ref x :: st) μ Post) : Go y cc nL ret d pc (l0 :: l1 :: l2 :: l3 :: l4 :: l5 :: l6 :: l7 :: l8 :: l9 :: l10 :: l11 :: l12 :: l13 :: l14 :: some (.ref x) :: r) st μ Post := by
  intro l p e s m args below meth c D ad kc H locs ls X hP hS hl
  exact lv_aload X.1 X.2.1 dd (gm_has_at hl (i := 15) rfl) (g l p e s m args below meth c D ad kc H locs ls X hP hS hl)
theorem go_isG_n {k : Fin 4} {i : Nat} {pre post : List (Option Value)} {z : Option Value} {x : Int32} (dd : decode cc pc = .ok (.istore_n k, 1)) (hk : (k : Nat) = i) (hi : pre.length = i) (hn : Nat.ble (i + 1) nL = true) (hc : gm_lc pre = true) (g : Go y cc nL ret d (pc + 1) (pre ++ some (.int x) :: post) st μ Post) : Go y cc nL ret d pc (pre ++ z :: post) (.int x :: st) μ Post := by
  intro l p e s m args below meth c D ad kc H locs ls X hP hS hl
  exact lv_istore_n X.1 X.2.1 dd hk hl (Nat.le_of_ble_eq_true hn) rfl (fun ls' hl' => g l p e s m args below meth c D ad kc H locs ls' X hP hS (gm_has1 (v := .int x) (L := pre ++ z :: post) hl' (gm_ok1 hi hc)))
theorem go_isN_n {k : Fin 4} {i : Nat} {pre post : List (Option Value)} {z u : Option Value} {x : Int32} (dd : decode cc pc = .ok (.istore_n k, 1)) (hk : (k : Nat) = i) (hi : pre.length + 1 = i) (hn : Nat.ble (i + 1) nL = true) (g : Go y cc nL ret d (pc + 1) (pre ++ none :: some (.int x) :: post) st μ Post) : Go y cc nL ret d pc (pre ++ u :: z :: post) (.int x :: st) μ Post := by
  intro l p e s m args below meth c D ad kc H locs ls X hP hS hl
  exact lv_istore_n X.1 X.2.1 dd hk hl (Nat.le_of_ble_eq_true hn) rfl (fun ls' hl' => g l p e s m args below meth c D ad kc H locs ls' X hP hS (gm_has1 (v := .int x) (L := pre ++ u :: z :: post) hl' (gm_ok1n hi)))
theorem go_isG {i : Nat} {pre post : List (Option Value)} {z : Option Value} {x : Int32} (dd : decode cc pc = .ok (.istore i, 2)) (hi : pre.length = i) (hn : Nat.ble (i + 1) nL = true) (hc : gm_lc pre = true) (g : Go y cc nL ret d (pc + 2) (pre ++ some (.int x) :: post) st μ Post) : Go y cc nL ret d pc (pre ++ z :: post) (.int x :: st) μ Post := by
  intro l p e s m args below meth c D ad kc H locs ls X hP hS hl
  exact lv_istore X.1 X.2.1 dd hl (Nat.le_of_ble_eq_true hn) rfl (fun ls' hl' => g l p e s m args below meth c D ad kc H locs ls' X hP hS (gm_has1 (v := .int x) (L := pre ++ z :: post) hl' (gm_ok1 hi hc)))
theorem go_isN {i : Nat} {pre post : List (Option Value)} {z u : Option Value} {x : Int32} (dd : decode cc pc = .ok (.istore i, 2)) (hi : pre.length + 1 = i) (hn : Nat.ble (i + 1) nL = true) (g : Go y cc nL ret d (pc + 2) (pre ++ none :: some (.int x) :: post) st μ Post) : Go y cc nL ret d pc (pre ++ u :: z :: post) (.int x :: st) μ Post := by
  intro l p e s m args below meth c D ad kc H locs ls X hP hS hl
  exact lv_istore X.1 X.2.1 dd hl (Nat.le_of_ble_eq_true hn) rfl (fun ls' hl' => g l p e s m args below meth c D ad kc H locs ls' X hP hS (gm_has1 (v := .int x) (L := pre ++ u :: z :: post) hl' (gm_ok1n hi)))
theorem go_asG_n {k : Fin 4} {i : Nat} {pre post : List (Option Value)} {z : Option Value} {x : Nat} (dd : decode cc pc = .ok (.astore_n k, 1)) (hk : (k : Nat) = i) (hi : pre.length = i) (hn : Nat.ble (i + 1) nL = true) (hc : gm_lc pre = true) (g : Go y cc nL ret d (pc + 1) (pre ++ some (.ref x) :: post) st μ Post) : Go y cc nL ret d pc (pre ++ z :: post) (.ref x :: st) μ Post := by
  intro l p e s m args below meth c D ad kc H locs ls X hP hS hl
  exact lv_astore_n X.1 X.2.1 dd hk hl (Nat.le_of_ble_eq_true hn) rfl (fun ls' hl' => g l p e s m args below meth c D ad kc H locs ls' X hP hS (gm_has1 (v := .ref x) (L := pre ++ z :: post) hl' (gm_ok1 hi hc)))
theorem go_asN_n {k : Fin 4} {i : Nat} {pre post : List (Option Value)} {z u : Option Value} {x : Nat} (dd : decode cc pc = .ok (.astore_n k, 1)) (hk : (k : Nat) = i) (hi : pre.length + 1 = i) (hn : Nat.ble (i + 1) nL = true) (g : Go y cc nL ret d (pc + 1) (pre ++ none :: some (.ref x) :: post) st μ Post) : Go y cc nL ret d pc (pre ++ u :: z :: post) (.ref x :: st) μ Post := by
  intro l p e s m args below meth c D ad kc H locs ls X hP hS hl
  exact lv_astore_n X.1 X.2.1 dd hk hl (Nat.le_of_ble_eq_true hn) rfl (fun ls' hl' => g l p e s m args below meth c D ad kc H locs ls' X hP hS (gm_has1 (v := .ref x) (L := pre ++ u :: z :: post) hl' (gm_ok1n hi)))
theorem go_asG {i : Nat} {pre post : List (Option Value)} {z : Option Value} {x : Nat} (dd : decode cc pc = .ok (.astore i, 2)) (hi : pre.length = i) (hn : Nat.ble (i + 1) nL = true) (hc : gm_lc pre = true) (g : Go y cc nL ret d (pc + 2) (pre ++ some (.ref x) :: post) st μ Post) : Go y cc nL ret d pc (pre ++ z :: post) (.ref x :: st) μ Post := by
  intro l p e s m args below meth c D ad kc H locs ls X hP hS hl
  exact lv_astore X.1 X.2.1 dd hl (Nat.le_of_ble_eq_true hn) rfl (fun ls' hl' => g l p e s m args below meth c D ad kc H locs ls' X hP hS (gm_has1 (v := .ref x) (L := pre ++ z :: post) hl' (gm_ok1 hi hc)))
theorem go_asN {i : Nat} {pre post : List (Option Value)} {z u : Option Value} {x : Nat} (dd : decode cc pc = .ok (.astore i, 2)) (hi : pre.length + 1 = i) (hn : Nat.ble (i + 1) nL = true) (g : Go y cc nL ret d (pc + 2) (pre ++ none :: some (.ref x) :: post) st μ Post) : Go y cc nL ret d pc (pre ++ u :: z :: post) (.ref x :: st) μ Post := by
  intro l p e s m args below meth c D ad kc H locs ls X hP hS hl
  exact lv_astore X.1 X.2.1 dd hl (Nat.le_of_ble_eq_true hn) rfl (fun ls' hl' => g l p e s m args below meth c D ad kc H locs ls' X hP hS (gm_has1 (v := .ref x) (L := pre ++ u :: z :: post) hl' (gm_ok1n hi)))
theorem go_lsG_n {k : Fin 4} {i : Nat} {pre post : List (Option Value)} {z u : Option Value} {x : Int64} (dd : decode cc pc = .ok (.lstore_n k, 1)) (hk : (k : Nat) = i) (hi : pre.length = i) (hn : Nat.ble (i + 1 + 1) nL = true) (hc : gm_lc pre = true) (g : Go y cc nL ret d (pc + 1) (pre ++ some (.long x) :: none :: post) st μ Post) : Go y cc nL ret d pc (pre ++ z :: u :: post) (.long x :: st) μ Post := by
  intro l p e s m args below meth c D ad kc H locs ls X hP hS hl
  exact lv_lstore_n X.1 X.2.1 dd hk hl (Nat.le_of_ble_eq_true hn) rfl (fun ls' hl' => g l p e s m args below meth c D ad kc H locs ls' X hP hS (gm_has2 (v := .long x) (L := pre ++ z :: u :: post) hl' (gm_ok2 hi hc)))
theorem go_lsG {i : Nat} {pre post : List (Option Value)} {z u : Option Value} {x : Int64} (dd : decode cc pc = .ok (.lstore i, 2)) (hi : pre.length = i) (hn : Nat.ble (i + 1 + 1) nL = true) (hc : gm_lc pre = true) (g : Go y cc nL ret d (pc + 2) (pre ++ some (.long x) :: none :: post) st μ Post) : Go y cc nL ret d pc (pre ++ z :: u :: post) (.long x :: st) μ Post := by
  intro l p e s m args below meth c D ad kc H locs ls X hP hS hl
  exact lv_lstore X.1 X.2.1 dd hl (Nat.le_of_ble_eq_true hn) rfl (fun ls' hl' => g l p e s m args below meth c D ad kc H locs ls' X hP hS (gm_has2 (v := .long x) (L := pre ++ z :: u :: post) hl' (gm_ok2 hi hc)))
theorem go_incG {i : Nat} {n : Int} {pre post : List (Option Value)} {x v : Int32} (dd : decode cc pc = .ok (.iinc i n, 3)) (hi : pre.length = i) (hv : x + Int32.ofInt n = v) (hn : Nat.ble (i + 1) nL = true) (hc : gm_lc pre = true) (g : Go y cc nL ret d (pc + 3) (pre ++ some (.int v) :: post) st μ Post) : Go y cc nL ret d pc (pre ++ some (.int x) :: post) st μ Post := by
  intro l p e s m args below meth c D ad kc H locs ls X hP hS hl
  have hx : (pre ++ some (.int x) :: post)[i]? = some (some (.int x)) := by rw [List.getElem?_append_right (by omega), ← hi]; simp
  obtain ⟨k, hk⟩ := List.getElem?_of_mem (gm_l_mem (ad := ad) hx)
  exact lv_iinc X.1 X.2.1 dd hl (k := k) hk hv (Nat.le_of_ble_eq_true hn) rfl (fun ls' hl' => g l p e s m args below meth c D ad kc H locs ls' X hP hS (gm_has1 (v := .int v) (L := pre ++ some (.int x) :: post) hl' (gm_ok1 hi hc)))
theorem go_is0 {r : List (Option Value)} {z : Option Value} {x : Int32} (dd : decode cc pc = .ok (.istore_n 0, 1)) (hn : Nat.ble (0 + 1) nL = true) (hc : gm_lc [] = true) (g : Go y cc nL ret d (pc + 1) (some (.int x) :: r) st μ Post) : Go y cc nL ret d pc (z :: r) (.int x :: st) μ Post := go_isG_n (pre := []) dd rfl rfl hn hc g
theorem go_as0 {r : List (Option Value)} {z : Option Value} {x : Nat} (dd : decode cc pc = .ok (.astore_n 0, 1)) (hn : Nat.ble (0 + 1) nL = true) (hc : gm_lc [] = true) (g : Go y cc nL ret d (pc + 1) (some (.ref x) :: r) st μ Post) : Go y cc nL ret d pc (z :: r) (.ref x :: st) μ Post := go_asG_n (pre := []) dd rfl rfl hn hc g
theorem go_ls0 {r : List (Option Value)} {z u : Option Value} {x : Int64} (dd : decode cc pc = .ok (.lstore_n 0, 1)) (hn : Nat.ble (0 + 1 + 1) nL = true) (hc : gm_lc [] = true) (g : Go y cc nL ret d (pc + 1) (some (.long x) :: none :: r) st μ Post) : Go y cc nL ret d pc (z :: u :: r) (.long x :: st) μ Post := go_lsG_n (pre := []) dd rfl rfl hn hc g
theorem go_inc0 {r : List (Option Value)} {x k : Int32} {n : Int} (dd : decode cc pc = .ok (.iinc 0 n, 3)) (hk : Int32.ofInt n = k) (hn : Nat.ble (0 + 1) nL = true) (hc : gm_lc [] = true) (g : Go y cc nL ret d (pc + 3) (some (.int (x + k)) :: r) st μ Post) : Go y cc nL ret d pc (some (.int x) :: r) st μ Post := go_incG (pre := []) dd rfl (by rw [hk]) hn hc g
theorem go_is1 {l0 : Option Value} {r : List (Option Value)} {z : Option Value} {x : Int32} (dd : decode cc pc = .ok (.istore_n 1, 1)) (hn : Nat.ble (1 + 1) nL = true) (hc : gm_lc [l0] = true) (g : Go y cc nL ret d (pc + 1) (l0 :: some (.int x) :: r) st μ Post) : Go y cc nL ret d pc (l0 :: z :: r) (.int x :: st) μ Post := go_isG_n (pre := [l0]) dd rfl rfl hn hc g
theorem go_is1n {l0 : Option Value} {r : List (Option Value)} {z : Option Value} {x : Int32} (dd : decode cc pc = .ok (.istore_n 1, 1)) (hn : Nat.ble (1 + 1) nL = true) (g : Go y cc nL ret d (pc + 1) (none :: some (.int x) :: r) st μ Post) : Go y cc nL ret d pc (l0 :: z :: r) (.int x :: st) μ Post := go_isN_n (pre := []) dd rfl rfl hn g
theorem go_as1 {l0 : Option Value} {r : List (Option Value)} {z : Option Value} {x : Nat} (dd : decode cc pc = .ok (.astore_n 1, 1)) (hn : Nat.ble (1 + 1) nL = true) (hc : gm_lc [l0] = true) (g : Go y cc nL ret d (pc + 1) (l0 :: some (.ref x) :: r) st μ Post) : Go y cc nL ret d pc (l0 :: z :: r) (.ref x :: st) μ Post := go_asG_n (pre := [l0]) dd rfl rfl hn hc g
theorem go_as1n {l0 : Option Value} {r : List (Option Value)} {z : Option Value} {x : Nat} (dd : decode cc pc = .ok (.astore_n 1, 1)) (hn : Nat.ble (1 + 1) nL = true) (g : Go y cc nL ret d (pc + 1) (none :: some (.ref x) :: r) st μ Post) : Go y cc nL ret d pc (l0 :: z :: r) (.ref x :: st) μ Post := go_asN_n (pre := []) dd rfl rfl hn g
theorem go_ls1 {l0 : Option Value} {r : List (Option Value)} {z u : Option Value} {x : Int64} (dd : decode cc pc = .ok (.lstore_n 1, 1)) (hn : Nat.ble (1 + 1 + 1) nL = true) (hc : gm_lc [l0] = true) (g : Go y cc nL ret d (pc + 1) (l0 :: some (.long x) :: none :: r) st μ Post) : Go y cc nL ret d pc (l0 :: z :: u :: r) (.long x :: st) μ Post := go_lsG_n (pre := [l0]) dd rfl rfl hn hc g
theorem go_inc1 {l0 : Option Value} {r : List (Option Value)} {x k : Int32} {n : Int} (dd : decode cc pc = .ok (.iinc 1 n, 3)) (hk : Int32.ofInt n = k) (hn : Nat.ble (1 + 1) nL = true) (hc : gm_lc [l0] = true) (g : Go y cc nL ret d (pc + 3) (l0 :: some (.int (x + k)) :: r) st μ Post) : Go y cc nL ret d pc (l0 :: some (.int x) :: r) st μ Post := go_incG (pre := [l0]) dd rfl (by rw [hk]) hn hc g
theorem go_is2 {l0 l1 : Option Value} {r : List (Option Value)} {z : Option Value} {x : Int32} (dd : decode cc pc = .ok (.istore_n 2, 1)) (hn : Nat.ble (2 + 1) nL = true) (hc : gm_lc [l0, l1] = true) (g : Go y cc nL ret d (pc + 1) (l0 :: l1 :: some (.int x) :: r) st μ Post) : Go y cc nL ret d pc (l0 :: l1 :: z :: r) (.int x :: st) μ Post := go_isG_n (pre := [l0, l1]) dd rfl rfl hn hc g
theorem go_is2n {l0 l1 : Option Value} {r : List (Option Value)} {z : Option Value} {x : Int32} (dd : decode cc pc = .ok (.istore_n 2, 1)) (hn : Nat.ble (2 + 1) nL = true) (g : Go y cc nL ret d (pc + 1) (l0 :: none :: some (.int x) :: r) st μ Post) : Go y cc nL ret d pc (l0 :: l1 :: z :: r) (.int x :: st) μ Post := go_isN_n (pre := [l0]) dd rfl rfl hn g
theorem go_as2 {l0 l1 : Option Value} {r : List (Option Value)} {z : Option Value} {x : Nat} (dd : decode cc pc = .ok (.astore_n 2, 1)) (hn : Nat.ble (2 + 1) nL = true) (hc : gm_lc [l0, l1] = true) (g : Go y cc nL ret d (pc + 1) (l0 :: l1 :: some (.ref x) :: r) st μ Post) : Go y cc nL ret d pc (l0 :: l1 :: z :: r) (.ref x :: st) μ Post := go_asG_n (pre := [l0, l1]) dd rfl rfl hn hc g
theorem go_as2n {l0 l1 : Option Value} {r : List (Option Value)} {z : Option Value} {x : Nat} (dd : decode cc pc = .ok (.astore_n 2, 1)) (hn : Nat.ble (2 + 1) nL = true) (g : Go y cc nL ret d (pc + 1) (l0 :: none :: some (.ref x) :: r) st μ Post) : Go y cc nL ret d pc (l0 :: l1 :: z :: r) (.ref x :: st) μ Post := go_asN_n (pre := [l0]) dd rfl rfl hn g
theorem go_ls2 {l0 l1 : Option Value} {r : List (Option Value)} {z u : Option Value} {x : Int64} (dd : decode cc pc = .ok (.lstore_n 2, 1)) (hn : Nat.ble (2 + 1 + 1) nL = true) (hc : gm_lc [l0, l1] = true) (g : Go y cc nL ret d (pc + 1) (l0 :: l1 :: some (.long x) :: none :: r) st μ Post) : Go y cc nL ret d pc (l0 :: l1 :: z :: u :: r) (.long x :: st) μ Post := go_lsG_n (pre := [l0, l1]) dd rfl rfl hn hc g
theorem go_inc2 {l0 l1 : Option Value} {r : List (Option Value)} {x k : Int32} {n : Int} (dd : decode cc pc = .ok (.iinc 2 n, 3)) (hk : Int32.ofInt n = k) (hn : Nat.ble (2 + 1) nL = true) (hc : gm_lc [l0, l1] = true) (g : Go y cc nL ret d (pc + 3) (l0 :: l1 :: some (.int (x + k)) :: r) st μ Post) : Go y cc nL ret d pc (l0 :: l1 :: some (.int x) :: r) st μ Post := go_incG (pre := [l0, l1]) dd rfl (by rw [hk]) hn hc g
theorem go_is3 {l0 l1 l2 : Option Value} {r : List (Option Value)} {z : Option Value} {x : Int32} (dd : decode cc pc = .ok (.istore_n 3, 1)) (hn : Nat.ble (3 + 1) nL = true) (hc : gm_lc [l0, l1, l2] = true) (g : Go y cc nL ret d (pc + 1) (l0 :: l1 :: l2 :: some (.int x) :: r) st μ Post) : Go y cc nL ret d pc (l0 :: l1 :: l2 :: z :: r) (.int x :: st) μ Post := go_isG_n (pre := [l0, l1, l2]) dd rfl rfl hn hc g
theorem go_is3n {l0 l1 l2 : Option Value} {r : List (Option Value)} {z : Option Value} {x : Int32} (dd : decode cc pc = .ok (.istore_n 3, 1)) (hn : Nat.ble (3 + 1) nL = true) (g : Go y cc nL ret d (pc + 1) (l0 :: l1 :: none :: some (.int x) :: r) st μ Post) : Go y cc nL ret d pc (l0 :: l1 :: l2 :: z :: r) (.int x :: st) μ Post := go_isN_n (pre := [l0, l1]) dd rfl rfl hn g
theorem go_as3 {l0 l1 l2 : Option Value} {r : List (Option Value)} {z : Option Value} {x : Nat} (dd : decode cc pc = .ok (.astore_n 3, 1)) (hn : Nat.ble (3 + 1) nL = true) (hc : gm_lc [l0, l1, l2] = true) (g : Go y cc nL ret d (pc + 1) (l0 :: l1 :: l2 :: some (.ref x) :: r) st μ Post) : Go y cc nL ret d pc (l0 :: l1 :: l2 :: z :: r) (.ref x :: st) μ Post := go_asG_n (pre := [l0, l1, l2]) dd rfl rfl hn hc g
theorem go_as3n {l0 l1 l2 : Option Value} {r : List (Option Value)} {z : Option Value} {x : Nat} (dd : decode cc pc = .ok (.astore_n 3, 1)) (hn : Nat.ble (3 + 1) nL = true) (g : Go y cc nL ret d (pc + 1) (l0 :: l1 :: none :: some (.ref x) :: r) st μ Post) : Go y cc nL ret d pc (l0 :: l1 :: l2 :: z :: r) (.ref x :: st) μ Post := go_asN_n (pre := [l0, l1]) dd rfl rfl hn g
theorem go_ls3 {l0 l1 l2 : Option Value} {r : List (Option Value)} {z u : Option Value} {x : Int64} (dd : decode cc pc = .ok (.lstore_n 3, 1)) (hn : Nat.ble (3 + 1 + 1) nL = true) (hc : gm_lc [l0, l1, l2] = true) (g : Go y cc nL ret d (pc + 1) (l0 :: l1 :: l2 :: some (.long x) :: none :: r) st μ Post) : Go y cc nL ret d pc (l0 :: l1 :: l2 :: z :: u :: r) (.long x :: st) μ Post := go_lsG_n (pre := [l0, l1, l2]) dd rfl rfl hn hc g
theorem go_inc3 {l0 l1 l2 : Option Value} {r : List (Option Value)} {x k : Int32} {n : Int} (dd : decode cc pc = .ok (.iinc 3 n, 3)) (hk : Int32.ofInt n = k) (hn : Nat.ble (3 + 1) nL = true) (hc : gm_lc [l0, l1, l2] = true) (g : Go y cc nL ret d (pc + 3) (l0 :: l1 :: l2 :: some (.int (x + k)) :: r) st μ Post) : Go y cc nL ret d pc (l0 :: l1 :: l2 :: some (.int x) :: r) st μ Post := go_incG (pre := [l0, l1, l2]) dd rfl (by rw [hk]) hn hc g
theorem go_is4 {l0 l1 l2 l3 : Option Value} {r : List (Option Value)} {z : Option Value} {x : Int32} (dd : decode cc pc = .ok (.istore 4, 2)) (hn : Nat.ble (4 + 1) nL = true) (hc : gm_lc [l0, l1, l2, l3] = true) (g : Go y cc nL ret d (pc + 2) (l0 :: l1 :: l2 :: l3 :: some (.int x) :: r) st μ Post) : Go y cc nL ret d pc (l0 :: l1 :: l2 :: l3 :: z :: r) (.int x :: st) μ Post := go_isG (pre := [l0, l1, l2, l3]) dd rfl hn hc g
theorem go_is4n {l0 l1 l2 l3 : Option Value} {r : List (Option Value)} {z : Option Value} {x : Int32} (dd : decode cc pc = .ok (.istore 4, 2)) (hn : Nat.ble (4 + 1) nL = true) (g : Go y cc nL ret d (pc + 2) (l0 :: l1 :: l2 :: none :: some (.int x) :: r) st μ Post) : Go y cc nL ret d pc (l0 :: l1 :: l2 :: l3 :: z :: r) (.int x :: st) μ Post := go_isN (pre := [l0, l1, l2]) dd rfl hn g
theorem go_as4 {l0 l1 l2 l3 : Option Value} {r : List (Option Value)} {z : Option Value} {x : Nat} (dd : decode cc pc = .ok (.astore 4, 2)) (hn : Nat.ble (4 + 1) nL = true) (hc : gm_lc [l0, l1, l2, l3] = true) (g : Go y cc nL ret d (pc + 2) (l0 :: l1 :: l2 :: l3 :: some (.ref x) :: r) st μ Post) : Go y cc nL ret d pc (l0 :: l1 :: l2 :: l3 :: z :: r) (.ref x :: st) μ Post := go_asG (pre := [l0, l1, l2, l3]) dd rfl hn hc g
theorem go_as4n {l0 l1 l2 l3 : Option Value} {r : List (Option Value)} {z : Option Value} {x : Nat} (dd : decode cc pc = .ok (.astore 4, 2)) (hn : Nat.ble (4 + 1) nL = true) (g : Go y cc nL ret d (pc + 2) (l0 :: l1 :: l2 :: none :: some (.ref x) :: r) st μ Post) : Go y cc nL ret d pc (l0 :: l1 :: l2 :: l3 :: z :: r) (.ref x :: st) μ Post := go_asN (pre := [l0, l1, l2]) dd rfl hn g
theorem go_ls4 {l0 l1 l2 l3 : Option Value} {r : List (Option Value)} {z u : Option Value} {x : Int64} (dd : decode cc pc = .ok (.lstore 4, 2)) (hn : Nat.ble (4 + 1 + 1) nL = true) (hc : gm_lc [l0, l1, l2, l3] = true) (g : Go y cc nL ret d (pc + 2) (l0 :: l1 :: l2 :: l3 :: some (.long x) :: none :: r) st μ Post) : Go y cc nL ret d pc (l0 :: l1 :: l2 :: l3 :: z :: u :: r) (.long x :: st) μ Post := go_lsG (pre := [l0, l1, l2, l3]) dd rfl hn hc g
theorem go_inc4 {l0 l1 l2 l3 : Option Value} {r : List (Option Value)} {x k : Int32} {n : Int} (dd : decode cc pc = .ok (.iinc 4 n, 3)) (hk : Int32.ofInt n = k) (hn : Nat.ble (4 + 1) nL = true) (hc : gm_lc [l0, l1, l2, l3] = true) (g : Go y cc nL ret d (pc + 3) (l0 :: l1 :: l2 :: l3 :: some (.int (x + k)) :: r) st μ Post) : Go y cc nL ret d pc (l0 :: l1 :: l2 :: l3 :: some (.int x) :: r) st μ Post := go_incG (pre := [l0, l1, l2, l3]) dd rfl (by rw [hk]) hn hc g
theorem go_is5 {l0 l1 l2 l3 l4 : Option Value} {r : List (Option Value)} {z : Option Value} {x : Int32} (dd : decode cc pc = .ok (.istore 5, 2)) (hn : Nat.ble (5 + 1) nL = true) (hc : gm_lc [l0, l1, l2, l3, l4] = true) (g : Go y cc nL ret d (pc + 2) (l0 :: l1 :: l2 :: l3 :: l4 :: some (.int x) :: r) st μ Post) : Go y cc nL ret d pc (l0 :: l1 :: l2 :: l3 :: l4 :: z :: r) (.int x :: st) μ Post := go_isG (pre := [l0, l1, l2, l3, l4]) dd rfl hn hc g
theorem go_is5n {l0 l1 l2 l3 l4 : Option Value} {r : List (Option Value)} {z : Option Value} {x : Int32} (dd : decode cc pc = .ok (.istore 5, 2)) (hn : Nat.ble (5 + 1) nL = true) (g : Go y cc nL ret d (pc + 2) (l0 :: l1 :: l2 :: l3 :: none :: some (.int x) :: r) st μ Post) : Go y cc nL ret d pc (l0 :: l1 :: l2 :: l3 :: l4 :: z :: r) (.int x :: st) μ Post := go_isN (pre := [l0, l1, l2, l3]) dd rfl hn g
theorem go_as5 {l0 l1 l2 l3 l4 : Option Value} {r : List (Option Value)} {z : Option Value} {x : Nat} (dd : decode cc pc = .ok (.astore 5, 2)) (hn : Nat.ble (5 + 1) nL = true) (hc : gm_lc [l0, l1, l2, l3, l4] = true) (g : Go y cc nL ret d (pc + 2) (l0 :: l1 :: l2 :: l3 :: l4 :: some (.ref x) :: r) st μ Post) : Go y cc nL ret d pc (l0 :: l1 :: l2 :: l3 :: l4 :: z :: r) (.ref x :: st) μ Post := go_asG (pre := [l0, l1, l2, l3, l4]) dd rfl hn hc g
theorem go_as5n {l0 l1 l2 l3 l4 : Option Value} {r : List (Option Value)} {z : Option Value} {x : Nat} (dd : decode cc pc = .ok (.astore 5, 2)) (hn : Nat.ble (5 + 1) nL = true) (g : Go y cc nL ret d (pc + 2) (l0 :: l1 :: l2 :: l3 :: none :: some (.ref x) :: r) st μ Post) : Go y cc nL ret d pc (l0 :: l1 :: l2 :: l3 :: l4 :: z :: r) (.ref x :: st) μ Post := go_asN (pre := [l0, l1, l2, l3]) dd rfl hn g
theorem go_ls5 {l0 l1 l2 l3 l4 : Option Value} {r : List (Option Value)} {z u : Option Value} {x : Int64} (dd : decode cc pc = .ok (.lstore 5, 2)) (hn : Nat.ble (5 + 1 + 1) nL = true) (hc : gm_lc [l0, l1, l2, l3, l4] = true) (g : Go y cc nL ret d (pc + 2) (l0 :: l1 :: l2 :: l3 :: l4 :: some (.long x) :: none :: r) st μ Post) : Go y cc nL ret d pc (l0 :: l1 :: l2 :: l3 :: l4 :: z :: u :: r) (.long x :: st) μ Post := go_lsG (pre := [l0, l1, l2, l3, l4]) dd rfl hn hc g
theorem go_inc5 {l0 l1 l2 l3 l4 : Option Value} {r : List (Option Value)} {x k : Int32} {n : Int} (dd : decode cc pc = .ok (.iinc 5 n, 3)) (hk : Int32.ofInt n = k) (hn : Nat.ble (5 + 1) nL = true) (hc : gm_lc [l0, l1, l2, l3, l4] = true) (g : Go y cc nL ret d (pc + 3) (l0 :: l1 :: l2 :: l3 :: l4 :: some (.int (x + k)) :: r) st μ Post) : Go y cc nL ret d pc (l0 :: l1 :: l2 :: l3 :: l4 :: some (.int x) :: r) st μ Post := go_incG (pre := [l0, l1, l2, l3, l4]) dd rfl (by rw [hk]) hn hc g
theorem go_is6 {l0 l1 l2 l3 l4 l5 : Option Value} {r : List (Option Value)} {z : Option Value} {x : Int32} (dd : decode cc pc = .ok (.istore 6, 2)) (hn : Nat.ble (6 + 1) nL = true) (hc : gm_lc [l0, l1, l2, l3, l4, l5] = true) (g : Go y cc nL ret d (pc + 2) (l0 :: l1 :: l2 :: l3 :: l4 :: l5 :: some (.int x) :: r) st μ Post) : Go y cc nL ret d pc (l0 :: l1 :: l2 :: l3 :: l4 :: l5 :: z :: r) (.int x :: st) μ Post := go_isG (pre := [l0, l1, l2, l3, l4, l5]) dd rfl hn hc g
theorem go_is6n {l0 l1 l2 l3 l4 l5 : Option Value} {r : List (Option Value)} {z : Option Value} {x : Int32} (dd : decode cc pc = .ok (.istore 6, 2)) (hn : Nat.ble (6 + 1) nL = true) (g : Go y cc nL ret d (pc + 2) (l0 :: l1 :: l2 :: l3 :: l4 :: none :: some (.int x) :: r) st μ Post) : Go y cc nL ret d pc (l0 :: l1 :: l2 :: l3 :: l4 :: l5 :: z :: r) (.int x :: st) μ Post := go_isN (pre := [l0, l1, l2, l3, l4]) dd rfl hn g
theorem go_as6 {l0 l1 l2 l3 l4 l5 : Option Value} {r : List (Option Value)} {z : Option Value} {x : Nat} (dd : decode cc pc = .ok (.astore 6, 2)) (hn : Nat.ble (6 + 1) nL = true) (hc : gm_lc [l0, l1, l2, l3, l4, l5] = true) (g : Go y cc nL ret d (pc + 2) (l0 :: l1 :: l2 :: l3 :: l4 :: l5 :: some (.ref x) :: r) st μ Post) : Go y cc nL ret d pc (l0 :: l1 :: l2 :: l3 :: l4 :: l5 :: z :: r) (.ref x :: st) μ Post := go_asG (pre := [l0, l1, l2, l3, l4, l5]) dd rfl hn hc g
theorem go_as6n {l0 l1 l2 l3 l4 l5 : Option Value} {r : List (Option Value)} {z : Option Value} {x : Nat} (dd : decode cc pc = .ok (.astore 6, 2)) (hn : Nat.ble (6 + 1) nL = true) (g : Go y cc nL ret d (pc + 2) (l0 :: l1 :: l2 :: l3 :: l4 :: none :: some (.ref x) :: r) st μ Post) : Go y cc nL ret d pc (l0 :: l1 :: l2 :: l3 :: l4 :: l5 :: z :: r) (.ref x :: st) μ Post := go_asN (pre := [l0, l1, l2, l3, l4]) dd rfl hn g
theorem go_ls6 {l0 l1 l2 l3 l4 l5 : Option Value} {r : List (Option Value)} {z u : Option Value} {x : Int64} (dd : decode cc pc = .ok (.lstore 6, 2)) (hn : Nat.ble (6 + 1 + 1) nL = true) (hc : gm_lc [l0, l1, l2, l3, l4, l5] = true) (g : Go y cc nL ret d (pc + 2) (l0 :: l1 :: l2 :: l3 :: l4 :: l5 :: some (.long x) :: none :: r) st μ Post) : Go y cc nL ret d pc (l0 :: l1 :: l2 :: l3 :: l4 :: l5 :: z :: u :: r) (.long x :: st) μ Post := go_lsG (pre := [l0, l1, l2, l3, l4, l5]) dd rfl hn hc g
theorem go_inc6 {l0 l1 l2 l3 l4 l5 : Option Value} {r : List (Option Value)} {x k : Int32} {n : Int} (dd : decode cc pc = .ok (.iinc 6 n, 3)) (hk : Int32.ofInt n = k) (hn : Nat.ble (6 + 1) nL = true) (hc : gm_lc [l0, l1, l2, l3, l4, l5] = true) (g : Go y cc nL ret d (pc + 3) (l0 :: l1 :: l2 :: l3 :: l4 :: l5 :: some (.int (x + k)) :: r) st μ Post) : Go y cc nL ret d pc (l0 :: l1 :: l2 :: l3 :: l4 :: l5 :: some (.int x) :: r) st μ Post := go_incG (pre := [l0, l1, l2, l3, l4, l5]) dd rfl (by rw [hk]) hn hc g
theorem go_is7 {l0 l1 l2 l3 l4 l5 l6 : Option Value} {r : List (Option Value)} {z : Option Value} {x : Int32} (dd : decode cc pc = .ok (.istore 7, 2)) (hn : Nat.ble (7 + 1) nL = true) (hc : gm_lc [l0, l1, l2, l3, l4, l5, l6] = true) (g : Go y cc nL ret d (pc + 2) (l0 :: l1 :: l2 :: l3 :: l4 :: l5 :: l6 :: some (.int x) :: r) st μ Post) : Go y cc nL ret d pc (l0 :: l1 :: l2 :: l3 :: l4 :: l5 :: l6 :: z :: r) (.int x :: st) μ Post := go_isG (pre := [l0, l1, l2, l3, l4, l5, l6]) dd rfl hn hc g
theorem go_is7n {l0 l1 l2 l3 l4 l5 l6 : Option Value} {r : List (Option Value)} {z : Option Value} {x : Int32} (dd : decode cc pc = .ok (.istore 7, 2)) (hn : Nat.ble (7 + 1) nL = true) (g : Go y cc nL ret d (pc + 2) (l0 :: l1 :: l2 :: l3 :: l4 :: l5 :: none :: some (.int x) :: r) st μ Post) : Go y cc nL ret d pc (l0 :: l1 :: l2 :: l3 :: l4 :: l5 :: l6 :: z :: r) (.int x :: st) μ Post := go_isN (pre := [l0, l1, l2, l3, l4, l5]) dd rfl hn g
theorem go_as7 {l0 l1 l2 l3 l4 l5 l6 : Option Value} {r : List (Option Value)} {z : Option Value} {x : Nat} (dd : decode cc pc = .ok (.astore 7, 2)) (hn : Nat.ble (7 + 1) nL = true) (hc : gm_lc [l0, l1, l2, l3, l4, l5, l6] = true) (g : Go y cc nL ret d (pc + 2) (l0 :: l1 :: l2 :: l3 :: l4 :: l5 :: l6 :: some (.ref x) :: r) st μ Post) : Go y cc nL ret d pc (l0 :: l1 :: l2 :: l3 :: l4 :: l5 :: l6 :: z :: r) (.ref x :: st) μ Post := go_asG (pre := [l0, l1, l2, l3, l4, l5, l6]) dd rfl hn hc g
theorem go_as7n {l0 l1 l2 l3 l4 l5 l6 : Option Value} {r : List (Option Value)} {z : Option Value} {x : Nat} (dd : decode cc pc = .ok (.astore 7, 2)) (hn : Nat.ble (7 + 1) nL = true) (g : Go y cc nL ret d (pc + 2) (l0 :: l1 :: l2 :: l3 :: l4 :: l5 :: none :: some (.ref x) :: r) st μ Post) : Go y cc nL ret d pc (l0 :: l1 :: l2 :: l3 :: l4 :: l5 :: l6 :: z :: r) (.ref x :: st) μ Post := go_asN (pre := [l0, l1, l2, l3, l4, l5]) dd rfl hn g
theorem go_ls7 {l0 l1 l2 l3 l4 l5 l6 : Option Value} {r : List (Option Value)} {z u : Option Value} {x : Int64} (dd : decode cc pc = .ok (.lstore 7, 2)) (hn : Nat.ble (7 + 1 + 1) nL = true) (hc : gm_lc [l0, l1, l2, l3, l4, l5, l6] = true) (g : Go y cc nL ret d (pc + 2) (l0 :: l1 :: l2 :: l3 :: l4 :: l5 :: l6 :: some (.long x) :: none :: r) st μ Post) : Go y cc nL ret d pc (l0 :: l1 :: l2 :: l3 :: l4 :: l5 :: l6 :: z :: u :: r) (.long x :: st) μ Post := go_lsG (pre := [l0, l1, l2, l3, l4, l5, l6]) dd rfl hn hc g
theorem go_inc7 {l0 l1 l2 l3 l4 l5 l6 : Option Value} {r : List (Option Value)} {x k : Int32} {n : Int} (dd : decode cc pc = .ok (.iinc 7 n, 3)) (hk : Int32.ofInt n = k) (hn : Nat.ble (7 + 1) nL = true) (hc : gm_lc [l0, l1, l2, l3, l4, l5, l6] = true) (g : Go y cc nL ret d (pc + 3) (l0 :: l1 :: l2 :: l3 :: l4 :: l5 :: l6 :: some (.int (x + k)) :: r) st μ Post) : Go y cc nL ret d pc (l0 :: l1 :: l2 :: l3 :: l4 :: l5 :: l6 :: some (.int x) :: r) st μ Post := go_incG (pre := [l0, l1, l2, l3, l4, l5, l6]) dd rfl (by rw [hk]) hn hc g
theorem go_is8 {l0 l1 l2 l3 l4 l5 l6 l7 : Option Value} {r : List (Option Value)} {z : Option Value} {x : Int32} (dd : decode cc pc = .ok (.istore 8, 2)) (hn : Nat.ble (8 + 1) nL = true) (hc : gm_lc [l0, l1, l2, l3, l4, l5, l6, l7] = true) (g : Go y cc nL ret d (pc + 2) (l0 :: l1 :: l2 :: l3 :: l4 :: l5 :: l6 :: l7 :: some (.int x) :: r) st μ Post) : Go y cc nL ret d pc (l0 :: l1 :: l2 :: l3 :: l4 :: l5 :: l6 :: l7 :: z :: r) (.int x :: st) μ Post := go_isG (pre := [l0, l1, l2, l3, l4, l5, l6, l7]) dd rfl hn hc g
theorem go_is8n {l0 l1 l2 l3 l4 l5 l6 l7 : Option Value} {r : List (Option Value)} {z : Option Value} {x : Int32} (dd : decode cc pc = .ok (.istore 8, 2)) (hn : Nat.ble (8 + 1) nL = true) (g : Go y cc nL ret d (pc + 2) (l0 :: l1 :: l2 :: l3 :: l4 :: l5 :: l6 :: none :: some (.int x) :: r) st μ Post) : Go y cc nL ret d pc (l0 :: l1 :: l2 :: l3 :: l4 :: l5 :: l6 :: l7 :: z :: r) (.int x :: st) μ Post := go_isN (pre := [l0, l1, l2, l3, l4, l5, l6]) dd rfl hn g
theorem go_as8 {l0 l1 l2 l3 l4 l5 l6 l7 : Option Value} {r : List (Option Value)} {z : Option Value} {x : Nat} (dd : decode cc pc = .ok (.astore 8, 2)) (hn : Nat.ble (8 + 1) nL = true) (hc : gm_lc [l0, l1, l2, l3, l4, l5, l6, l7] = true) (g : Go y cc nL ret d (pc + 2) (l0 :: l1 :: l2 :: l3 :: l4 :: l5 :: l6 :: l7 :: some (.ref x) :: r) st μ Post) : Go y cc nL ret d pc (l0 :: l1 :: l2 :: l3 :: l4 :: l5 :: l6 :: l7 :: z :: r) (.ref x :: st) μ Post := go_asG (pre := [l0, l1, l2, l3, l4, l5, l6, l7]) dd rfl hn hc g
theorem go_as8n {l0 l1 l2 l3 l4 l5 l6 l7 : Option Value} {r : List (Option Value)} {z : Option Value} {x : Nat} (dd : decode cc pc = .ok (.astore 8, 2)) (hn : Nat.ble (8 + 1) nL = true) (g : Go y cc nL ret d (pc + 2) (l0 :: l1 :: l2 :: l3 :: l4 :: l5 :: l6 :: none :: some (.ref x) :: r) st μ Post) : Go y cc nL ret d pc (l0 :: l1 :: l2 :: l3 :: l4 :: l5 :: l6 :: l7 :: z :: r) (.ref x :: st) μ Post := go_asN (pre := [l0, l1, l2, l3, l4, l5, l6]) dd rfl hn g
theorem go_ls8 {l0 l1 l2 l3 l4 l5 l6 l7 : Option Value} {r : List (Option Value)} {z u : Option Value} {x : Int64} (dd : decode cc pc = .ok (.lstore 8, 2)) (hn : Nat.ble (8 + 1 + 1) nL = true) (hc : gm_lc [l0, l1, l2, l3, l4, l5, l6, l7] = true) (g : Go y cc nL ret d (pc + 2) (l0 :: l1 :: l2 :: l3 :: l4 :: l5 :: l6 :: l7 :: some (.long x) :: none :: r) st μ Post) : Go y cc nL ret d pc (l0 :: l1 :: l2 :: l3 :: l4 :: l5 :: l6 :: l7 :: z :: u :: r) (.long x :: st) μ Post := go_lsG (pre := [l0, l1, l2, l3, l4, l5, l6, l7]) dd rfl hn hc g
theorem go_inc8 {l0 l1 l2 l3 l4 l5 l6 l7 : Option Value} {r : List (Option Value)} {x k : Int32} {n : Int} (dd : decode cc pc = .ok (.iinc 8 n, 3)) (hk : Int32.ofInt n = k) (hn : Nat.ble (8 + 1) nL = true) (hc : gm_lc [l0, l1, l2, l3, l4, l5, l6, l7] = true) (g : Go y cc nL ret d (pc + 3) (l0 :: l1 :: l2 :: l3 :: l4 :: l5 :: l6 :: l7 :: some (.int (x + k)) :: r) st μ Post) : Go y cc nL ret d pc (l0 :: l1 :: l2 :: l3 :: l4 :: l5 :: l6 :: l7 :: some (.int x) :: r) st μ Post := go_incG (pre := [l0, l1, l2, l3, l4, l5, l6, l7]) dd rfl (by rw [hk]) hn hc g
theorem go_is9 {l0 l1 l2 l3 l4 l5 l6 l7 l8 : Option Value} {r : List (Option Value)} {z : Option Value} {x : Int32} (dd : decode cc pc = .ok (.istore 9, 2)) (hn : Nat.ble (9 + 1) nL = true) (hc : gm_lc [l0, l1, l2, l3, l4, l5, l6, l7, l8] = true) (g : Go y cc nL ret d (pc + 2) (l0 :: l1 :: l2 :: l3 :: l4 :: l5 :: l6 :: l7 :: l8 :: some (.int x) :: r) st μ Post) : Go y cc nL ret d pc (l0 :: l1 :: l2 :: l3 :: l4 :: l5 :: l6 :: l7 :: l8 :: z :: r) (.int x :: st) μ Post := go_isG (pre := [l0, l1, l2, l3, l4, l5, l6, l7, l8]) dd rfl hn hc g
theorem go_is9n {l0 l1 l2 l3 l4 l5 l6 l7 l8 : Option Value} {r : List (Option Value)} {z : Option Value} {x : Int32} (dd : decode cc pc = .ok (.istore 9, 2)) (hn : Nat.ble (9 + 1) nL = true) (g : Go y cc nL ret d (pc + 2) (l0 :: l1 :: l2 :: l3 :: l4 :: l5 :: l6 :: l7 :: none :: some (.int x) :: r) st μ Post) : Go y cc nL ret d pc (l0 :: l1 :: l2 :: l3 :: l4 :: l5 :: l6 :: l7 :: l8 :: z :: r) (.int x :: st) μ Post := go_isN (pre := [l0, l1, l2, l3, l4, l5, l6, l7]) dd rfl hn g
theorem go_as9 {l0 l1 l2 l3 l4 l5 l6 l7 l8 : Option Value} {r : List (Option Value)} {z : Option Value} {x : Nat} (dd : decode cc pc = .ok (.astore 9, 2)) (hn : Nat.ble (9 + 1) nL = true) (hc : gm_lc [l0, l1, l2, l3, l4, l5, l6, l7, l8] = true) (g : Go y cc nL ret d (pc + 2) (l0 :: l1 :: l2 :: l3 :: l4 :: l5 :: l6 :: l7 :: l8 :: some (.ref x) :: r) st μ Post) : Go y cc nL ret d pc (l0 :: l1 :: l2 :: l3 :: l4 :: l5 :: l6 :: l7 :: l8 :: z :: r) (.ref x :: st) μ Post := go_asG (pre := [l0, l1, l2, l3, l4, l5, l6, l7, l8]) dd rfl hn hc g
theorem go_as9n {l0 l1 l2 l3 l4 l5 l6 l7 l8 : Option Value} {r : List (Option Value)} {z : Option Value} {x : Nat} (dd : decode cc pc = .ok (.astore 9, 2)) (hn : Nat.ble (9 + 1) nL = true) (g : Go y cc nL ret d (pc + 2) (l0 :: l1 :: l2 :: l3 :: l4 :: l5 :: l6 :: l7 :: none :: some (.ref x) :: r) st μ Post) : Go y cc nL ret d pc (l0 :: l1 :: l2 :: l3 :: l4 :: l5 :: l6 :: l7 :: l8 :: z :: r) (.ref x :: st) μ Post := go_asN (pre := [l0, l1, l2, l3, l4, l5, l6, l7]) dd rfl hn g
theorem go_ls9 {l0 l1 l2 l3 l4 l5 l6 l7 l8 : Option Value} {r : List (Option Value)} {z u : Option Value} {x : Int64} (dd : decode cc pc = .ok (.lstore 9, 2)) (hn : Nat.ble (9 + 1 + 1) nL = true) (hc : gm_lc [l0, l1, l2, l3, l4, l5, l6, l7, l8] = true) (g : Go y cc nL ret d (pc + 2) (l0 :: l1 :: l2 :: l3 :: l4 :: l5 :: l6 :: l7 :: l8 :: some (.long x) :: none :: r) st μ Post) : Go y cc nL ret d pc (l0 :: l1 :: l2 :: l3 :: l4 :: l5 :: l6 :: l7 :: l8 :: z :: u :: r) (.long x :: st) μ Post := go_lsG (pre := [l0, l1, l2, l3, l4, l5, l6, l7, l8]) dd rfl hn hc g
theorem go_inc9 {l0 l1 l2 l3 l4 l5 l6 l7 l8 : Option Value} {r : List (Option Value)} {x k : Int32} {n : Int} (dd : decode cc pc = .ok (.iinc 9 n, 3)) (hk : Int32.ofInt n = k) (hn : Nat.ble (9 + 1) nL = true) (hc : gm_lc [l0, l1, l2, l3, l4, l5, l6, l7, l8] = true) (g : Go y cc nL ret d (pc + 3) (l0 :: l1 :: l2 :: l3 :: l4 :: l5 :: l6 :: l7 :: l8 :: some (.int (x + k)) :: r) st μ Post) : Go y cc nL ret d pc (l0 :: l1 :: l2 :: l3 :: l4 :: l5 :: l6 :: l7 :: l8 :: some (.int x) :: r) st μ Post := go_incG (pre := [l0, l1, l2, l3, l4, l5, l6, l7, l8]) dd rfl (by rw [hk]) hn hc g
theorem go_is10 {l0 l1 l2 l3 l4 l5 l6 l7 l8 l9 : Option Value} {r : List (Option Value)} {z : Option Value} {x : Int32} (dd : decode cc pc = .ok (.istore 10, 2)) (hn : Nat.ble (10 + 1) nL = true) (hc : gm_lc [l0, l1, l2, l3, l4, l5, l6, l7, l8, l9] = true) (g : Go y cc nL ret d (pc + 2) (l0 :: l1 :: l2 :: l3 :: l4 :: l5 :: l6 :: l7 :: l8 :: l9 :: some (.int x) :: r) st μ Post) : Go y cc nL ret d pc (l0 :: l1 :: l2 :: l3 :: l4 :: l5 :: l6 :: l7 :: l8 :: l9 :: z :: r) (.int x :: st) μ Post := go_isG (pre := [l0, l1, l2, l3, l4, l5, l6, l7, l8, l9]) dd rfl hn hc g
theorem go_is10n {l0 l1 l2 l3 l4 l5 l6 l7 l8 l9 : Option Value} {r : List (Option Value)} {z : Option Value} {x : Int32} (dd : decode cc pc = .ok (.istore 10, 2)) (hn : Nat.ble (10 + 1) nL = true) (g : Go y cc nL ret d (pc + 2) (l0 :: l1 :: l2 :: l3 :: l4 :: l5 :: l6 :: l7 :: l8 :: none :: some (.int x) :: r) st μ Post) : Go y cc nL ret d pc (l0 :: l1 :: l2 :: l3 :: l4 :: l5 :: l6 :: l7 :: l8 :: l9 :: z :: r) (.int x :: st) μ Post := go_isN (pre := [l0, l1, l2, l3, l4, l5, l6, l7, l8]) dd rfl hn g
theorem go_as10 {l0 l1 l2 l3 l4 l5 l6 l7 l8 l9 : Option Value} {r : List (Option Value)} {z : Option Value} {x : Nat} (dd : decode cc pc = .ok (.astore 10, 2)) (hn : Nat.ble (10 + 1) nL = true) (hc : gm_lc [l0, l1, l2, l3, l4, l5, l6, l7, l8, l9] = true) (g : Go y cc nL ret d (pc + 2) (l0 :: l1 :: l2 :: l3 :: l4 :: l5 :: l6 :: l7 :: l8 :: l9 :: some (.ref x) :: r) st μ Post) : Go y cc nL ret d pc (l0 :: l1 :: l2 :: l3 :: l4 :: l5 :: l6 :: l7 :: l8 :: l9 :: z :: r) (.ref x :: st) μ Post := go_asG (pre := [l0, l1, l2, l3, l4, l5, l6, l7, l8, l9]) dd rfl hn hc g
theorem go_as10n {l0 l1 l2 l3 l4 l5 l6 l7 l8 l9 : Option Value} {r : List (Option Value)} {z : Option Value} {x : Nat} (dd : decode cc pc = .ok (.astore 10, 2)) (hn : Nat.ble (10 + 1) nL = true) (g : Go y cc nL ret d (pc + 2) (l0 :: l1 :: l2 :: l3 :: l4 :: l5 :: l6 :: l7 :: l8 :: none :: some (.ref x) :: r) st μ Post) : Go y cc nL ret d pc (l0 :: l1 :: l2 :: l3 :: l4 :: l5 :: l6 :: l7 :: l8 :: l9 :: z :: r) (.ref x :: st) μ Post := go_asN (pre := [l0, l1, l2, l3, l4, l5, l6, l7, l8]) dd rfl hn g
theorem go_ls10 {l0 l1 l2 l3 l4 l5 l6 l7 l8 l9 : Option Value} {r : List (Option Value)} {z u : Option Value} {x : Int64} (dd : decode cc pc = .ok (.lstore 10, 2)) (hn : Nat.ble (10 + 1 + 1) nL = true) (hc : gm_lc [l0, l1, l2, l3, l4, l5, l6, l7, l8, l9] = true) (g : Go y cc nL ret d (pc + 2) (l0 :: l1 :: l2 :: l3 :: l4 :: l5 :: l6 :: l7 :: l8 :: l9 :: some (.long x) :: none :: r) st μ Post) : Go y cc nL ret d pc (l0 :: l1 :: l2 :: l3 :: l4 :: l5 :: l6 :: l7 :: l8 :: l9 :: z :: u :: r) (.long x :: st) μ Post := go_lsG (pre := [l0, l1, l2, l3, l4, l5, l6, l7, l8, l9]) dd rfl hn hc g
theorem go_inc10 {l0 l1 l2 l3 l4 l5 l6 l7 l8 l9 : Option Value} {r : List (Option Value)} {x k : Int32} {n : Int} (dd : decode cc pc = .ok (.iinc 10 n, 3)) (hk : Int32.ofInt n = k) (hn : Nat.ble (10 + 1) nL = true) (hc : gm_lc [l0, l1, l2, l3, l4, l5, l6, l7, l8, l9] = true) (g : Go y cc nL ret d (pc + 3) (l0 :: l1 :: l2 :: l3 :: l4 :: l5 :: l6 :: l7 :: l8 :: l9 :: some (.int (x + k)) :: r) st μ Post) : Go y cc nL ret d pc (l0 :: l1 :: l2 :: l3 :: l4 :: l5 :: l6 :: l7 :: l8 :: l9 :: some (.int x) :: r) st μ Post := go_incG (pre := [l0, l1, l2, l3, l4, l5, l6, l7, l8, l9]) dd rfl (by rw [hk]) hn hc g
theorem go_is11 {l0 l1 l2 l3 l4 l5 l6 l7 l8 l9 l10 : Option Value} {r : List (Option Value)} {z : Option Value} {x : Int32} (dd : decode cc pc = .ok (.istore 11, 2)) (hn : Nat.ble (11 + 1) nL = true) (hc : gm_lc [l0, l1, l2, l3, l4, l5, l6, l7, l8, l9, l10] = true) (g : Go y cc nL ret d (pc + 2) (l0 :: l1 :: l2 :: l3 :: l4 :: l5 :: l6 :: l7 :: l8 :: l9 :: l10 :: some (.int x) :: r) st μ Post) : Go y cc nL ret d pc (l0 :: l1 :: l2 :: l3 :: l4 :: l5 :: l6 :: l7 :: l8 :: l9 :: l10 :: z :: r) (.int x :: st) μ Post := go_isG (pre := [l0, l1, l2, l3, l4, l5, l6, l7, l8, l9, l10]) dd rfl hn hc g
theorem go_is11n {l0 l1 l2 l3 l4 l5 l6 l7 l8 l9 l10 : Option Value} {r : List (Option Value)} {z : Option Value} {x : Int32} (dd : decode cc pc = .ok (.istore 11, 2)) (hn : Nat.ble (11 + 1) nL = true) (g : Go y cc nL ret d (pc + 2) (l0 :: l1 :: l2 :: l3 :: l4 :: l5 :: l6 :: l7 :: l8 :: l9 :: none :: some (.int x) :: r) st μ Post) : Go y cc nL ret d pc (l0 :: l1 :: l2 :: l3 :: l4 :: l5 :: l6 :: l7 :: l8 :: l9 :: l10 :: z :: r) (.int x :: st) μ Post := go_isN (pre := [l0, l1, l2, l3, l4, l5, l6, l7, l8, l9]) dd rfl hn g
theorem go_as11 {l0 l1 l2 l3 l4 l5 l6 l7 l8 l9 l10 : Option Value} {r : List (Option Value)} {z : Option Value} {x : Nat} (dd : decode cc pc = .ok (.astore 11, 2)) (hn : Nat.ble (11 + 1) nL = true) (hc : gm_lc [l0, l1, l2, l3, l4, l5, l6, l7, l8, l9, l10] = true) (g : Go y cc nL ret d (pc + 2) (l0 :: l1 :: l2 :: l3 :: l4 :: l5 :: l6 :: l7 :: l8 :: l9 :: l10 :: some (.ref x) :: r) st μ Post) : Go y cc nL ret d pc (l0 :: l1 :: l2 :: l3 :: l4 :: l5 :: l6 :: l7 :: l8 :: l9 :: l10 :: z :: r) (.ref x :: st) μ Post := go_asG (pre := [l0, l1, l2, l3, l4, l5, l6, l7, l8, l9, l10]) dd rfl hn hc g
theorem go_as11n {l0 l1 l2 l3 l4 l5 l6 l7 l8 l9 l10 : Option Value} {r : List (Option Value)} {z : Option Value} {x : Nat} (dd : decode cc pc = .ok (.astore 11, 2)) (hn : Nat.ble (11 + 1) nL = true) (g : Go y cc nL ret d (pc + 2) (l0 :: l1 :: l2 :: l3 :: l4 :: l5 :: l6 :: l7 :: l8 :: l9 :: none :: some (.ref x) :: r) st μ Post) : Go y cc nL ret d pc (l0 :: l1 :: l2 :: l3 :: l4 :: l5 :: l6 :: l7 :: l8 :: l9 :: l10 :: z :: r) (.ref x :: st) μ Post := go_asN (pre := [l0, l1, l2, l3, l4, l5, l6, l7, l8, l9]) dd rfl hn g
theorem go_ls11 {l0 l1 l2 l3 l4 l5 l6 l7 l8 l9 l10 : Option Value} {r : List (Option Value)} {z u : Option Value} {x : Int64} (dd : decode cc pc = .ok (.lstore 11, 2)) (hn : Nat.ble (11 + 1 + 1) nL = true) (hc : gm_lc [l0, l1, l2, l3, l4, l5, l6, l7, l8, l9, l10] = true) (g : Go y cc nL ret d (pc + 2) (l0 :: l1 :: l2 :: l3 :: l4 :: l5 :: l6 :: l7 :: l8 :: l9 :: l10 :: some (.long x) :: none :: r) st μ Post) : Go y cc nL ret d pc (l0 :: l1 :: l2 :: l3 :: l4 :: l5 :: l6 :: l7 :: l8 :: l9 :: l10 :: z :: u :: r) (.long x :: st) μ Post := go_lsG (pre := [l0, l1, l2, l3, l4, l5, l6, l7, l8, l9, l10]) dd rfl hn hc g
theorem go_inc11 {l0 l1 l2 l3 l4 l5 l6 l7 l8 l9 l10 : Option Value} {r : List (Option Value)} {x k : Int32} {n : Int} (dd : decode cc pc = .ok (.iinc 11 n, 3)) (hk : Int32.ofInt n = k) (hn : Nat.ble (11 + 1) nL = true) (hc : gm_lc [l0, l1, l2, l3, l4, l5, l6, l7, l8, l9, l10] = true) (g : Go y cc nL ret d (pc + 3) (l0 :: l1 :: l2 :: l3 :: l4 :: l5 :: l6 :: l7 :: l8 :: l9 :: l10 :: some (.int (x + k)) :: r) st μ Post) : Go y cc nL ret d pc (l0 :: l1 :: l2 :: l3 :: l4 :: l5 :: l6 :: l7 :: l8 :: l9 :: l10 :: some (.int x) :: r) st μ Post := go_incG (pre := [l0, l1, l2, l3, l4, l5, l6, l7, l8, l9, l10]) dd rfl (by rw [hk]) hn hc g
theorem go_is12 {l0 l1 l2 l3 l4 l5 l6 l7 l8 l9 l10 l11 : Option Value} {r : List (Option Value)} {z : Option Value} {x : Int32} (dd : decode cc pc = .ok (.istore 12, 2)) (hn : Nat.ble (12 + 1) nL = true) (hc : gm_lc [l0, l1, l2, l3, l4, l5, l6, l7, l8, l9, l10, l11] = true) (g : Go y cc nL ret d (pc + 2) (l0 :: l1 :: l2 :: l3 :: l4 :: l5 :: l6 :: l7 :: l8 :: l9 :: l10 :: l11 :: some (.int x) :: r) st μ Post) : Go y cc nL ret d pc (l0 :: l1 :: l2 :: l3 :: l4 :: l5 :: l6 :: l7 :: l8 :: l9 :: l10 :: l11 :: z :: r) (.int x :: st) μ Post := go_isG (pre := [l0, l1, l2, l3, l4, l5, l6, l7, l8, l9, l10, l11]) dd rfl hn hc g
theorem go_is12n {l0 l1 l2 l3 l4 l5 l6 l7 l8 l9 l10 l11 : Option Value} {r : List (Option Value)} {z : Option Value} {x : Int32} (dd : decode cc pc = .ok (.istore 12, 2)) (hn : Nat.ble (12 + 1) nL = true) (g : Go y cc nL ret d (pc + 2) (l0 :: l1 :: l2 :: l3 :: l4 :: l5 :: l6 :: l7 :: l8 :: l9 :: l10 :: none :: some (.int x) :: r) st μ Post) : Go y cc nL ret d pc (l0 :: l1 :: l2 :: l3 :: l4 :: l5 :: l6 :: l7 :: l8 :: l9 :: l10 :: l11 :: z :: r) (.int x :: st) μ Post := go_isN (pre := [l0, l1, l2, l3, l4, l5, l6, l7, l8, l9, l10]) dd rfl hn g
theorem go_as12 {l0 l1 l2 l3 l4 l5 l6 l7 l8 l9 l10 l11 : Option Value} {r : List (Option Value)} {z : Option Value} {x : Nat} (dd : decode cc pc = .ok (.astore 12, 2)) (hn : Nat.ble (12 + 1) nL = true) (hc : gm_lc [l0, l1, l2, l3, l4, l5, l6, l7, l8, l9, l10, l11] = true) (g : Go y cc nL ret d (pc + 2) (l0 :: l1 :: l2 :: l3 :: l4 :: l5 :: l6 :: l7 :: l8 :: l9 :: l10 :: l11 :: some (.ref x) :: r) st μ Post) : Go y cc nL ret d pc (l0 :: l1 :: l2 :: l3 :: l4 :: l5 :: l6 :: l7 :: l8 :: l9 :: l10 :: l11 :: z :: r) (.ref x :: st) μ Post := go_asG (pre := [l0, l1, l2, l3, l4, l5, l6, l7, l8, l9, l10, l11]) dd rfl hn hc g
theorem go_as12n {l0 l1 l2 l3 l4 l5 l6 l7 l8 l9 l10 l11 : Option Value} {r : List (Option Value)} {z : Option Value} {x : Nat} (dd : decode cc pc = .ok (.astore 12, 2)) (hn : Nat.ble (12 + 1) nL = true) (g : Go y cc nL ret d (pc + 2) (l0 :: l1 :: l2 :: l3 :: l4 :: l5 :: l6 :: l7 :: l8 :: l9 :: l10 :: none :: some (.ref x) :: r) st μ Post) : Go y cc nL ret d pc (l0 :: l1 :: l2 :: l3 :: l4 :: l5 :: l6 :: l7 :: l8 :: l9 :: l10 :: l11 :: z :: r) (.ref x :: st) μ Post := go_asN (pre := [l0, l1, l2, l3, l4, l5, l6, l7, l8, l9, l10]) dd rfl hn g
theorem go_ls12 {l0 l1 l2 l3 l4 l5 l6 l7 l8 l9 l10 l11 : Option Value} {r : List (Option Value)} {z u : Option Value} {x : Int64} (dd : decode cc pc = .ok (.lstore 12, 2)) (hn : Nat.ble (12 + 1 + 1) nL = true) (hc : gm_lc [l0, l1, l2, l3, l4, l5, l6, l7, l8, l9, l10, l11] = true) (g : Go y cc nL ret d (pc + 2) (l0 :: l1 :: l2 :: l3 :: l4 :: l5 :: l6 :: l7 :: l8 :: l9 :: l10 :: l11 :: some (.long x) :: none :: r) st μ Post) : Go y cc nL ret d pc (l0 :: l1 :: l2 :: l3 :: l4 :: l5 :: l6 :: l7 :: l8 :: l9 :: l10 :: l11 :: z :: u :: r) (.long x :: st) μ Post := go_lsG (pre := [l0, l1, l2, l3, l4, l5, l6, l7, l8, l9, l10, l11]) dd rfl hn hc g
theorem go_inc12 {l0 l1 l2 l3 l4 l5 l6 l7 l8 l9 l10 l11 : Option Value} {r : List (Option Value)} {x k : Int32} {n : Int} (dd : decode cc pc = .ok (.iinc 12 n, 3)) (hk : Int32.ofInt n = k) (hn : Nat.ble (12 + 1) nL = true) (hc : gm_lc [l0, l1, l2, l3, l4, l5, l6, l7, l8, l9, l10, l11] = true) (g : Go y cc nL ret d (pc + 3) (l0 :: l1 :: l2 :: l3 :: l4 :: l5 :: l6 :: l7 :: l8 :: l9 :: l10 :: l11 :: some (.int (x + k)) :: r) st μ Post) : Go y cc nL ret d pc (l0 :: l1 :: l2 :: l3 :: l4 :: l5 :: l6 :: l7 :: l8 :: l9 :: l10 :: l11 :: some (.int x) :: r) st μ Post := go_incG (pre := [l0, l1, l2, l3, l4, l5, l6, l7, l8, l9, l10, l11]) dd rfl (by rw [hk]) hn hc g
theorem go_is13 {l0 l1 l2 l3 l4 l5 l6 l7 l8 l9 l10 l11 l12 : Option Value} {r : List (Option Value)} {z : Option Value} {x : Int32} (dd : decode cc pc = .ok (.istore 13, 2)) (hn : Nat.ble (13 + 1) nL = true) (hc : gm_lc [l0, l1, l2, l3, l4, l5, l6, l7, l8, l9, l10, l11, l12] = true) (g : Go y cc nL ret d (pc + 2) (l0 :: l1 :: l2 :: l3 :: l4 :: l5 :: l6 :: l7 :: l8 :: l9 :: l10 :: l11 :: l12 :: some (.int x) :: r) st μ Post) : Go y cc nL ret d pc (l0 :: l1 :: l2 :: l3 :: l4 :: l5 :: l6 :: l7 :: l8 :: l9 :: l10 :: l11 :: l12 :: z :: r) (.int x :: st) μ Post := go_isG (pre := [l0, l1, l2, l3, l4, l5, l6, l7, l8, l9, l10, l11, l12]) dd rfl hn hc g
theorem go_is13n {l0 l1 l2 l3 l4 l5 l6 l7 l8 l9 l10 l11 l12 : Option Value} {r : List (Option Value)} {z : Option Value} {x : Int32} (dd : decode cc pc = .ok (.istore 13, 2)) (hn : Nat.ble (13 + 1) nL = true) (g : Go y cc nL ret d (pc + 2) (l0 :: l1 :: l2 :: l3 :: l4 :: l5 :: l6 :: l7 :: l8 :: l9 :: l10 :: l11 :: none :: some (.int x) :: r) st μ Post) : Go y cc nL ret d pc (l0 :: l1 :: l2 :: l3 :: l4 :: l5 :: l6 :: l7 :: l8 :: l9 :: l10 :: l11 :: l12 :: z :: r) (.int x :: st) μ Post := go_isN (pre := [l0, l1, l2, l3, l4, l5, l6, l7, l8, l9, l10, l11]) dd rfl hn g
theorem go_as13 {l0 l1 l2 l3 l4 l5 l6 l7 l8 l9 l10 l11 l12 : Option Value} {r : List (Option Value)} {z : Option Value} {x : Nat} (dd : decode cc pc = .ok (.astore 13, 2)) (hn : Nat.ble (13 + 1) nL = true) (hc : gm_lc [l0, l1, l2, l3, l4, l5, l6, l7, l8, l9, l10, l11, l12] = true) (g : Go y cc nL ret d (pc + 2) (l0 :: l1 :: l2 :: l3 :: l4 :: l5 :: l6 :: l7 :: l8 :: l9 :: l10 :: l11 :: l12 :: some (.ref x) :: r) st μ Post) : Go y cc nL ret d pc (l0 :: l1 :: l2 :: l3 :: l4 :: l5 :: l6 :: l7 :: l8 :: l9 :: l10 :: l11 :: l12 :: z :: r) (.ref x :: st) μ Post := go_asG (pre := [l0, l1, l2, l3, l4, l5, l6, l7, l8, l9, l10, l11, l12]) dd rfl hn hc g
theorem go_as13n {l0 l1 l2 l3 l4 l5 l6 l7 l8 l9 l10 l11 l12 : Option Value} {r : List (Option Value)} {z : Option Value} {x : Nat} (dd : decode cc pc = .ok (.astore 13, 2)) (hn : Nat.ble (13 + 1) nL = true) (g : Go y cc nL ret d (pc + 2) (l0 :: l1 :: l2 :: l3 :: l4 :: l5 :: l6 :: l7 :: l8 :: l9 :: l10 :: l11 :: none :: some (.ref x) :: r) st μ Post) : Go y cc nL ret d pc (l0 :: l1 :: l2 :: l3 :: l4 :: l5 :: l6 :: l7 :: l8 :: l9 :: l10 :: l11 :: l12 :: z :: r) (.ref x :: st) μ Post := go_asN (pre := [l0, l1, l2, l3, l4, l5, l6, l7, l8, l9, l10, l11]) dd rfl hn g
theorem go_ls13 {l0 l1 l2 l3 l4 l5 l6 l7 l8 l9 l10 l11 l12 : Option Value} {r : List (Option Value)} {z u : Option Value} {x : Int64} (dd : decode cc pc = .ok (.lstore 13, 2)) (hn : Nat.ble (13 + 1 + 1) nL = true) (hc : gm_lc [l0, l1, l2, l3, l4, l5, l6, l7, l8, l9, l10, l11, l12] = true) (g : Go y cc nL ret d (pc + 2) (l0 :: l1 :: l2 :: l3 :: l4 :: l5 :: l6 :: l7 :: l8 :: l9 :: l10 :: l11 :: l12 :: some (.long x) :: none :: r) st μ Post) : Go y cc nL ret d pc (l0 :: l1 :: l2 :: l3 :: l4 :: l5 :: l6 :: l7 :: l8 :: l9 :: l10 :: l11 :: l12 :: z :: u :: r) (.long x :: st) μ Post := go_lsG (pre := [l0, l1, l2, l3, l4, l5, l6, l7, l8, l9, l10, l11, l12]) dd rfl hn hc g
theorem go_inc13 {l0 l1 l2 l3 l4 l5 l6 l7 l8 l9 l10 l11 l12 : Option Value} {r : List (Option Value)} {x k : Int32} {n : Int} (dd : decode cc pc = .ok (.iinc 13 n, 3)) (hk : Int32.ofInt n = k) (hn : Nat.ble (13 + 1) nL = true) (hc : gm_lc [l0, l1, l2, l3, l4, l5, l6, l7, l8, l9, l10, l11, l12] = true) (g : Go y cc nL ret d (pc + 3) (l0 :: l1 :: l2 :: l3 :: l4 :: l5 :: l6 :: l7 :: l8 :: l9 :: l10 :: l11 :: l12 :: some (.int (x + k)) :: r) st μ Post) : Go y cc nL ret d pc (l0 :: l1 :: l2 :: l3 :: l4 :: l5 :: l6 :: l7 :: l8 :: l9 :: l10 :: l11 :: l12 :: some (.int x) :: r) st μ Post := go_incG (pre := [l0, l1, l2, l3, l4, l5, l6, l7, l8, l9, l10, l11, l12]) dd rfl (by rw [hk]) hn hc g
theorem go_is14 {l0 l1 l2 l3 l4 l5 l6 l7 l8 l9 l10 l11 l12 l13 : Option Value} {r : List (Option Value)} {z : Option Value} {x : Int32} (dd : decode cc pc = .ok (.istore 14, 2)) (hn : Nat.ble (14 + 1) nL = true) (hc : gm_lc [l0, l1, l2, l3, l4, l5, l6, l7, l8, l9, l10, l11, l12, l13] = true) (g : Go y cc nL ret d (pc + 2) (l0 :: l1 :: l2 :: l3 :: l4 :: l5 :: l6 :: l7 :: l8 :: l9 :: l10 :: l11 :: l12 :: l13 :: some (.int x) :: r) st μ Post) : Go y cc nL ret d pc (l0 :: l1 :: l2 :: l3 :: l4 :: l5 :: l6 :: l7 :: l8 :: l9 :: l10 :: l11 :: l12 :: l13 :: z :: r) (.int x :: st) μ Post := go_isG (pre := [l0, l1, l2, l3, l4, l5, l6, l7, l8, l9, l10, l11, l12, l13]) dd rfl hn hc g
theorem go_is14n {l0 l1 l2 l3 l4 l5 l6 l7 l8 l9 l10 l11 l12 l13 : Option Value} {r : List (Option Value)} {z : Option Value} {x : Int32} (dd : decode cc pc = .ok (.istore 14, 2)) (hn : Nat.ble (14 + 1) nL = true) (g : Go y cc nL ret d (pc + 2) (l0 :: l1 :: l2 :: l3 :: l4 :: l5 :: l6 :: l7 :: l8 :: l9 :: l10 :: l11 :: l12 :: none :: some (.int x) :: r) st μ Post) : Go y cc nL ret d pc (l0 :: l1 :: l2 :: l3 :: l4 :: l5 :: l6 :: l7 :: l8 :: l9 :: l10 :: l11 :: l12 :: l13 :: z :: r) (.int x :: st) μ Post := go_isN (pre := [l0, l1, l2, l3, l4, l5, l6, l7, l8, l9, l10, l11, l12]) dd rfl hn g
theorem go_as14 {l0 l1 l2 l3 l4 l5 l6 l7 l8 l9 l10 l11 l12 l13 : Option Value} {r : List (Option Value)} {z : Option Value} {x : Nat} (dd : decode cc pc = .ok (.astore 14, 2)) (hn : Nat.ble (14 + 1) nL = true) (hc : gm_lc [l0, l1, l2, l3, l4, l5, l6, l7, l8, l9, l10, l11, l12, l13] = true) (g : Go y cc nL ret d (pc + 2) (l0 :: l1 :: l2 :: l3 :: l4 :: l5 :: l6 :: l7 :: l8 :: l9 :: l10 :: l11 :: l12 :: l13 :: some (.ref x) :: r) st μ Post) : Go y cc nL ret d pc (l0 :: l1 :: l2 :: l3 :: l4 :: l5 :: l6 :: l7 :: l8 :: l9 :: l10 :: l11 :: l12 :: l13 :: z :: r) (.ref x :: st) μ Post := go_asG (pre := [l0, l1, l2, l3, l4, l5, l6, l7, l8, l9, l10, l11, l12, l13]) dd rfl hn hc g
theorem go_as14n {l0 l1 l2 l3 l4 l5 l6 l7 l8 l9 l10 l11 l12 l13 : Option Value} {r : List (Option Value)} {z : Option Value} {x : Nat} (dd : decode cc pc = .ok (.astore 14, 2)) (hn : Nat.ble (14 + 1) nL = true) (g : Go y cc nL ret d (pc + 2) (l0 :: l1 :: l2 :: l3 :: l4 :: l5 :: l6 :: l7 :: l8 :: l9 :: l10 :: l11 :: l12 :: none :: some (.ref x) :: r) st μ Post) : Go y cc nL ret d pc (l0 :: l1 :: l2 :: l3 :: l4 :: l5 :: l6 :: l7 :: l8 :: l9 :: l10 :: l11 :: l12 :: l13 :: z :: r) (.ref x :: st) μ Post := go_asN (pre := [l0, l1, l2, l3, l4, l5, l6, l7, l8, l9, l10, l11, l12]) dd rfl hn g
theorem go_ls14 {l0 l1 l2 l3 l4 l5 l6 l7 l8 l9 l10 l11 l12 l13 : Option Value} {r : List (Option Value)} {z u : Option Value} {x : Int64} (dd : decode cc pc = .ok (.lstore 14, 2)) (hn : Nat.ble (14 + 1 + 1) nL = true) (hc : gm_lc [l0, l1, l2, l3, l4, l5, l6, l7, l8, l9, l10, l11, l12, l13] = true) (g : Go y cc nL ret d (pc + 2) (l0 :: l1 :: l2 :: l3 :: l4 :: l5 :: l6 :: l7 :: l8 :: l9 :: l10 :: l11 :: l12 :: l13 :: some (.long x) :: none :: r) st μ Post) : Go y cc nL ret d pc (l0 :: l1 :: l2 :: l3 :: l4 :: l5 :: l6 :: l7 :: l8 :: l9 :: l10 :: l11 :: l12 :: l13 :: z :: u :: r) (.long x :: st) μ Post := go_lsG (pre := [l0, l1, l2, l3, l4, l5, l6, l7, l8, l9, l10, l11, l12, l13]) dd rfl hn hc g
theorem go_inc14 {l0 l1 l2 l3 l4 l5 l6 l7 l8 l9 l10 l11 l12 l13 : Option Value} {r : List (Option Value)} {x k : Int32} {n : Int} (dd : decode cc pc = .ok (.iinc 14 n, 3)) (hk : Int32.ofInt n = k) (hn : Nat.ble (14 + 1) nL = true) (hc : gm_lc [l0, l1, l2, l3, l4, l5, l6, l7, l8, l9, l10, l11, l12, l13] = true) (g : Go y cc nL ret d (pc + 3) (l0 :: l1 :: l2 :: l3 :: l4 :: l5 :: l6 :: l7 :: l8 :: l9 :: l10 :: l11 :: l12 :: l13 :: some (.int (x + k)) :: r) st μ Post) : Go y cc nL ret d pc (l0 :: l1 :: l2 :: l3 :: l4 :: l5 :: l6 :: l7 :: l8 :: l9 :: l10 :: l11 :: l12 :: l13 :: some (.int x) :: r) st μ Post := go_incG (pre := [l0, l1, l2, l3, l4, l5, l6, l7, l8, l9, l10, l11, l12, l13]) dd rfl (by rw [hk]) hn hc g
theorem go_is15 {l0 l1 l2 l3 l4 l5 l6 l7 l8 l9 l10 l11 l12 l13 l14 : Option Value} {r : List (Option Value)} {z : Option Value} {x : Int32} (dd : decode cc pc = .ok (.istore 15, 2)) (hn : Nat.ble (15 + 1) nL = true) (hc : gm_lc [l0, l1, l2, l3, l4, l5, l6, l7, l8, l9, l10, l11, l12, l13, l14] = true) (g : Go y cc nL ret d (pc + 2) (l0 :: l1 :: l2 :: l3 :: l4 :: l5 :: l6 :: l7 :: l8 :: l9 :: l10 :: l11 :: l12 :: l13 :: l14 :: some (.int x) :: r) st μ Post) : Go y cc nL ret d pc (l0 :: l1 :: l2 :: l3 :: l4 :: l5 :: l6 :: l7 :: l8 :: l9 :: l10 :: l11 :: l12 :: l13 :: l14 :: z :: r) (.int x :: st) μ Post := go_isG (pre := [l0, l1, l2, l3, l4, l5, l6, l7, l8, l9, l10, l11, l12, l13, l14]) dd rfl hn hc g
theorem go_is15n {l0 l1 l2 l3 l4 l5 l6 l7 l8 l9 l10 l11 l12 l13 l14 : Option Value} {r : List (Option Value)} {z : Option Value} {x : Int32} (dd : decode cc pc = .ok (.istore 15, 2)) (hn : Nat.ble (15 + 1) nL = true) (g : Go y cc nL ret d (pc + 2) (l0 :: l1 :: l2 :: l3 :: l4 :: l5 :: l6 :: l7 :: l8 :: l9 :: l10 :: l11 :: l12 :: l13 :: none :: some (.int x) :: r) st μ Post) : Go y cc nL ret d pc (l0 :: l1 :: l2 :: l3 :: l4 :: l5 :: l6 :: l7 :: l8 :: l9 :: l10 :: l11 :: l12 :: l13 :: l14 :: z :: r) (.int x :: st) μ Post := go_isN (pre := [l0, l1, l2, l3, l4, l5, l6, l7, l8, l9, l10, l11, l12, l13]) dd rfl hn g
theorem go_as15 {l0 l1 l2 l3 l4 l5 l6 l7 l8 l9 l10 l11 l12 l13 l14 : Option Value} {r : List (Option Value)} {z : Option Value} {x : Nat} (dd : decode cc pc = .ok (.astore 15, 2)) (hn : Nat.ble (15 + 1) nL = true) (hc : gm_lc [l0, l1, l2, l3, l4, l5, l6, l7, l8, l9, l10, l11, l12, l13, l14] = true) (g : Go y cc nL ret d (pc + 2) (l0 :: l1 :: l2 :: l3 :: l4 :: l5 :: l6 :: l7 :: l8 :: l9 :: l10 :: l11 :: l12 :: l13 :: l14 :: some (.ref x) :: r) st μ Post) : Go y cc nL ret d pc (l0 :: l1 :: l2 :: l3 :: l4 :: l5 :: l6 :: l7 :: l8 :: l9 :: l10 :: l11 :: l12 :: l13 :: l14 :: z :: r) (.ref x :: st) μ Post := go_asG (pre := [l0, l1, l2, l3, l4, l5, l6, l7, l8, l9, l10, l11, l12, l13, l14]) dd rfl hn hc g
theorem go_as15n {l0 l1 l2 l3 l4 l5 l6 l7 l8 l9 l10 l11 l12 l13 l14 : Option Value} {r : List (Option Value)} {z : Option Value} {x : Nat} (dd : decode cc pc = .ok (.astore 15, 2)) (hn : Nat.ble (15 + 1) nL = true) (g : Go y cc nL ret d (pc + 2) (l0 :: l1 :: l2 :: l3 :: l4 :: l5 :: l6 :: l7 :: l8 :: l9 :: l10 :: l11 :: l12 :: l13 :: none :: some (.ref x) :: r) st μ Post) : Go y cc nL ret d pc (l0 :: l1 :: l2 :: l3 :: l4 :: l5 :: l6 :: l7 :: l8 :: l9 :: l10 :: l11 :: l12 :: l13 :: l14 :: z :: r) (.ref x :: st) μ Post := go_asN (pre := [l0, l1, l2, l3, l4, l5, l6, l7, l8, l9, l10, l11, l12, l13]) dd rfl hn g
theorem go_ls15 {l0 l1 l2 l3 l4 l5 l6 l7 l8 l9 l10 l11 l12 l13 l14 : Option Value} {r : List (Option Value)} {z u : Option Value} {x : Int64} (dd : decode cc pc = .ok (.lstore 15, 2)) (hn : Nat.ble (15 + 1 + 1) nL = true) (hc : gm_lc [l0, l1, l2, l3, l4, l5, l6, l7, l8, l9, l10, l11, l12, l13, l14] = true) (g : Go y cc nL ret d (pc + 2) (l0 :: l1 :: l2 :: l3 :: l4 :: l5 :: l6 :: l7 :: l8 :: l9 :: l10 :: l11 :: l12 :: l13 :: l14 :: some (.long x) :: none :: r) st μ Post) : Go y cc nL ret d pc (l0 :: l1 :: l2 :: l3 :: l4 :: l5 :: l6 :: l7 :: l8 :: l9 :: l10 :: l11 :: l12 :: l13 :: l14 :: z :: u :: r) (.long x :: st) μ Post := go_lsG (pre := [l0, l1, l2, l3, l4, l5, l6, l7, l8, l9, l10, l11, l12, l13, l14]) dd rfl hn hc g
theorem go_inc15 {l0 l1 l2 l3 l4 l5 l6 l7 l8 l9 l10 l11 l12 l13 l14 : Option Value} {r : List (Option Value)} {x k : Int32} {n : Int} (dd : decode cc pc = .ok (.iinc 15 n, 3)) (hk : Int32.ofInt n = k) (hn : Nat.ble (15 + 1) nL = true) (hc : gm_lc [l0, l1, l2, l3, l4, l5, l6, l7, l8, l9, l10, l11, l12, l13, l14] = true) (g : Go y cc nL ret d (pc + 3) (l0 :: l1 :: l2 :: l3 :: l4 :: l5 :: l6 :: l7 :: l8 :: l9 :: l10 :: l11 :: l12 :: l13 :: l14 :: some (.int (x + k)) :: r) st μ Post) : Go y cc nL ret d pc (l0 :: l1 :: l2 :: l3 :: l4 :: l5 :: l6 :: l7 :: l8 :: l9 :: l10 :: l11 :: l12 :: l13 :: l14 :: some (.int x) :: r) st μ Post := go_incG (pre := [l0, l1, l2, l3, l4, l5, l6, l7, l8, l9, l10, l11, l12, l13, l14]) dd rfl (by rw [hk]) hn hc g
theorem go_ifeq {x : Int32} {off : Int} (tgt : Nat) (dd : decode cc pc = .ok (.ifCond .eq off, 3)) (ht : (pc : Int) + off = (tgt : Int)) (kt : x = 0 → Go y cc nL ret d tgt L st μ Post) (kf : ¬ x = 0 → Go y cc nL ret d (pc + 3) L st μ Post) : Go y cc nL ret d pc L (.int x :: st) μ Post := by
  intro l p e s m args below meth c D ad kc H locs ls X hP hS hl
  exact lv_if_eq X.1 X.2.1 dd ht (fun q => kt q l p e s m args below meth c D ad kc H locs ls X hP hS hl) (fun q => kf q l p e s m args below meth c D ad kc H locs ls X hP hS hl)
theorem go_ceq {x z : Int32} {off : Int} (tgt : Nat) (dd : decode cc pc = .ok (.if_icmp .eq off, 3)) (ht : (pc : Int) + off = (tgt : Int)) (kt : x = z → Go y cc nL ret d tgt L st μ Post) (kf : ¬ x = z → Go y cc nL ret d (pc + 3) L st μ Post) : Go y cc nL ret d pc L (.int z :: .int x :: st) μ Post := by
  intro l p e s m args below meth c D ad kc H locs ls X hP hS hl
  exact lv_icmp_eq X.1 X.2.1 dd ht (fun q => kt q l p e s m args below meth c D ad kc H locs ls X hP hS hl) (fun q => kf q l p e s m args below meth c D ad kc H locs ls X hP hS hl)
theorem go_ifne {x : Int32} {off : Int} (tgt : Nat) (dd : decode cc pc = .ok (.ifCond .ne off, 3)) (ht : (pc : Int) + off = (tgt : Int)) (kt : ¬ x = 0 → Go y cc nL ret d tgt L st μ Post) (kf : x = 0 → Go y cc nL ret d (pc + 3) L st μ Post) : Go y cc nL ret d pc L (.int x :: st) μ Post := by
  intro l p e s m args below meth c D ad kc H locs ls X hP hS hl
  exact lv_if_ne X.1 X.2.1 dd ht (fun q => kt q l p e s m args below meth c D ad kc H locs ls X hP hS hl) (fun q => kf q l p e s m args below meth c D ad kc H locs ls X hP hS hl)
theorem go_cne {x z : Int32} {off : Int} (tgt : Nat) (dd : decode cc pc = .ok (.if_icmp .ne off, 3)) (ht : (pc : Int) + off = (tgt : Int)) (kt : ¬ x = z → Go y cc nL ret d tgt L st μ Post) (kf : x = z → Go y cc nL ret d (pc + 3) L st μ Post) : Go y cc nL ret d pc L (.int z :: .int x :: st) μ Post := by
  intro l p e s m args below meth c D ad kc H locs ls X hP hS hl
  exact lv_icmp_ne X.1 X.2.1 dd ht (fun q => kt q l p e s m args below meth c D ad kc H locs ls X hP hS hl) (fun q => kf q l p e s m args below meth c D ad kc H locs ls X hP hS hl)
theorem go_iflt {x : Int32} {off : Int} (tgt : Nat) (dd : decode cc pc = .ok (.ifCond .lt off, 3)) (ht : (pc : Int) + off = (tgt : Int)) (kt : x < 0 → Go y cc nL ret d tgt L st μ Post) (kf : ¬ x < 0 → Go y cc nL ret d (pc + 3) L st μ Post) : Go y cc nL ret d pc L (.int x :: st) μ Post := by
  intro l p e s m args below meth c D ad kc H locs ls X hP hS hl
  exact lv_if_lt X.1 X.2.1 dd ht (fun q => kt q l p e s m args below meth c D ad kc H locs ls X hP hS hl) (fun q => kf q l p e s m args below meth c D ad kc H locs ls X hP hS hl)
theorem go_clt {x z : Int32} {off : Int} (tgt : Nat) (dd : decode cc pc = .ok (.if_icmp .lt off, 3)) (ht : (pc : Int) + off = (tgt : Int)) (kt : x < z → Go y cc nL ret d tgt L st μ Post) (kf : ¬ x < z → Go y cc nL ret d (pc + 3) L st μ Post) : Go y cc nL ret d pc L (.int z :: .int x :: st) μ Post := by
  intro l p e s m args below meth c D ad kc H locs ls X hP hS hl
  exact lv_icmp_lt X.1 X.2.1 dd ht (fun q => kt q l p e s m args below meth c D ad kc H locs ls X hP hS hl) (fun q => kf q l p e s m args below meth c D ad kc H locs ls X hP hS hl)
theorem go_ifge {x : Int32} {off : Int} (tgt : Nat) (dd : decode cc pc = .ok (.ifCond .ge off, 3)) (ht : (pc : Int) + off = (tgt : Int)) (kt : 0 ≤ x → Go y cc nL ret d tgt L st μ Post) (kf : ¬ 0 ≤ x → Go y cc nL ret d (pc + 3) L st μ Post) : Go y cc nL ret d pc L (.int x :: st) μ Post := by
  intro l p e s m args below meth c D ad kc H locs ls X hP hS hl
  exact lv_if_ge X.1 X.2.1 dd ht (fun q => kt q l p e s m args below meth c D ad kc H locs ls X hP hS hl) (fun q => kf q l p e s m args below meth c D ad kc H locs ls X hP hS hl)
theorem go_cge {x z : Int32} {off : Int} (tgt : Nat) (dd : decode cc pc = .ok (.if_icmp .ge off, 3)) (ht : (pc : Int) + off = (tgt : Int)) (kt : z ≤ x → Go y cc nL ret d tgt L st μ Post) (kf : ¬ z ≤ x → Go y cc nL ret d (pc + 3) L st μ Post) : Go y cc nL ret d pc L (.int z :: .int x :: st) μ Post := by
  intro l p e s m args below meth c D ad kc H locs ls X hP hS hl
  exact lv_icmp_ge X.1 X.2.1 dd ht (fun q => kt q l p e s m args below meth c D ad kc H locs ls X hP hS hl) (fun q => kf q l p e s m args below meth c D ad kc H locs ls X hP hS hl)
theorem go_ifgt {x : Int32} {off : Int} (tgt : Nat) (dd : decode cc pc = .ok (.ifCond .gt off, 3)) (ht : (pc : Int) + off = (tgt : Int)) (kt : 0 < x → Go y cc nL ret d tgt L st μ Post) (kf : ¬ 0 < x → Go y cc nL ret d (pc + 3) L st μ Post) : Go y cc nL ret d pc L (.int x :: st) μ Post := by
  intro l p e s m args below meth c D ad kc H locs ls X hP hS hl
  exact lv_if_gt X.1 X.2.1 dd ht (fun q => kt q l p e s m args below meth c D ad kc H locs ls X hP hS hl) (fun q => kf q l p e s m args below meth c D ad kc H locs ls X hP hS hl)
theorem go_cgt {x z : Int32} {off : Int} (tgt : Nat) (dd : decode cc pc = .ok (.if_icmp .gt off, 3)) (ht : (pc : Int) + off = (tgt : Int)) (kt : z < x → Go y cc nL ret d tgt L st μ Post) (kf : ¬ z < x → Go y cc nL ret d (pc + 3) L st μ Post) : Go y cc nL ret d pc L (.int z :: .int x :: st) μ Post := by
  intro l p e s m args below meth c D ad kc H locs ls X hP hS hl
  exact lv_icmp_gt X.1 X.2.1 dd ht (fun q => kt q l p e s m args below meth c D ad kc H locs ls X hP hS hl) (fun q => kf q l p e s m args below meth c D ad kc H locs ls X hP hS hl)
theorem go_ifle {x : Int32} {off : Int} (tgt : Nat) (dd : decode cc pc = .ok (.ifCond .le off, 3)) (ht : (pc : Int) + off = (tgt : Int)) (kt : x ≤ 0 → Go y cc nL ret d tgt L st μ Post) (kf : ¬ x ≤ 0 → Go y cc nL ret d (pc + 3) L st μ Post) : Go y cc nL ret d pc L (.int x :: st) μ Post := by
  intro l p e s m args below meth c D ad kc H locs ls X hP hS hl
  exact lv_if_le X.1 X.2.1 dd ht (fun q => kt q l p e s m args below meth c D ad kc H locs ls X hP hS hl) (fun q => kf q l p e s m args below meth c D ad kc H locs ls X hP hS hl)
theorem go_cle {x z : Int32} {off : Int} (tgt : Nat) (dd : decode cc pc = .ok (.if_icmp .le off, 3)) (ht : (pc : Int) + off = (tgt : Int)) (kt : x ≤ z → Go y cc nL ret d tgt L st μ Post) (kf : ¬ x ≤ z → Go y cc nL ret d (pc + 3) L st μ Post) : Go y cc nL ret d pc L (.int z :: .int x :: st) μ Post := by
  intro l p e s m args below meth c D ad kc H locs ls X hP hS hl
  exact lv_icmp_le X.1 X.2.1 dd ht (fun q => kt q l p e s m args below meth c D ad kc H locs ls X hP hS hl) (fun q => kf q l p e s m args below meth c D ad kc H locs ls X hP hS hl)
theorem go_ifeqB {b : Bool} {off : Int} (tgt : Nat) (dd : decode cc pc = .ok (.ifCond .eq off, 3)) (ht : (pc : Int) + off = (tgt : Int)) (kt : b = false → Go y cc nL ret d tgt L st μ Post) (kf : b = true → Go y cc nL ret d (pc + 3) L st μ Post) : Go y cc nL ret d pc L (.int (gb b) :: st) μ Post := go_ifeq tgt dd ht (fun q => kt (gb_eq0.mp q)) (fun q => kf (by cases b with | false => exact absurd rfl q | true => rfl))
theorem go_ifneB {b : Bool} {off : Int} (tgt : Nat) (dd : decode cc pc = .ok (.ifCond .ne off, 3)) (ht : (pc : Int) + off = (tgt : Int)) (kt : b = true → Go y cc nL ret d tgt L st μ Post) (kf : b = false → Go y cc nL ret d (pc + 3) L st μ Post) : Go y cc nL ret d pc L (.int (gb b) :: st) μ Post := go_ifne tgt dd ht (fun q => kt (by cases b with | false => exact absurd rfl q | true => rfl)) (fun q => kf (gb_eq0.mp q))
theorem go_goto {off : Int} (tgt : Nat) (dd : decode cc pc = .ok (.goto off, 3)) (ht : (pc : Int) + off = (tgt : Int)) (g : Go y cc nL ret d tgt L st μ Post) : Go y cc nL ret d pc L st μ Post := by
  intro l p e s m args below meth c D ad kc H locs ls X hP hS hl
  exact lv_goto X.1 X.2.1 dd ht (g l p e s m args below meth c D ad kc H locs ls X hP hS hl)
theorem go_tsOut {dflt lo hi : Int} {offs : Array Int} {len : Nat} {x : Int32} (tgt : Nat) (dd : decode cc pc = .ok (.tableswitch dflt lo hi offs, len)) (h : x.toInt < lo ∨ hi < x.toInt) (ht : (pc : Int) + dflt = (tgt : Int)) (g : Go y cc nL ret d tgt L st μ Post) : Go y cc nL ret d pc L (.int x :: st) μ Post := by
  intro l p e s m args below meth c D ad kc H locs ls X hP hS hl
  exact lv_tableOut X.1 X.2.1 dd h ht (g l p e s m args below meth c D ad kc H locs ls X hP hS hl)
theorem go_tsIn {dflt lo hi : Int} {offs : Array Int} {len : Nat} {x : Int32} {off : Int} (tgt : Nat) (dd : decode cc pc = .ok (.tableswitch dflt lo hi offs, len)) (h1 : ¬ x.toInt < lo) (h2 : ¬ hi < x.toInt) (ho : offs[(x.toInt - lo).toNat]? = some off) (ht : (pc : Int) + off = (tgt : Int)) (g : Go y cc nL ret d tgt L st μ Post) : Go y cc nL ret d pc L (.int x :: st) μ Post := by
  intro l p e s m args below meth c D ad kc H locs ls X hP hS hl
  exact lv_tableIn X.1 X.2.1 dd h1 h2 ho ht (g l p e s m args below meth c D ad kc H locs ls X hP hS hl)
theorem go_iret {v : Int32} (dd : decode cc pc = .ok (.ireturn, 1)) (h : Post (some (.int v)) μ) : Go y cc nL (some .int) d pc L [.int v] μ Post := by
  intro l p e s m args below meth c D ad kc H locs ls X hP hS hl
  exact W.iret X.1 X.2.1 X.2.2.1 (fun t ht hW => ⟨⟨some (.int v), μ, rfl, h, by rw [ht]; exact hP, va_K.moved hW.alike X.2.2.2.2.2.2.2.1⟩, hS.F ht⟩) hS.2.2 dd X.2.2.2.2.2.2.1
theorem go_zret {v : Int32} (dd : decode cc pc = .ok (.ireturn, 1)) (hn : narrow .boolean (.int v) = .int v) (h : Post (some (.int v)) μ) : Go y cc nL (some .boolean) d pc L [.int v] μ Post := by
  intro l p e s m args below meth c D ad kc H locs ls X hP hS hl
  exact W.zret X.1 X.2.1 X.2.2.1 hn (fun t ht hW => ⟨⟨some (.int v), μ, rfl, h, by rw [ht]; exact hP, va_K.moved hW.alike X.2.2.2.2.2.2.2.1⟩, hS.F ht⟩) hS.2.2 dd X.2.2.2.2.2.2.1
theorem go_lret {v : Int64} (dd : decode cc pc = .ok (.lreturn, 1)) (h : Post (some (.long v)) μ) : Go y cc nL (some .long) d pc L [.long v] μ Post := by
  intro l p e s m args below meth c D ad kc H locs ls X hP hS hl
  exact W.lret X.1 X.2.1 X.2.2.1 (fun t ht hW => ⟨⟨some (.long v), μ, rfl, h, by rw [ht]; exact hP, va_K.moved hW.alike X.2.2.2.2.2.2.2.1⟩, hS.F ht⟩) hS.2.2 dd X.2.2.2.2.2.2.1
theorem go_vret (dd : decode cc pc = .ok (.return_, 1)) (h : Post none μ) : Go y cc nL none d pc L [] μ Post := by
  intro l p e s m args below meth c D ad kc H locs ls X hP hS hl
  exact W.vret X.1 X.2.1 X.2.2.1 (fun t ht hW => ⟨⟨none, μ, rfl, h, by rw [ht]; exact hP, va_K.moved hW.alike X.2.2.2.2.2.2.2.1⟩, hS.F ht⟩) hS.2.2 dd X.2.2.2.2.2.2.1
theorem go_aret {v : Nat} {C : String} (dd : decode cc pc = .ok (.areturn, 1)) (h : Post (some (.ref v)) μ) : Go y cc nL (some (.object C)) d pc L [.ref v] μ Post := by
  intro l p e s m args below meth c D ad kc H locs ls X hP hS hl
  exact W.aret X.1 X.2.1 X.2.2.1 (Or.inl ⟨C, rfl⟩) (Or.inr ⟨ad v, rfl⟩) (fun t ht hW => ⟨⟨some (.ref v), μ, rfl, h, by rw [ht]; exact hP, va_K.moved hW.alike X.2.2.2.2.2.2.2.1⟩, hS.F ht⟩) hS.2.2 dd X.2.2.2.2.2.2.1
def gm_cl (ci : Nat) (C : String) (T : u_T) (N : Nat) (ty0 : Nat → FieldType) : Prop := vwCl[ci]? = some (C, T, N) ∧ (∀ w ∈ u_ws C T N, w ∈ lw_tbl) ∧ (∀ k, k < N → parseFieldDescriptor (T k).2.2.1 = some (ty0 k)) ∧ (∀ a, a < N → ∀ b, b < N → a ≠ b → (T a).2.1 ≠ (T b).2.1)
/-- the field at this place of the pool: the k-th of the class ci, final or not, of this type -/
def gm_fl (own : String) (idx ci k : Nat) (fin : Bool) (ty : FieldType) : Prop := ∃ (C : String) (T : u_T) (N : Nat) (ty0 : Nat → FieldType), gm_cl ci C T N ty0 ∧ k < N ∧ Cond.fieldLink own idx (T k).1 (T k).2.1 (T k).2.2.1 ∈ lw_tbl ∧ (T k).2.2.2 = fin ∧ ty0 k = ty
def gm_fn (own : String) (idx ci k : Nat) (host : String) : Prop := ∃ (C : String) (T : u_T) (N : Nat) (ty0 : Nat → FieldType), gm_cl ci C T N ty0 ∧ k < N ∧ Cond.fieldLinkNest own idx (T k).1 (T k).2.1 (T k).2.2.1 host ∈ lw_tbl
theorem gm_at_obj {ad : Nat → Nat} {kc : Nat → ClassId} {μ : gm_M} {c ci : Nat} {ks : List Nat} (hs : gm_sh c = some (.inr (ci, ks))) : (gm_w ad kc μ)[c]? = some (ad c, .inr (ci, ks.mapIdx (gm_f ad μ c))) := by rw [gm_w_get ad kc μ (gm_sh_lt hs), gm_e_obj hs]
theorem gm_at_ai {ad : Nat → Nat} {kc : Nat → ClassId} {μ : gm_M} {c n : Nat} (hs : gm_sh c = some (.inl (0, n))) : (gm_w ad kc μ)[c]? = some (ad c, .inl (kc 0, n, .inl (μ.1 c))) := by rw [gm_w_get ad kc μ (gm_sh_lt hs), gm_e_ai hs]
theorem gm_at_aj {ad : Nat → Nat} {kc : Nat → ClassId} {μ : gm_M} {c n : Nat} (hs : gm_sh c = some (.inl (1, n))) : (gm_w ad kc μ)[c]? = some (ad c, .inl (kc 1, n, .inr (.inl (μ.2 c)))) := by rw [gm_w_get ad kc μ (gm_sh_lt hs), gm_e_aj hs]
theorem gm_at_az {ad : Nat → Nat} {kc : Nat → ClassId} {μ : gm_M} {c n : Nat} (hs : gm_sh c = some (.inl (2, n))) : (gm_w ad kc μ)[c]? = some (ad c, .inl (kc 2, n, .inl (μ.1 c))) := by rw [gm_w_get ad kc μ (gm_sh_lt hs), gm_e_az hs]
theorem gm_at_ar {ad : Nat → Nat} {kc : Nat → ClassId} {μ : gm_M} {c n : Nat} (hs : gm_sh c = some (.inl (3, n))) : (gm_w ad kc μ)[c]? = some (ad c, .inl (kc 3, n, .inr (.inr (.inr (.inr (fun j => some (ad (44 + j)))))))) := by rw [gm_w_get ad kc μ (gm_sh_lt hs), gm_e_ar hs]
theorem gm_fget {ad : Nat → Nat} {μ : gm_M} {c k z : Nat} {ks : List Nat} (hk : ks[k]? = some z) : (ks.mapIdx (gm_f ad μ c))[k]? = some (gm_f ad μ c k z) := by rw [List.getElem?_mapIdx, hk]; rfl
theorem go_getI {c0 k idx ci : Nat} {ks : List Nat} {fin : Bool} {ty : FieldType}  (hf : gm_fl y.cls idx ci k fin ty) (hs : gm_sh c0 = some (.inr (ci, ks))) (hk : ks[k]? = some 0) (dd : decode cc pc = .ok (.getfield idx, 3)) (g : Go y cc nL ret d (pc + 3) L (.int (μ.1 c0 k) :: st) μ Post) : Go y cc nL ret d pc L (.ref c0 :: st) μ Post := by
  intro l p e s m args below meth c D ad kc H locs ls X hP hS hl
  obtain ⟨C, T, N, ty0, ⟨h1, h2, h3, h4⟩, h5, h6, -, -⟩ := hf
  exact va_get X.1 X.2.1 X.2.2.2.2.2.1 (gm_uw h2) X.2.2.2.2.1 X.2.2.2.2.2.2.2.1 hP c0 (gm_at_obj hs) h1 k h5 (gm_hw X.2.2.2.2.2.1 h6 rfl) (fun _ h9 => h9) (gm_fget hk) dd (g l p e s m args below meth c D ad kc H locs ls X hP hS hl)
theorem go_getJ {c0 k idx ci : Nat} {ks : List Nat} {fin : Bool} {ty : FieldType}  (hf : gm_fl y.cls idx ci k fin ty) (hs : gm_sh c0 = some (.inr (ci, ks))) (hk : ks[k]? = some 1) (dd : decode cc pc = .ok (.getfield idx, 3)) (g : Go y cc nL ret d (pc + 3) L (.long (μ.2 c0 k) :: st) μ Post) : Go y cc nL ret d pc L (.ref c0 :: st) μ Post := by
  intro l p e s m args below meth c D ad kc H locs ls X hP hS hl
  obtain ⟨C, T, N, ty0, ⟨h1, h2, h3, h4⟩, h5, h6, -, -⟩ := hf
  exact va_get X.1 X.2.1 X.2.2.2.2.2.1 (gm_uw h2) X.2.2.2.2.1 X.2.2.2.2.2.2.2.1 hP c0 (gm_at_obj hs) h1 k h5 (gm_hw X.2.2.2.2.2.1 h6 rfl) (fun _ h9 => h9) (gm_fget hk) dd (g l p e s m args below meth c D ad kc H locs ls X hP hS hl)
theorem go_getR {c0 k idx ci : Nat} {ks : List Nat} {fin : Bool} {ty : FieldType} {j : Nat} (hf : gm_fl y.cls idx ci k fin ty) (hs : gm_sh c0 = some (.inr (ci, ks))) (hk : ks[k]? = some (j + 2)) (dd : decode cc pc = .ok (.getfield idx, 3)) (g : Go y cc nL ret d (pc + 3) L (.ref j :: st) μ Post) : Go y cc nL ret d pc L (.ref c0 :: st) μ Post := by
  intro l p e s m args below meth c D ad kc H locs ls X hP hS hl
  obtain ⟨C, T, N, ty0, ⟨h1, h2, h3, h4⟩, h5, h6, -, -⟩ := hf
  exact va_get X.1 X.2.1 X.2.2.2.2.2.1 (gm_uw h2) X.2.2.2.2.1 X.2.2.2.2.2.2.2.1 hP c0 (gm_at_obj hs) h1 k h5 (gm_hw X.2.2.2.2.2.1 h6 rfl) (fun _ h9 => h9) (gm_fget hk) dd (g l p e s m args below meth c D ad kc H locs ls X hP hS hl)
theorem go_getRN {c0 k idx ci j : Nat} {ks : List Nat} {host : String} (hf : gm_fn y.cls idx ci k host) (hs : gm_sh c0 = some (.inr (ci, ks))) (hk : ks[k]? = some (j + 2)) (dd : decode cc pc = .ok (.getfield idx, 3)) (g : Go y cc nL ret d (pc + 3) L (.ref j :: st) μ Post) : Go y cc nL ret d pc L (.ref c0 :: st) μ Post := by
  intro l p e s m args below meth c D ad kc H locs ls X hP hS hl
  obtain ⟨C, T, N, ty0, ⟨h1, h2, h3, h4⟩, h5, h6⟩ := hf
  exact va_getN X.1 X.2.1 X.2.2.2.2.2.1 (gm_uw h2) X.2.2.2.2.1 X.2.2.2.2.2.2.2.1 hP c0 (gm_at_obj hs) h1 k h5 (va_Nw.use rfl (X.2.2.2.2.2.2.2.2.2.2 _ h6 rfl)) (fun _ h9 => h9) (gm_fget hk) dd (g l p e s m args below meth c D ad kc H locs ls X hP hS hl)
theorem go_putI {c0 k idx ci : Nat} {ks : List Nat} {x : Int32} (hf : gm_fl y.cls idx ci k false .int) (hs : gm_sh c0 = some (.inr (ci, ks))) (hk : ks[k]? = some 0) (dd : decode cc pc = .ok (.putfield idx, 3)) (g : Go y cc nL ret d (pc + 3) L st (gm_I μ c0 k x) Post) : Go y cc nL ret d pc L (.int x :: .ref c0 :: st) μ Post := by
  intro l p e s m args below meth c D ad kc H locs ls X hP hS hl
  obtain ⟨C, T, N, ty0, ⟨h1, h2, h3, h4⟩, h5, h6, h7, h8⟩ := hf
  refine va_put X.1 X.2.1 X.2.2.2.2.2.1 (gm_uw h2) ty0 h3 h4 X.2.2.2.2.1 X.2.2.2.2.2.2.2.1 hP (gm_D X.2.2.2.2.2.2.2.2.1 kc μ) hS c0 (gm_at_obj hs) h1 k h5 (gm_hw X.2.2.2.2.2.1 h6 rfl) (fun _ h9 => h9) h7 (ty := .int) (v := .int x) (by rw [h3 k h5, h8]) rfl rfl (by rw [List.length_mapIdx]; exact (List.getElem?_eq_some_iff.mp hk).1) dd (fun H1 locs1 hP1 hD1 hS1 => ?_)
  rw [gm_w_I hs hk] at hP1
  exact g l p e s m args below meth c D ad kc H1 locs1 ls X hP1 hS1 hl
theorem go_putZ {c0 k idx ci : Nat} {ks : List Nat} {b : Bool} (hf : gm_fl y.cls idx ci k false .boolean) (hs : gm_sh c0 = some (.inr (ci, ks))) (hk : ks[k]? = some 0) (dd : decode cc pc = .ok (.putfield idx, 3)) (g : Go y cc nL ret d (pc + 3) L st (gm_I μ c0 k (gb b)) Post) : Go y cc nL ret d pc L (.int (gb b) :: .ref c0 :: st) μ Post := by
  intro l p e s m args below meth c D ad kc H locs ls X hP hS hl
  obtain ⟨C, T, N, ty0, ⟨h1, h2, h3, h4⟩, h5, h6, h7, h8⟩ := hf
  refine va_put X.1 X.2.1 X.2.2.2.2.2.1 (gm_uw h2) ty0 h3 h4 X.2.2.2.2.1 X.2.2.2.2.2.2.2.1 hP (gm_D X.2.2.2.2.2.2.2.2.1 kc μ) hS c0 (gm_at_obj hs) h1 k h5 (gm_hw X.2.2.2.2.2.1 h6 rfl) (fun _ h9 => h9) h7 (ty := .boolean) (v := .int (gb b)) (by rw [h3 k h5, h8]) (gb_nar b) (gb_fit b) (by rw [List.length_mapIdx]; exact (List.getElem?_eq_some_iff.mp hk).1) dd (fun H1 locs1 hP1 hD1 hS1 => ?_)
  rw [gm_w_I hs hk] at hP1
  exact g l p e s m args below meth c D ad kc H1 locs1 ls X hP1 hS1 hl
theorem go_putJ {c0 k idx ci : Nat} {ks : List Nat} {x : Int64} (hf : gm_fl y.cls idx ci k false .long) (hs : gm_sh c0 = some (.inr (ci, ks))) (hk : ks[k]? = some 1) (dd : decode cc pc = .ok (.putfield idx, 3)) (g : Go y cc nL ret d (pc + 3) L st (gm_J μ c0 k x) Post) : Go y cc nL ret d pc L (.long x :: .ref c0 :: st) μ Post := by
  intro l p e s m args below meth c D ad kc H locs ls X hP hS hl
  obtain ⟨C, T, N, ty0, ⟨h1, h2, h3, h4⟩, h5, h6, h7, h8⟩ := hf
  refine va_put X.1 X.2.1 X.2.2.2.2.2.1 (gm_uw h2) ty0 h3 h4 X.2.2.2.2.1 X.2.2.2.2.2.2.2.1 hP (gm_D X.2.2.2.2.2.2.2.2.1 kc μ) hS c0 (gm_at_obj hs) h1 k h5 (gm_hw X.2.2.2.2.2.1 h6 rfl) (fun _ h9 => h9) h7 (ty := .long) (v := .long x) (by rw [h3 k h5, h8]) rfl rfl (by rw [List.length_mapIdx]; exact (List.getElem?_eq_some_iff.mp hk).1) dd (fun H1 locs1 hP1 hD1 hS1 => ?_)
  rw [gm_w_J hs hk] at hP1
  exact g l p e s m args below meth c D ad kc H1 locs1 ls X hP1 hS1 hl
theorem go_iald {c0 n : Nat} {i : Int32} (hs : gm_sh c0 = some (.inl (0, n))) (hi : vp_in i n) (dd : decode cc pc = .ok (.iaload, 1)) (g : Go y cc nL ret d (pc + 1) L (.int (μ.1 c0 i.toNatClampNeg) :: st) μ Post) : Go y cc nL ret d pc L (.int i :: .ref c0 :: st) μ Post := by
  intro l p e s m args below meth c D ad kc H locs ls X hP hS hl
  exact va_iald X.1 X.2.1 X.2.2.2.2.2.2.2.1 hP c0 0 (gm_at_ai hs) rfl hi dd (g l p e s m args below meth c D ad kc H locs ls X hP hS hl)
theorem go_lald {c0 n : Nat} {i : Int32} (hs : gm_sh c0 = some (.inl (1, n))) (hi : vp_in i n) (dd : decode cc pc = .ok (.laload, 1)) (g : Go y cc nL ret d (pc + 1) L (.long (μ.2 c0 i.toNatClampNeg) :: st) μ Post) : Go y cc nL ret d pc L (.int i :: .ref c0 :: st) μ Post := by
  intro l p e s m args below meth c D ad kc H locs ls X hP hS hl
  exact va_lald X.1 X.2.1 X.2.2.2.2.2.2.2.1 hP c0 1 (gm_at_aj hs) rfl hi dd (g l p e s m args below meth c D ad kc H locs ls X hP hS hl)
theorem go_zald {c0 n : Nat} {i : Int32} (hs : gm_sh c0 = some (.inl (2, n))) (hi : vp_in i n) (dd : decode cc pc = .ok (.baload, 1)) (g : Go y cc nL ret d (pc + 1) L (.int (μ.1 c0 i.toNatClampNeg) :: st) μ Post) : Go y cc nL ret d pc L (.int i :: .ref c0 :: st) μ Post := by
  intro l p e s m args below meth c D ad kc H locs ls X hP hS hl
  exact va_zald X.1 X.2.1 X.2.2.2.2.2.2.2.1 hP c0 2 (gm_at_az hs) rfl hi dd (g l p e s m args below meth c D ad kc H locs ls X hP hS hl)
theorem go_aald {c0 n : Nat} {i : Int32} (hs : gm_sh c0 = some (.inl (3, n))) (hi : vp_in i n) (dd : decode cc pc = .ok (.aaload, 1)) (g : Go y cc nL ret d (pc + 1) L (.ref (44 + i.toNatClampNeg) :: st) μ Post) : Go y cc nL ret d pc L (.int i :: .ref c0 :: st) μ Post := by
  intro l p e s m args below meth c D ad kc H locs ls X hP hS hl
  exact va_aldq X.1 X.2.1 X.2.2.2.2.2.2.2.1 hP c0 3 (gm_at_ar hs) rfl hi dd (g l p e s m args below meth c D ad kc H locs ls X hP hS hl)
theorem go_iast {c0 n : Nat} {i : Int32} {x : Int32} (hs : gm_sh c0 = some (.inl (0, n))) (hi : vp_in i n) (dd : decode cc pc = .ok (.iastore, 1)) (g : Go y cc nL ret d (pc + 1) L st (gm_I μ c0 i.toNatClampNeg x) Post) : Go y cc nL ret d pc L (.int x :: .int i :: .ref c0 :: st) μ Post := by
  intro l p e s m args below meth c D ad kc H locs ls X hP hS hl
  refine va_iast X.1 X.2.1 X.2.2.2.2.2.2.2.1 hP (gm_D X.2.2.2.2.2.2.2.2.1 kc μ) hS c0 0 (gm_at_ai hs) rfl hi dd (fun H1 locs1 hP1 hD1 hS1 => ?_)
  rw [gm_w_aI hs] at hP1
  exact g l p e s m args below meth c D ad kc H1 locs1 ls X hP1 hS1 hl
theorem go_last {c0 n : Nat} {i : Int32} {x : Int64} (hs : gm_sh c0 = some (.inl (1, n))) (hi : vp_in i n) (dd : decode cc pc = .ok (.lastore, 1)) (g : Go y cc nL ret d (pc + 1) L st (gm_J μ c0 i.toNatClampNeg x) Post) : Go y cc nL ret d pc L (.long x :: .int i :: .ref c0 :: st) μ Post := by
  intro l p e s m args below meth c D ad kc H locs ls X hP hS hl
  refine va_last X.1 X.2.1 X.2.2.2.2.2.2.2.1 hP (gm_D X.2.2.2.2.2.2.2.2.1 kc μ) hS c0 1 (gm_at_aj hs) rfl hi dd (fun H1 locs1 hP1 hD1 hS1 => ?_)
  rw [gm_w_aJ hs] at hP1
  exact g l p e s m args below meth c D ad kc H1 locs1 ls X hP1 hS1 hl
theorem go_zast {c0 n : Nat} {i : Int32} {x : Int32} (hs : gm_sh c0 = some (.inl (2, n))) (hi : vp_in i n) (dd : decode cc pc = .ok (.bastore, 1)) (g : Go y cc nL ret d (pc + 1) L st (gm_I μ c0 i.toNatClampNeg (vp_nar .boolean x)) Post) : Go y cc nL ret d pc L (.int x :: .int i :: .ref c0 :: st) μ Post := by
  intro l p e s m args below meth c D ad kc H locs ls X hP hS hl
  refine va_zast X.1 X.2.1 X.2.2.2.2.2.2.2.1 hP (gm_D X.2.2.2.2.2.2.2.2.1 kc μ) hS c0 2 (gm_at_az hs) rfl hi dd (fun H1 locs1 hP1 hD1 hS1 => ?_)
  rw [gm_w_aZ hs] at hP1
  exact g l p e s m args below meth c D ad kc H1 locs1 ls X hP1 hS1 hl
theorem go_alenI {c0 n : Nat} (hs : gm_sh c0 = some (.inl (0, n))) (dd : decode cc pc = .ok (.arraylength, 1)) (g : Go y cc nL ret d (pc + 1) L (.int (nI n) :: st) μ Post) : Go y cc nL ret d pc L (.ref c0 :: st) μ Post := by
  intro l p e s m args below meth c D ad kc H locs ls X hP hS hl
  exact va_alen X.1 X.2.1 X.2.2.2.2.2.2.2.1 hP c0 0 (gm_at_ai hs) rfl rfl dd (g l p e s m args below meth c D ad kc H locs ls X hP hS hl)
theorem go_alenJ {c0 n : Nat} (hs : gm_sh c0 = some (.inl (1, n))) (dd : decode cc pc = .ok (.arraylength, 1)) (g : Go y cc nL ret d (pc + 1) L (.int (nI n) :: st) μ Post) : Go y cc nL ret d pc L (.ref c0 :: st) μ Post := by
  intro l p e s m args below meth c D ad kc H locs ls X hP hS hl
  exact va_alen X.1 X.2.1 X.2.2.2.2.2.2.2.1 hP c0 1 (gm_at_aj hs) rfl rfl dd (g l p e s m args below meth c D ad kc H locs ls X hP hS hl)
theorem go_alenR {c0 n : Nat} (hs : gm_sh c0 = some (.inl (3, n))) (dd : decode cc pc = .ok (.arraylength, 1)) (g : Go y cc nL ret d (pc + 1) L (.int (nI n) :: st) μ Post) : Go y cc nL ret d pc L (.ref c0 :: st) μ Post := by
  intro l p e s m args below meth c D ad kc H locs ls X hP hS hl
  exact va_alen X.1 X.2.1 X.2.2.2.2.2.2.2.1 hP c0 3 (gm_at_ar hs) rfl rfl dd (g l p e s m args below meth c D ad kc H locs ls X hP hS hl)
theorem go_gets0 {idx : Nat} (hf : Cond.fieldLink y.cls idx "CheeseEar" "DIGEST_WARM_NIGHTS" "[I" ∈ lw_tbl) (dd : decode cc pc = .ok (.getstatic idx, 3)) (g : Go y cc nL ret d (pc + 3) L (.ref 81 :: st) μ Post) : Go y cc nL ret d pc L st μ Post := by
  intro l p e s m args below meth c D ad kc H locs ls X hP hS hl
  exact va_gets X.1 X.2.1 (X.2.2.2.2.2.2.2.2.2.1).1 hS X.2.2.2.2.1 (gm_hw X.2.2.2.2.2.1 hf rfl) (fun _ h9 => h9) dd (g l p e s m args below meth c D ad kc H locs ls X hP hS hl)
theorem go_sald0 {i : Int32} (hi : vp_in i 4) (dd : decode cc pc = .ok (.iaload, 1)) (g : Go y cc nL ret d (pc + 1) L (.int (gm_W1 i.toNatClampNeg) :: st) μ Post) : Go y cc nL ret d pc L (.int i :: .ref 81 :: st) μ Post := by
  intro l p e s m args below meth c D ad kc H locs ls X hP hS hl
  exact va_ti X.1 X.2.1 (X.2.2.2.2.2.2.2.2.2.1).2.1 hS hi rfl dd (g l p e s m args below meth c D ad kc H locs ls X hP hS hl)
theorem go_slen0 (dd : decode cc pc = .ok (.arraylength, 1)) (g : Go y cc nL ret d (pc + 1) L (.int 4 :: st) μ Post) : Go y cc nL ret d pc L (.ref 81 :: st) μ Post := by
  intro l p e s m args below meth c D ad kc H locs ls X hP hS hl
  exact va_tlen X.1 X.2.1 (X.2.2.2.2.2.2.2.2.2.1).2.1 hS rfl dd (g l p e s m args below meth c D ad kc H locs ls X hP hS hl)
theorem go_gets1 {idx : Nat} (hf : Cond.fieldLink y.cls idx "CheeseEar" "DIGEST_AT_NIGHTS" "[I" ∈ lw_tbl) (dd : decode cc pc = .ok (.getstatic idx, 3)) (g : Go y cc nL ret d (pc + 3) L (.ref 82 :: st) μ Post) : Go y cc nL ret d pc L st μ Post := by
  intro l p e s m args below meth c D ad kc H locs ls X hP hS hl
  exact va_gets X.1 X.2.1 (X.2.2.2.2.2.2.2.2.2.1).2.2.1 hS X.2.2.2.2.1 (gm_hw X.2.2.2.2.2.1 hf rfl) (fun _ h9 => h9) dd (g l p e s m args below meth c D ad kc H locs ls X hP hS hl)
theorem go_sald1 {i : Int32} (hi : vp_in i 4) (dd : decode cc pc = .ok (.iaload, 1)) (g : Go y cc nL ret d (pc + 1) L (.int (gm_W2 i.toNatClampNeg) :: st) μ Post) : Go y cc nL ret d pc L (.int i :: .ref 82 :: st) μ Post := by
  intro l p e s m args below meth c D ad kc H locs ls X hP hS hl
  exact va_ti X.1 X.2.1 (X.2.2.2.2.2.2.2.2.2.1).2.2.2 hS hi rfl dd (g l p e s m args below meth c D ad kc H locs ls X hP hS hl)
theorem go_slen1 (dd : decode cc pc = .ok (.arraylength, 1)) (g : Go y cc nL ret d (pc + 1) L (.int 4 :: st) μ Post) : Go y cc nL ret d pc L (.ref 82 :: st) μ Post := by
  intro l p e s m args below meth c D ad kc H locs ls X hP hS hl
  exact va_tlen X.1 X.2.1 (X.2.2.2.2.2.2.2.2.2.1).2.2.2 hS rfl dd (g l p e s m args below meth c D ad kc H locs ls X hP hS hl)
theorem gm_blind {D : va_G} {ad : Nat → Nat} {kc : Nat → ClassId} {μ : gm_M} {As : List Value} : FrameBlind (va_Pc As (gm_B D ad kc μ)) := by
  rintro a U g mk ⟨q0, qP, qK, qi, qS, qN⟩
  exact ⟨q0, qP, va_K.moved (u := U) (U := U.calling g mk a) (Vm.Alike.refl U.vm) qK, qi, qS.moved (u := U) (U := U.calling g mk a) (Vm.Alike.refl U.vm) (fun _ _ _ => rfl), gm_N.same (s := U) rfl qN⟩
theorem gm_at_U {y : MethodName} {cc : ByteArray} {nL : Nat} {ret : Option FieldType} {p : Program} {s : State} {m : MethodId} {args : Array Value} {meth : Method} {c : Code} {D : va_G} {ad : Nat → Nat} {kc : Nat → ClassId} {μ : gm_M} {H : Heap} {locs : List Loc} (X : gm_X y cc nL ret p s m args meth c D ad kc) (hP : va_P D vwCl (gm_w ad kc μ) H) (hS : va_S (gm_A ad) s.heap H locs) {U : State} (hU : U.heap = H) (hW : s.WarmedH U.vm) : gm_B D ad kc μ U :=
  ⟨by rw [hU]; exact hP, va_K.moved hW.alike X.2.2.2.2.2.2.2.1, X.2.2.2.2.2.2.2.2.1, X.2.2.2.2.2.2.2.2.2.1.moved hW.alike (fun a h1 h2 => by rw [hU]; exact hS.2.1 a h1 h2), X.2.2.2.2.2.2.2.2.2.2.warm hW⟩
theorem gm_run {p : Program} {l : Launch} {e : Env} {R : Room} {s : State} {m : MethodId} {args : Array Value} {below : List Frame} {meth : Method} {c : Code} {H : Heap} {locs : List Loc} {Q : State → Prop} {ls : Array Slot} {st0 rest : List Value} {D : va_G} {ad : Nat → Nat} {kc : Nat → ClassId} {P2 : Option Value → gm_M → Prop} {a : Array Value} (hr : va_Run p l e R s m args below meth c H locs 0 0 0 0 (F0 m pc ls st0) rest (gm_q D ad kc P2 a) (gm_A ad)) (hS : va_S (gm_A ad) s.heap H locs)
    (kk : ∀ (r : Option Value) (μ' : gm_M) (H1 : Heap) (locs1 : List Loc), P2 r μ' → va_P D vwCl (gm_w ad kc μ') H1 → va_S (gm_A ad) s.heap H1 locs1 → W p l e R s m args below meth c H1 locs1 0 0 Q (F0 m (pc + 3) ls ((r.map (gm_v ad)).toList ++ rest))) : W p l e R s m args below meth c H locs 0 0 Q (F0 m pc ls st0) := by
  intro T hT X
  obtain ⟨v, st₀, t, T', L, h0, X', hL, e1, e2, ⟨⟨r, μ', hv, hp, hb, hk2⟩, hz, hk⟩, st⟩ := hr T hT X
  have hv : v = r.map (gm_v ad) := by injection hv
  subst hv
  rw [h0] at hz hk
  obtain ⟨t2, a1, b1⟩ := kk r μ' T'.heap (locs ++ L) hp (by rw [e1]; exact hb)
    ⟨Nat.le_trans hS.1 (by rw [e1]; exact hz), fun q h1 h2 => by rw [e1, hk q (Nat.lt_of_lt_of_le h1 hS.1) h2]; exact hS.2.1 q h1 h2, fun q hq => by
      rcases List.mem_append.mp hq with h | h
      · exact hS.2.2 q h
      · exact hL q h⟩ T' rfl X'
  exact ⟨t2, st t2 a1, b1⟩
/-- what a call of y2 wants of the tables -/
def gm_cm (y2 : MethodName) (cc2 : ByteArray) (nL2 : Nat) (ret2 : Option FieldType) (n : Nat) : Prop := Cond.initialized y2.cls ∈ lw_tbl ∧ Cond.code y2 cc2 nL2 ret2 ∈ lw_tbl ∧ (y2.cls ≠ "java/lang/invoke/MethodHandle" ∧ y2.cls ≠ "java/lang/invoke/VarHandle" ∧ (parseMethodDescriptor y2.desc).map (fun d => d.parameters.length) = some n) ∧ nL2 ≤ 21
def gm_cv (y2 : MethodName) (ci : Nat) : Prop := Cond.instanceMethod y2 ∈ lw_tbl ∧ Cond.selects y2.cls y2 y2 ∈ lw_tbl ∧ ∃ (T : u_T) (N : Nat), vwCl[ci]? = some (y2.cls, T, N)
theorem gm_goodIn {y2 : MethodName} {cc2 : ByteArray} {nL2 : Nat} {ret2 : Option FieldType} (h : Cond.code y2 cc2 nL2 ret2 ∈ lw_tbl) : GoodIn gm_tb (Cond.code y2 cc2 nL2 ret2 :: gm_tb) := by
  intro w hw
  have hm : w ∈ gm_tb := by
    rcases List.mem_cons.mp hw with rfl | hw
    · exact List.mem_filter.mpr ⟨h, rfl⟩
    · exact hw
  exact ⟨hm, good_of_word (gm_good w hm)⟩
theorem gm_room {d2 d nL2 : Nat} (h : d2 + 1 ≤ d) (hm : nL2 ≤ 21) : (gm_r d2).frames + 1 ≤ (gm_r d).frames ∧ 8 + (nL2 + 11) + (gm_r d2).locals ≤ (gm_r d).locals := by
  refine ⟨h, ?_⟩
  show 8 + (nL2 + 11) + 40 * d2 ≤ 40 * d
  omega
theorem gm_lroom {m : MethodId} {ls : Array Slot} {rest0 : List Value} (ad : Nat → Nat) {rest : List Value} (h : Nat.ble ((rest.map fun v => v.category).sum) 8 = true) : 2 * (F0 m pc ls rest0).monitorRoom + ((rest.map (gm_v ad)).map fun v => v.category).sum ≤ 8 := lv_room (by rw [gm_sum]; exact Nat.le_of_ble_eq_true h)
theorem gm_back (ad : Nat → Nat) (r : Option Value) (rest : List Value) : (r.map (gm_v ad)).toList ++ rest.map (gm_v ad) = (r.toList ++ rest).map (gm_v ad) := by cases r <;> rfl
theorem go_callV {As rest : List Value} {y2 : MethodName} {cc2 : ByteArray} {nL2 idx n d2 : Nat} {ci c0 : Nat} {ks : List Nat} {ret2 : Option FieldType} {P2 : Option Value → gm_M → Prop} (hc : gm_cm y2 cc2 nL2 ret2 n) (hv : gm_cv y2 ci) (hk : Cond.methodLink y.cls idx y2 ∈ lw_tbl) (hs : gm_sh c0 = some (.inr (ci, ks))) (dd : decode cc pc = .ok (.invokevirtual idx, 3)) (hn : As.length = n) (hd : Nat.ble (d2 + 1) d = true) (hr : Nat.ble ((rest.map fun v => v.category).sum) 8 = true) (hS2 : Sat y2 cc2 nL2 ret2 d2 (.ref c0 :: As) μ P2) (g : ∀ r μ', P2 r μ' → Go y cc nL ret d (pc + 3) L (r.toList ++ rest) μ' Post) : Go y cc nL ret d pc L (As.reverse ++ .ref c0 :: rest) μ Post := by
  intro l p e s m args below meth c D ad kc H locs ls X hP hS hl
  obtain ⟨T9, N9, hcl⟩ := hv.2.2
  refine gm_run (va_runV (As := As.map (gm_v ad)) (rest := rest.map (gm_v ad)) ⟨X.1, X.2.1, X.2.2.2.1, X.2.2.2.2.1, X.2.2.2.2.2.1⟩ (hS2 l D ad kc) (⟨callB_of n X.2.2.2.2.2.1 (gm_goodIn hc.2.1) rfl rfl rfl (gm_hw X.2.2.2.2.2.1 hc.1 rfl) (gm_hw X.2.2.2.2.2.1 hk rfl) hc.2.2.1 (gm_room (Nat.le_of_ble_eq_true hd) hc.2.2.2), gm_hw X.2.2.2.2.2.1 hv.1 rfl, gm_hw X.2.2.2.2.2.1 hv.2.1 rfl⟩) ⟨gm_blind, va_recv X.2.2.2.2.2.2.2.1 hP hcl (gm_at_obj hs), fun U hU hW => ⟨rfl, gm_at_U X hP hS hU hW⟩⟩ rfl (by rw [List.length_map]; exact hn) hl.1 (by show List.map (gm_v ad) (As.reverse ++ .ref c0 :: rest) = (As.map (gm_v ad)).reverse ++ .ref (ad c0) :: rest.map (gm_v ad); rw [List.map_append, List.map_reverse]; rfl) (gm_lroom ad hr) dd ⟨Nat.zero_le _, Nat.zero_le _⟩) hS (fun r μ' H1 locs1 h2 hP1 hS1 => ?_)
  rw [gm_back]
  exact g r μ' h2 l p e s m args below meth c D ad kc H1 locs1 ls X hP1 hS1 hl
theorem go_callVN {host : String} {As rest : List Value} {y2 : MethodName} {cc2 : ByteArray} {nL2 idx n d2 : Nat} {ci c0 : Nat} {ks : List Nat} {ret2 : Option FieldType} {P2 : Option Value → gm_M → Prop} (hc : gm_cm y2 cc2 nL2 ret2 n) (hv : gm_cv y2 ci) (hk : Cond.methodLinkNest y.cls idx y2 host ∈ lw_tbl) (hs : gm_sh c0 = some (.inr (ci, ks))) (dd : decode cc pc = .ok (.invokevirtual idx, 3)) (hn : As.length = n) (hd : Nat.ble (d2 + 1) d = true) (hr : Nat.ble ((rest.map fun v => v.category).sum) 8 = true) (hS2 : Sat y2 cc2 nL2 ret2 d2 (.ref c0 :: As) μ P2) (g : ∀ r μ', P2 r μ' → Go y cc nL ret d (pc + 3) L (r.toList ++ rest) μ' Post) : Go y cc nL ret d pc L (As.reverse ++ .ref c0 :: rest) μ Post := by
  intro l p e s m args below meth c D ad kc H locs ls X hP hS hl
  obtain ⟨T9, N9, hcl⟩ := hv.2.2
  refine gm_run (va_runVN (As := As.map (gm_v ad)) (rest := rest.map (gm_v ad)) ⟨X.1, X.2.1, X.2.2.2.1, X.2.2.2.2.1, X.2.2.2.2.2.1⟩ (hS2 l D ad kc) (⟨va_cnB n X.2.2.2.2.2.1 (gm_goodIn hc.2.1) rfl rfl rfl ((X.2.2.2.2.2.2.2.2.2.2) _ hk rfl) (gm_hw X.2.2.2.2.2.1 hc.1 rfl) hc.2.2.1 (gm_room (Nat.le_of_ble_eq_true hd) hc.2.2.2), gm_hw X.2.2.2.2.2.1 hv.1 rfl, gm_hw X.2.2.2.2.2.1 hv.2.1 rfl⟩) ⟨gm_blind, va_recv X.2.2.2.2.2.2.2.1 hP hcl (gm_at_obj hs), fun U hU hW => ⟨rfl, gm_at_U X hP hS hU hW⟩⟩ rfl (by rw [List.length_map]; exact hn) hl.1 (by show List.map (gm_v ad) (As.reverse ++ .ref c0 :: rest) = (As.map (gm_v ad)).reverse ++ .ref (ad c0) :: rest.map (gm_v ad); rw [List.map_append, List.map_reverse]; rfl) (gm_lroom ad hr) dd ⟨Nat.zero_le _, Nat.zero_le _⟩) hS (fun r μ' H1 locs1 h2 hP1 hS1 => ?_)
  rw [gm_back]
  exact g r μ' h2 l p e s m args below meth c D ad kc H1 locs1 ls X hP1 hS1 hl
theorem go_callS {As rest : List Value} {y2 : MethodName} {cc2 : ByteArray} {nL2 idx n d2 : Nat} {ret2 : Option FieldType} {P2 : Option Value → gm_M → Prop} (hc : gm_cm y2 cc2 nL2 ret2 n) (hv : Cond.static y2 ∈ lw_tbl) (hk : Cond.methodLink y.cls idx y2 ∈ lw_tbl) (dd : decode cc pc = .ok (.invokestatic idx, 3)) (hn : As.length = n) (hd : Nat.ble (d2 + 1) d = true) (hr : Nat.ble ((rest.map fun v => v.category).sum) 8 = true) (hS2 : Sat y2 cc2 nL2 ret2 d2 As μ P2) (g : ∀ r μ', P2 r μ' → Go y cc nL ret d (pc + 3) L (r.toList ++ rest) μ' Post) : Go y cc nL ret d pc L (As.reverse ++ rest) μ Post := by
  intro l p e s m args below meth c D ad kc H locs ls X hP hS hl
  refine gm_run (va_runS (As := As.map (gm_v ad)) (rest := rest.map (gm_v ad)) ⟨X.1, X.2.1, X.2.2.2.1, X.2.2.2.2.1, X.2.2.2.2.2.1⟩ (hS2 l D ad kc) (⟨callB_of n X.2.2.2.2.2.1 (gm_goodIn hc.2.1) rfl rfl rfl (gm_hw X.2.2.2.2.2.1 hc.1 rfl) (gm_hw X.2.2.2.2.2.1 hk rfl) hc.2.2.1 (gm_room (Nat.le_of_ble_eq_true hd) hc.2.2.2), gm_hw X.2.2.2.2.2.1 hv rfl⟩) ⟨gm_blind, fun U hU hW => ⟨rfl, gm_at_U X hP hS hU hW⟩⟩ rfl (by rw [List.length_map]; exact hn) hl.1 (by show List.map (gm_v ad) (As.reverse ++ rest) = (As.map (gm_v ad)).reverse ++ rest.map (gm_v ad); rw [List.map_append, List.map_reverse]) (gm_lroom ad hr) dd ⟨Nat.zero_le _, Nat.zero_le _⟩) hS (fun r μ' H1 locs1 h2 hP1 hS1 => ?_)
  rw [gm_back]
  exact g r μ' h2 l p e s m args below meth c D ad kc H1 locs1 ls X hP1 hS1 hl
theorem go_callSN {host : String} {As rest : List Value} {y2 : MethodName} {cc2 : ByteArray} {nL2 idx n d2 : Nat} {ret2 : Option FieldType} {P2 : Option Value → gm_M → Prop} (hc : gm_cm y2 cc2 nL2 ret2 n) (hv : Cond.static y2 ∈ lw_tbl) (hk : Cond.methodLinkNest y.cls idx y2 host ∈ lw_tbl) (dd : decode cc pc = .ok (.invokestatic idx, 3)) (hn : As.length = n) (hd : Nat.ble (d2 + 1) d = true) (hr : Nat.ble ((rest.map fun v => v.category).sum) 8 = true) (hS2 : Sat y2 cc2 nL2 ret2 d2 As μ P2) (g : ∀ r μ', P2 r μ' → Go y cc nL ret d (pc + 3) L (r.toList ++ rest) μ' Post) : Go y cc nL ret d pc L (As.reverse ++ rest) μ Post := by
  intro l p e s m args below meth c D ad kc H locs ls X hP hS hl
  refine gm_run (va_runSN (As := As.map (gm_v ad)) (rest := rest.map (gm_v ad)) ⟨X.1, X.2.1, X.2.2.2.1, X.2.2.2.2.1, X.2.2.2.2.2.1⟩ (hS2 l D ad kc) (⟨va_cnB n X.2.2.2.2.2.1 (gm_goodIn hc.2.1) rfl rfl rfl ((X.2.2.2.2.2.2.2.2.2.2) _ hk rfl) (gm_hw X.2.2.2.2.2.1 hc.1 rfl) hc.2.2.1 (gm_room (Nat.le_of_ble_eq_true hd) hc.2.2.2), gm_hw X.2.2.2.2.2.1 hv rfl, trivial⟩) ⟨gm_blind, fun U hU hW => ⟨rfl, gm_at_U X hP hS hU hW⟩⟩ rfl (by rw [List.length_map]; exact hn) hl.1 (by show List.map (gm_v ad) (As.reverse ++ rest) = (As.map (gm_v ad)).reverse ++ rest.map (gm_v ad); rw [List.map_append, List.map_reverse]) (gm_lroom ad hr) dd ⟨Nat.zero_le _, Nat.zero_le _⟩) hS (fun r μ' H1 locs1 h2 hP1 hS1 => ?_)
  rw [gm_back]
  exact g r μ' h2 l p e s m args below meth c D ad kc H1 locs1 ls X hP1 hS1 hl
end gmRows
end

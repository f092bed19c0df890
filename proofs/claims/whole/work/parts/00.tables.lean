-- ===== PART A: goes FIRST, ahead of the names: the tables' words, and 'selects' of the private methods out of them =====
/-- a private method of a class that the tables say can be made, by its rows of tables_1 -/
def lw_okq (q : MethodName × Nat) : Prop := (q.1.cls ≠ "java/lang/invoke/MethodHandle" ∧ q.1.cls ≠ "java/lang/invoke/VarHandle") ∧ Cond.instantiable q.1.cls q.2 ∈ tables_1 ∧ Cond.privateMethod q.1 ∈ tables_1 ∧ Cond.instanceMethod q.1 ∈ tables_1
theorem lw_p0 : lw_okq (⟨"CutInCopies$Board", "lay", "(IIII)V"⟩, 11) := ⟨⟨by decide +kernel, by decide +kernel⟩, List.mem_of_getElem? (i := 29) (by decide +kernel), List.mem_of_getElem? (i := 224) (by decide +kernel), List.mem_of_getElem? (i := 225) (by decide +kernel)⟩
theorem lw_p1 : lw_okq (⟨"CutInCopies", "refuse", "(I)I"⟩, 8) := ⟨⟨by decide +kernel, by decide +kernel⟩, List.mem_of_getElem? (i := 21) (by decide +kernel), List.mem_of_getElem? (i := 264) (by decide +kernel), List.mem_of_getElem? (i := 265) (by decide +kernel)⟩
theorem lw_p2 : lw_okq (⟨"CutInCopies", "faultOfLetters", "()I"⟩, 8) := ⟨⟨by decide +kernel, by decide +kernel⟩, List.mem_of_getElem? (i := 21) (by decide +kernel), List.mem_of_getElem? (i := 280) (by decide +kernel), List.mem_of_getElem? (i := 281) (by decide +kernel)⟩
theorem lw_p3 : lw_okq (⟨"CutInCopies$Letters", "firstWrongFrom", "(I)I"⟩, 4) := ⟨⟨by decide +kernel, by decide +kernel⟩, List.mem_of_getElem? (i := 128) (by decide +kernel), List.mem_of_getElem? (i := 288) (by decide +kernel), List.mem_of_getElem? (i := 289) (by decide +kernel)⟩
theorem lw_p4 : lw_okq (⟨"CutInCopies", "canBe", "(III)Z"⟩, 8) := ⟨⟨by decide +kernel, by decide +kernel⟩, List.mem_of_getElem? (i := 21) (by decide +kernel), List.mem_of_getElem? (i := 299) (by decide +kernel), List.mem_of_getElem? (i := 300) (by decide +kernel)⟩
theorem lw_p5 : lw_okq (⟨"CutInCopies", "areWays", "(II)Z"⟩, 8) := ⟨⟨by decide +kernel, by decide +kernel⟩, List.mem_of_getElem? (i := 21) (by decide +kernel), List.mem_of_getElem? (i := 314) (by decide +kernel), List.mem_of_getElem? (i := 315) (by decide +kernel)⟩
theorem lw_p6 : lw_okq (⟨"CutInCopies", "runStatement", "(I)V"⟩, 8) := ⟨⟨by decide +kernel, by decide +kernel⟩, List.mem_of_getElem? (i := 21) (by decide +kernel), List.mem_of_getElem? (i := 327) (by decide +kernel), List.mem_of_getElem? (i := 328) (by decide +kernel)⟩
theorem lw_p7 : lw_okq (⟨"CutInCopies$Board", "touchAround", "(II)V"⟩, 11) := ⟨⟨by decide +kernel, by decide +kernel⟩, List.mem_of_getElem? (i := 29) (by decide +kernel), List.mem_of_getElem? (i := 506) (by decide +kernel), List.mem_of_getElem? (i := 507) (by decide +kernel)⟩
theorem lw_p8 : lw_okq (⟨"CutInCopies$Board", "touch", "(II)V"⟩, 11) := ⟨⟨by decide +kernel, by decide +kernel⟩, List.mem_of_getElem? (i := 29) (by decide +kernel), List.mem_of_getElem? (i := 510) (by decide +kernel), List.mem_of_getElem? (i := 511) (by decide +kernel)⟩
theorem lw_p9 : lw_okq (⟨"CutInCopies", "refuseFar", "(I)J"⟩, 8) := ⟨⟨by decide +kernel, by decide +kernel⟩, List.mem_of_getElem? (i := 21) (by decide +kernel), List.mem_of_getElem? (i := 544) (by decide +kernel), List.mem_of_getElem? (i := 545) (by decide +kernel)⟩
theorem lw_p10 : lw_okq (⟨"CutInCopies$Rule", "startWith", "(I)V"⟩, 5) := ⟨⟨by decide +kernel, by decide +kernel⟩, List.mem_of_getElem? (i := 78) (by decide +kernel), List.mem_of_getElem? (i := 575) (by decide +kernel), List.mem_of_getElem? (i := 576) (by decide +kernel)⟩
theorem lw_p11 : lw_okq (⟨"CutInCopies$Rule", "cutOnce", "()V"⟩, 5) := ⟨⟨by decide +kernel, by decide +kernel⟩, List.mem_of_getElem? (i := 78) (by decide +kernel), List.mem_of_getElem? (i := 579) (by decide +kernel), List.mem_of_getElem? (i := 580) (by decide +kernel)⟩
theorem lw_p12 : lw_okq (⟨"CutInCopies$Rule", "addFirstDigit", "()V"⟩, 5) := ⟨⟨by decide +kernel, by decide +kernel⟩, List.mem_of_getElem? (i := 78) (by decide +kernel), List.mem_of_getElem? (i := 603) (by decide +kernel), List.mem_of_getElem? (i := 604) (by decide +kernel)⟩
theorem lw_p13 : lw_okq (⟨"CutInCopies$Rule", "waysBehind", "(I)I"⟩, 5) := ⟨⟨by decide +kernel, by decide +kernel⟩, List.mem_of_getElem? (i := 78) (by decide +kernel), List.mem_of_getElem? (i := 615) (by decide +kernel), List.mem_of_getElem? (i := 616) (by decide +kernel)⟩
theorem lw_p14 : lw_okq (⟨"CutInCopies$Shapes", "isIn", "(II)Z"⟩, 4) := ⟨⟨by decide +kernel, by decide +kernel⟩, List.mem_of_getElem? (i := 101) (by decide +kernel), List.mem_of_getElem? (i := 684) (by decide +kernel), List.mem_of_getElem? (i := 685) (by decide +kernel)⟩
theorem lw_p15 : lw_okq (⟨"CutInCopiesModel", "lays", "(III)V"⟩, 43) := ⟨⟨by decide +kernel, by decide +kernel⟩, List.mem_of_getElem? (i := 860) (by decide +kernel), List.mem_of_getElem? (i := 866) (by decide +kernel), List.mem_of_getElem? (i := 867) (by decide +kernel)⟩
def lw_privs_1 : List (MethodName × Nat) := [(⟨"CutInCopies$Board", "lay", "(IIII)V"⟩, 11), (⟨"CutInCopies", "refuse", "(I)I"⟩, 8), (⟨"CutInCopies", "faultOfLetters", "()I"⟩, 8), (⟨"CutInCopies$Letters", "firstWrongFrom", "(I)I"⟩, 4), (⟨"CutInCopies", "canBe", "(III)Z"⟩, 8), (⟨"CutInCopies", "areWays", "(II)Z"⟩, 8), (⟨"CutInCopies", "runStatement", "(I)V"⟩, 8), (⟨"CutInCopies$Board", "touchAround", "(II)V"⟩, 11), (⟨"CutInCopies$Board", "touch", "(II)V"⟩, 11), (⟨"CutInCopies", "refuseFar", "(I)J"⟩, 8), (⟨"CutInCopies$Rule", "startWith", "(I)V"⟩, 5), (⟨"CutInCopies$Rule", "cutOnce", "()V"⟩, 5), (⟨"CutInCopies$Rule", "addFirstDigit", "()V"⟩, 5), (⟨"CutInCopies$Rule", "waysBehind", "(I)I"⟩, 5), (⟨"CutInCopies$Shapes", "isIn", "(II)Z"⟩, 4), (⟨"CutInCopiesModel", "lays", "(III)V"⟩, 43)]
theorem lw_r1 : ∀ q ∈ lw_privs_1, lw_okq q := List.forall_mem_cons.mpr ⟨lw_p0, List.forall_mem_cons.mpr ⟨lw_p1, List.forall_mem_cons.mpr ⟨lw_p2, List.forall_mem_cons.mpr ⟨lw_p3, List.forall_mem_cons.mpr ⟨lw_p4, List.forall_mem_cons.mpr ⟨lw_p5, List.forall_mem_cons.mpr ⟨lw_p6, List.forall_mem_cons.mpr ⟨lw_p7, List.forall_mem_cons.mpr ⟨lw_p8, List.forall_mem_cons.mpr ⟨lw_p9, List.forall_mem_cons.mpr ⟨lw_p10, List.forall_mem_cons.mpr ⟨lw_p11, List.forall_mem_cons.mpr ⟨lw_p12, List.forall_mem_cons.mpr ⟨lw_p13, List.forall_mem_cons.mpr ⟨lw_p14, List.forall_mem_cons.mpr ⟨lw_p15, fun _ h => absurd h List.not_mem_nil⟩⟩⟩⟩⟩⟩⟩⟩⟩⟩⟩⟩⟩⟩⟩⟩
theorem lw_p16 : lw_okq (⟨"CutInCopiesModel", "side", "()I"⟩, 43) := ⟨⟨by decide +kernel, by decide +kernel⟩, List.mem_of_getElem? (i := 860) (by decide +kernel), List.mem_of_getElem? (i := 870) (by decide +kernel), List.mem_of_getElem? (i := 871) (by decide +kernel)⟩
theorem lw_p17 : lw_okq (⟨"CutInCopiesModel", "cuts", "(IIIII)V"⟩, 43) := ⟨⟨by decide +kernel, by decide +kernel⟩, List.mem_of_getElem? (i := 860) (by decide +kernel), List.mem_of_getElem? (i := 874) (by decide +kernel), List.mem_of_getElem? (i := 875) (by decide +kernel)⟩
theorem lw_p18 : lw_okq (⟨"CutInCopiesModel", "rulesAtFirst", "()V"⟩, 43) := ⟨⟨by decide +kernel, by decide +kernel⟩, List.mem_of_getElem? (i := 860) (by decide +kernel), List.mem_of_getElem? (i := 878) (by decide +kernel), List.mem_of_getElem? (i := 879) (by decide +kernel)⟩
theorem lw_p19 : lw_okq (⟨"CutInCopiesModel", "refused", "(I)I"⟩, 43) := ⟨⟨by decide +kernel, by decide +kernel⟩, List.mem_of_getElem? (i := 860) (by decide +kernel), List.mem_of_getElem? (i := 1016) (by decide +kernel), List.mem_of_getElem? (i := 1017) (by decide +kernel)⟩
theorem lw_p20 : lw_okq (⟨"CutInCopiesModel", "isCell", "(II)Z"⟩, 43) := ⟨⟨by decide +kernel, by decide +kernel⟩, List.mem_of_getElem? (i := 860) (by decide +kernel), List.mem_of_getElem? (i := 1027) (by decide +kernel), List.mem_of_getElem? (i := 1028) (by decide +kernel)⟩
theorem lw_p21 : lw_okq (⟨"CutInCopiesModel", "cell", "(II)I"⟩, 43) := ⟨⟨by decide +kernel, by decide +kernel⟩, List.mem_of_getElem? (i := 860) (by decide +kernel), List.mem_of_getElem? (i := 1031) (by decide +kernel), List.mem_of_getElem? (i := 1032) (by decide +kernel)⟩
theorem lw_p22 : lw_okq (⟨"CutInCopiesModel", "touching", "(I)I"⟩, 43) := ⟨⟨by decide +kernel, by decide +kernel⟩, List.mem_of_getElem? (i := 860) (by decide +kernel), List.mem_of_getElem? (i := 1039) (by decide +kernel), List.mem_of_getElem? (i := 1040) (by decide +kernel)⟩
theorem lw_p23 : lw_okq (⟨"CutInCopiesModel", "isTouching", "(II)Z"⟩, 43) := ⟨⟨by decide +kernel, by decide +kernel⟩, List.mem_of_getElem? (i := 860) (by decide +kernel), List.mem_of_getElem? (i := 1043) (by decide +kernel), List.mem_of_getElem? (i := 1044) (by decide +kernel)⟩
theorem lw_p24 : lw_okq (⟨"CutInCopiesModel", "areBeside", "(IIIIII)Z"⟩, 43) := ⟨⟨by decide +kernel, by decide +kernel⟩, List.mem_of_getElem? (i := 860) (by decide +kernel), List.mem_of_getElem? (i := 1047) (by decide +kernel), List.mem_of_getElem? (i := 1048) (by decide +kernel)⟩
theorem lw_p25 : lw_okq (⟨"CutInCopiesModel", "isWithin", "(IIIII)Z"⟩, 43) := ⟨⟨by decide +kernel, by decide +kernel⟩, List.mem_of_getElem? (i := 860) (by decide +kernel), List.mem_of_getElem? (i := 1055) (by decide +kernel), List.mem_of_getElem? (i := 1056) (by decide +kernel)⟩
theorem lw_p26 : lw_okq (⟨"CutInCopiesModel", "inWay", "(I)I"⟩, 43) := ⟨⟨by decide +kernel, by decide +kernel⟩, List.mem_of_getElem? (i := 860) (by decide +kernel), List.mem_of_getElem? (i := 1065) (by decide +kernel), List.mem_of_getElem? (i := 1066) (by decide +kernel)⟩
theorem lw_p27 : lw_okq (⟨"CutInCopiesModel", "edge", "()I"⟩, 43) := ⟨⟨by decide +kernel, by decide +kernel⟩, List.mem_of_getElem? (i := 860) (by decide +kernel), List.mem_of_getElem? (i := 1069) (by decide +kernel), List.mem_of_getElem? (i := 1070) (by decide +kernel)⟩
theorem lw_p28 : lw_okq (⟨"CutInCopiesModel", "refusedFar", "(I)J"⟩, 43) := ⟨⟨by decide +kernel, by decide +kernel⟩, List.mem_of_getElem? (i := 860) (by decide +kernel), List.mem_of_getElem? (i := 1081) (by decide +kernel), List.mem_of_getElem? (i := 1082) (by decide +kernel)⟩
theorem lw_p29 : lw_okq (⟨"CutInCopiesModel", "begins", "(I)V"⟩, 43) := ⟨⟨by decide +kernel, by decide +kernel⟩, List.mem_of_getElem? (i := 860) (by decide +kernel), List.mem_of_getElem? (i := 1101) (by decide +kernel), List.mem_of_getElem? (i := 1102) (by decide +kernel)⟩
theorem lw_p30 : lw_okq (⟨"CutInCopiesModel", "fallsAll", "()V"⟩, 43) := ⟨⟨by decide +kernel, by decide +kernel⟩, List.mem_of_getElem? (i := 860) (by decide +kernel), List.mem_of_getElem? (i := 1105) (by decide +kernel), List.mem_of_getElem? (i := 1106) (by decide +kernel)⟩
theorem lw_p31 : lw_okq (⟨"CutInCopiesModel", "leastAlike", "()I"⟩, 43) := ⟨⟨by decide +kernel, by decide +kernel⟩, List.mem_of_getElem? (i := 860) (by decide +kernel), List.mem_of_getElem? (i := 1117) (by decide +kernel), List.mem_of_getElem? (i := 1118) (by decide +kernel)⟩
def lw_privs_2 : List (MethodName × Nat) := [(⟨"CutInCopiesModel", "side", "()I"⟩, 43), (⟨"CutInCopiesModel", "cuts", "(IIIII)V"⟩, 43), (⟨"CutInCopiesModel", "rulesAtFirst", "()V"⟩, 43), (⟨"CutInCopiesModel", "refused", "(I)I"⟩, 43), (⟨"CutInCopiesModel", "isCell", "(II)Z"⟩, 43), (⟨"CutInCopiesModel", "cell", "(II)I"⟩, 43), (⟨"CutInCopiesModel", "touching", "(I)I"⟩, 43), (⟨"CutInCopiesModel", "isTouching", "(II)Z"⟩, 43), (⟨"CutInCopiesModel", "areBeside", "(IIIIII)Z"⟩, 43), (⟨"CutInCopiesModel", "isWithin", "(IIIII)Z"⟩, 43), (⟨"CutInCopiesModel", "inWay", "(I)I"⟩, 43), (⟨"CutInCopiesModel", "edge", "()I"⟩, 43), (⟨"CutInCopiesModel", "refusedFar", "(I)J"⟩, 43), (⟨"CutInCopiesModel", "begins", "(I)V"⟩, 43), (⟨"CutInCopiesModel", "fallsAll", "()V"⟩, 43), (⟨"CutInCopiesModel", "leastAlike", "()I"⟩, 43)]
theorem lw_r2 : ∀ q ∈ lw_privs_2, lw_okq q := List.forall_mem_cons.mpr ⟨lw_p16, List.forall_mem_cons.mpr ⟨lw_p17, List.forall_mem_cons.mpr ⟨lw_p18, List.forall_mem_cons.mpr ⟨lw_p19, List.forall_mem_cons.mpr ⟨lw_p20, List.forall_mem_cons.mpr ⟨lw_p21, List.forall_mem_cons.mpr ⟨lw_p22, List.forall_mem_cons.mpr ⟨lw_p23, List.forall_mem_cons.mpr ⟨lw_p24, List.forall_mem_cons.mpr ⟨lw_p25, List.forall_mem_cons.mpr ⟨lw_p26, List.forall_mem_cons.mpr ⟨lw_p27, List.forall_mem_cons.mpr ⟨lw_p28, List.forall_mem_cons.mpr ⟨lw_p29, List.forall_mem_cons.mpr ⟨lw_p30, List.forall_mem_cons.mpr ⟨lw_p31, fun _ h => absurd h List.not_mem_nil⟩⟩⟩⟩⟩⟩⟩⟩⟩⟩⟩⟩⟩⟩⟩⟩
theorem lw_p32 : lw_okq (⟨"CutInCopiesModel", "leads", "(I)V"⟩, 43) := ⟨⟨by decide +kernel, by decide +kernel⟩, List.mem_of_getElem? (i := 860) (by decide +kernel), List.mem_of_getElem? (i := 1121) (by decide +kernel), List.mem_of_getElem? (i := 1122) (by decide +kernel)⟩
theorem lw_p33 : lw_okq (⟨"CutInCopiesModel", "comesPoint", "(IIII)V"⟩, 43) := ⟨⟨by decide +kernel, by decide +kernel⟩, List.mem_of_getElem? (i := 860) (by decide +kernel), List.mem_of_getElem? (i := 1147) (by decide +kernel), List.mem_of_getElem? (i := 1148) (by decide +kernel)⟩
theorem lw_p34 : lw_okq (⟨"CutInCopiesModel", "isPoint", "(I)Z"⟩, 43) := ⟨⟨by decide +kernel, by decide +kernel⟩, List.mem_of_getElem? (i := 860) (by decide +kernel), List.mem_of_getElem? (i := 1155) (by decide +kernel), List.mem_of_getElem? (i := 1156) (by decide +kernel)⟩
theorem lw_p35 : lw_okq (⟨"CutInCopiesModel", "valuationOf", "(II)I"⟩, 43) := ⟨⟨by decide +kernel, by decide +kernel⟩, List.mem_of_getElem? (i := 860) (by decide +kernel), List.mem_of_getElem? (i := 1160) (by decide +kernel), List.mem_of_getElem? (i := 1161) (by decide +kernel)⟩
theorem lw_p36 : lw_okq (⟨"CutInCopiesModel", "areThree", "(III)Z"⟩, 43) := ⟨⟨by decide +kernel, by decide +kernel⟩, List.mem_of_getElem? (i := 860) (by decide +kernel), List.mem_of_getElem? (i := 1185) (by decide +kernel), List.mem_of_getElem? (i := 1186) (by decide +kernel)⟩
theorem lw_p37 : lw_okq (⟨"CutInCopiesModel", "comesTriangle", "(IIII)V"⟩, 43) := ⟨⟨by decide +kernel, by decide +kernel⟩, List.mem_of_getElem? (i := 860) (by decide +kernel), List.mem_of_getElem? (i := 1189) (by decide +kernel), List.mem_of_getElem? (i := 1190) (by decide +kernel)⟩
theorem lw_p38 : lw_okq (⟨"CutInCopiesModel", "isTriangle", "(I)Z"⟩, 43) := ⟨⟨by decide +kernel, by decide +kernel⟩, List.mem_of_getElem? (i := 860) (by decide +kernel), List.mem_of_getElem? (i := 1197) (by decide +kernel), List.mem_of_getElem? (i := 1198) (by decide +kernel)⟩
theorem lw_p39 : lw_okq (⟨"CutInCopiesModel", "coloursOf", "(I)I"⟩, 43) := ⟨⟨by decide +kernel, by decide +kernel⟩, List.mem_of_getElem? (i := 860) (by decide +kernel), List.mem_of_getElem? (i := 1201) (by decide +kernel), List.mem_of_getElem? (i := 1202) (by decide +kernel)⟩
theorem lw_p40 : lw_okq (⟨"CutInCopiesModel", "areaValuation", "(I)I"⟩, 43) := ⟨⟨by decide +kernel, by decide +kernel⟩, List.mem_of_getElem? (i := 860) (by decide +kernel), List.mem_of_getElem? (i := 1208) (by decide +kernel), List.mem_of_getElem? (i := 1209) (by decide +kernel)⟩
theorem lw_p41 : lw_okq (⟨"CutInCopiesModel", "areaOf", "(I)V"⟩, 43) := ⟨⟨by decide +kernel, by decide +kernel⟩, List.mem_of_getElem? (i := 860) (by decide +kernel), List.mem_of_getElem? (i := 1212) (by decide +kernel), List.mem_of_getElem? (i := 1213) (by decide +kernel)⟩
theorem lw_p42 : lw_okq (⟨"CutInCopiesModel", "more", "(III)J"⟩, 43) := ⟨⟨by decide +kernel, by decide +kernel⟩, List.mem_of_getElem? (i := 860) (by decide +kernel), List.mem_of_getElem? (i := 1216) (by decide +kernel), List.mem_of_getElem? (i := 1217) (by decide +kernel)⟩
theorem lw_p43 : lw_okq (⟨"CutInCopiesModel", "over", "(II)J"⟩, 43) := ⟨⟨by decide +kernel, by decide +kernel⟩, List.mem_of_getElem? (i := 860) (by decide +kernel), List.mem_of_getElem? (i := 1220) (by decide +kernel), List.mem_of_getElem? (i := 1221) (by decide +kernel)⟩
theorem lw_p44 : lw_okq (⟨"CutInCopiesModel", "under", "(II)J"⟩, 43) := ⟨⟨by decide +kernel, by decide +kernel⟩, List.mem_of_getElem? (i := 860) (by decide +kernel), List.mem_of_getElem? (i := 1224) (by decide +kernel), List.mem_of_getElem? (i := 1225) (by decide +kernel)⟩
theorem lw_p45 : lw_okq (⟨"CutInCopiesModel", "belowOf", "(III)J"⟩, 43) := ⟨⟨by decide +kernel, by decide +kernel⟩, List.mem_of_getElem? (i := 860) (by decide +kernel), List.mem_of_getElem? (i := 1228) (by decide +kernel), List.mem_of_getElem? (i := 1229) (by decide +kernel)⟩
theorem lw_p46 : lw_okq (⟨"CutInCopiesModel", "tells", "(JJ)V"⟩, 43) := ⟨⟨by decide +kernel, by decide +kernel⟩, List.mem_of_getElem? (i := 860) (by decide +kernel), List.mem_of_getElem? (i := 1232) (by decide +kernel), List.mem_of_getElem? (i := 1233) (by decide +kernel)⟩
theorem lw_p47 : lw_okq (⟨"CutInCopiesModel", "isSet", "(I)Z"⟩, 43) := ⟨⟨by decide +kernel, by decide +kernel⟩, List.mem_of_getElem? (i := 860) (by decide +kernel), List.mem_of_getElem? (i := 1246) (by decide +kernel), List.mem_of_getElem? (i := 1247) (by decide +kernel)⟩
def lw_privs_3 : List (MethodName × Nat) := [(⟨"CutInCopiesModel", "leads", "(I)V"⟩, 43), (⟨"CutInCopiesModel", "comesPoint", "(IIII)V"⟩, 43), (⟨"CutInCopiesModel", "isPoint", "(I)Z"⟩, 43), (⟨"CutInCopiesModel", "valuationOf", "(II)I"⟩, 43), (⟨"CutInCopiesModel", "areThree", "(III)Z"⟩, 43), (⟨"CutInCopiesModel", "comesTriangle", "(IIII)V"⟩, 43), (⟨"CutInCopiesModel", "isTriangle", "(I)Z"⟩, 43), (⟨"CutInCopiesModel", "coloursOf", "(I)I"⟩, 43), (⟨"CutInCopiesModel", "areaValuation", "(I)I"⟩, 43), (⟨"CutInCopiesModel", "areaOf", "(I)V"⟩, 43), (⟨"CutInCopiesModel", "more", "(III)J"⟩, 43), (⟨"CutInCopiesModel", "over", "(II)J"⟩, 43), (⟨"CutInCopiesModel", "under", "(II)J"⟩, 43), (⟨"CutInCopiesModel", "belowOf", "(III)J"⟩, 43), (⟨"CutInCopiesModel", "tells", "(JJ)V"⟩, 43), (⟨"CutInCopiesModel", "isSet", "(I)Z"⟩, 43)]
theorem lw_r3 : ∀ q ∈ lw_privs_3, lw_okq q := List.forall_mem_cons.mpr ⟨lw_p32, List.forall_mem_cons.mpr ⟨lw_p33, List.forall_mem_cons.mpr ⟨lw_p34, List.forall_mem_cons.mpr ⟨lw_p35, List.forall_mem_cons.mpr ⟨lw_p36, List.forall_mem_cons.mpr ⟨lw_p37, List.forall_mem_cons.mpr ⟨lw_p38, List.forall_mem_cons.mpr ⟨lw_p39, List.forall_mem_cons.mpr ⟨lw_p40, List.forall_mem_cons.mpr ⟨lw_p41, List.forall_mem_cons.mpr ⟨lw_p42, List.forall_mem_cons.mpr ⟨lw_p43, List.forall_mem_cons.mpr ⟨lw_p44, List.forall_mem_cons.mpr ⟨lw_p45, List.forall_mem_cons.mpr ⟨lw_p46, List.forall_mem_cons.mpr ⟨lw_p47, fun _ h => absurd h List.not_mem_nil⟩⟩⟩⟩⟩⟩⟩⟩⟩⟩⟩⟩⟩⟩⟩⟩
theorem lw_p48 : lw_okq (⟨"CutInCopiesModel", "isGreat", "()Z"⟩, 43) := ⟨⟨by decide +kernel, by decide +kernel⟩, List.mem_of_getElem? (i := 860) (by decide +kernel), List.mem_of_getElem? (i := 1250) (by decide +kernel), List.mem_of_getElem? (i := 1251) (by decide +kernel)⟩
theorem lw_p49 : lw_okq (⟨"CutInCopiesModel", "evens", "(I)I"⟩, 43) := ⟨⟨by decide +kernel, by decide +kernel⟩, List.mem_of_getElem? (i := 860) (by decide +kernel), List.mem_of_getElem? (i := 1259) (by decide +kernel), List.mem_of_getElem? (i := 1260) (by decide +kernel)⟩
theorem lw_p50 : lw_okq (⟨"CutInCopiesModel", "rainbows", "(I)I"⟩, 43) := ⟨⟨by decide +kernel, by decide +kernel⟩, List.mem_of_getElem? (i := 860) (by decide +kernel), List.mem_of_getElem? (i := 1263) (by decide +kernel), List.mem_of_getElem? (i := 1264) (by decide +kernel)⟩
theorem lw_p51 : lw_okq (⟨"CutInCopiesModel", "isAlike", "(I)Z"⟩, 43) := ⟨⟨by decide +kernel, by decide +kernel⟩, List.mem_of_getElem? (i := 860) (by decide +kernel), List.mem_of_getElem? (i := 1267) (by decide +kernel), List.mem_of_getElem? (i := 1268) (by decide +kernel)⟩
theorem lw_p52 : lw_okq (⟨"CutInCopiesModel", "floatOf", "(I)F"⟩, 43) := ⟨⟨by decide +kernel, by decide +kernel⟩, List.mem_of_getElem? (i := 860) (by decide +kernel), List.mem_of_getElem? (i := 1275) (by decide +kernel), List.mem_of_getElem? (i := 1276) (by decide +kernel)⟩
theorem lw_p53 : lw_okq (⟨"CutInCopiesModel", "statement", "()I"⟩, 43) := ⟨⟨by decide +kernel, by decide +kernel⟩, List.mem_of_getElem? (i := 860) (by decide +kernel), List.mem_of_getElem? (i := 1356) (by decide +kernel), List.mem_of_getElem? (i := 1357) (by decide +kernel)⟩
theorem lw_p54 : lw_okq (⟨"CutInCopiesModel", "done", "(I)I"⟩, 43) := ⟨⟨by decide +kernel, by decide +kernel⟩, List.mem_of_getElem? (i := 860) (by decide +kernel), List.mem_of_getElem? (i := 1368) (by decide +kernel), List.mem_of_getElem? (i := 1369) (by decide +kernel)⟩
theorem lw_p55 : lw_okq (⟨"CutInCopiesModel", "isDone", "(I)Z"⟩, 43) := ⟨⟨by decide +kernel, by decide +kernel⟩, List.mem_of_getElem? (i := 860) (by decide +kernel), List.mem_of_getElem? (i := 1372) (by decide +kernel), List.mem_of_getElem? (i := 1373) (by decide +kernel)⟩
theorem lw_p56 : lw_okq (⟨"CutInCopiesModel", "isRuled", "()Z"⟩, 43) := ⟨⟨by decide +kernel, by decide +kernel⟩, List.mem_of_getElem? (i := 860) (by decide +kernel), List.mem_of_getElem? (i := 1376) (by decide +kernel), List.mem_of_getElem? (i := 1377) (by decide +kernel)⟩
def lw_privs_4 : List (MethodName × Nat) := [(⟨"CutInCopiesModel", "isGreat", "()Z"⟩, 43), (⟨"CutInCopiesModel", "evens", "(I)I"⟩, 43), (⟨"CutInCopiesModel", "rainbows", "(I)I"⟩, 43), (⟨"CutInCopiesModel", "isAlike", "(I)Z"⟩, 43), (⟨"CutInCopiesModel", "floatOf", "(I)F"⟩, 43), (⟨"CutInCopiesModel", "statement", "()I"⟩, 43), (⟨"CutInCopiesModel", "done", "(I)I"⟩, 43), (⟨"CutInCopiesModel", "isDone", "(I)Z"⟩, 43), (⟨"CutInCopiesModel", "isRuled", "()Z"⟩, 43)]
theorem lw_r4 : ∀ q ∈ lw_privs_4, lw_okq q := List.forall_mem_cons.mpr ⟨lw_p48, List.forall_mem_cons.mpr ⟨lw_p49, List.forall_mem_cons.mpr ⟨lw_p50, List.forall_mem_cons.mpr ⟨lw_p51, List.forall_mem_cons.mpr ⟨lw_p52, List.forall_mem_cons.mpr ⟨lw_p53, List.forall_mem_cons.mpr ⟨lw_p54, List.forall_mem_cons.mpr ⟨lw_p55, List.forall_mem_cons.mpr ⟨lw_p56, fun _ h => absurd h List.not_mem_nil⟩⟩⟩⟩⟩⟩⟩⟩⟩
def lw_privs : List (MethodName × Nat) := lw_privs_1 ++ (lw_privs_2 ++ (lw_privs_3 ++ (lw_privs_4)))
def lw_tbl : List Cond := k2_sels lw_privs ++ tables_1
theorem lw_privs_ok : ∀ q ∈ lw_privs, lw_okq q := by
  show ∀ q ∈ lw_privs_1 ++ (lw_privs_2 ++ (lw_privs_3 ++ (lw_privs_4))), lw_okq q
  exact List.forall_mem_append.mpr ⟨lw_r1, List.forall_mem_append.mpr ⟨lw_r2, List.forall_mem_append.mpr ⟨lw_r3, lw_r4⟩⟩⟩
/-- the streams that the claim lets the run draw from -/
abbrev lw_cs : List Choice := [Jvm.Choice.named "NaN.bits"]
theorem lw_bits : nanBits ∈ lw_cs := by first | decide | exact List.mem_cons_self | simp [lw_cs, nanBits]


-- own names begin
def RX0 : String := "CutInCopies$Board"
def TX0 : u_T := fun k => match k with
  | 0 => ("CutInCopies$Board", "power", "I", false)
  | 1 => ("CutInCopies$Board", "holeX", "I", false)
  | 2 => ("CutInCopies$Board", "holeY", "I", false)
  | 3 => ("CutInCopies$Board", "pieceCount", "I", false)
  | 4 => ("CutInCopies$Board", "side", "I", false)
  | 5 => ("CutInCopies$Board", "cells", "[I", true)
  | 6 => ("CutInCopies$Board", "ways", "[I", true)
  | 7 => ("CutInCopies$Board", "sizes", "[I", true)
  | 8 => ("CutInCopies$Board", "lefts", "[I", true)
  | 9 => ("CutInCopies$Board", "tops", "[I", true)
  | _ => ("CutInCopies$Board", "touched", "[Z", true)
def tyX0 : Nat → FieldType := fun k => match k with
  | 0 => .int
  | 1 => .int
  | 2 => .int
  | 3 => .int
  | 4 => .int
  | 5 => .array .int
  | 6 => .array .int
  | 7 => .array .int
  | 8 => .array .int
  | 9 => .array .int
  | _ => .array .boolean
abbrev wsX00 : List Cond := u_ws RX0 TX0 11
theorem nmX0 : ∀ a, a < 11 → ∀ b, b < 11 → a ≠ b → (TX0 a).2.1 ≠ (TX0 b).2.1 := by decide +kernel
theorem tyX0_ok : ∀ k, k < 11 → parseFieldDescriptor (TX0 k).2.2.1 = some (tyX0 k) := by decide +kernel
abbrev cX0_init : ByteArray := prog_2_method_1_code
def yX0_init : MethodName := ⟨RX0, "<init>", "()V"⟩
abbrev cX0_isCell : ByteArray := prog_2_method_2_code
def yX0_isCell : MethodName := ⟨RX0, "isCell", "(III)Z"⟩
abbrev cX0_cutAnew : ByteArray := prog_2_method_3_code
def yX0_cutAnew : MethodName := ⟨RX0, "cutAnew", "(III)V"⟩
abbrev cX0_cutBlock : ByteArray := prog_2_method_4_code
def yX0_cutBlock : MethodName := ⟨RX0, "cutBlock", "(LCutInCopies$Board;IIIII)V"⟩
abbrev cX0_lay : ByteArray := prog_2_method_5_code
def yX0_lay : MethodName := ⟨RX0, "lay", "(IIII)V"⟩
abbrev cX0_has : ByteArray := prog_2_method_6_code
def yX0_has : MethodName := ⟨RX0, "has", "(II)Z"⟩
abbrev cX0_hasPiece : ByteArray := prog_2_method_7_code
def yX0_hasPiece : MethodName := ⟨RX0, "hasPiece", "(I)Z"⟩
abbrev cX0_pieceAt : ByteArray := prog_2_method_8_code
def yX0_pieceAt : MethodName := ⟨RX0, "pieceAt", "(II)I"⟩
abbrev cX0_wayOf : ByteArray := prog_2_method_9_code
def yX0_wayOf : MethodName := ⟨RX0, "wayOf", "(I)I"⟩
abbrev cX0_sizeOf : ByteArray := prog_2_method_10_code
def yX0_sizeOf : MethodName := ⟨RX0, "sizeOf", "(I)I"⟩
abbrev cX0_cornerX : ByteArray := prog_2_method_11_code
def yX0_cornerX : MethodName := ⟨RX0, "cornerX", "(I)I"⟩
abbrev cX0_cornerY : ByteArray := prog_2_method_12_code
def yX0_cornerY : MethodName := ⟨RX0, "cornerY", "(I)I"⟩
abbrev cX0_touching : ByteArray := prog_2_method_13_code
def yX0_touching : MethodName := ⟨RX0, "touching", "(I)I"⟩
abbrev cX0_touchAround : ByteArray := prog_2_method_14_code
def yX0_touchAround : MethodName := ⟨RX0, "touchAround", "(II)V"⟩
abbrev cX0_touch : ByteArray := prog_2_method_15_code
def yX0_touch : MethodName := ⟨RX0, "touch", "(II)V"⟩
abbrev cX0_inWindow : ByteArray := prog_2_method_16_code
def yX0_inWindow : MethodName := ⟨RX0, "inWindow", "(IIII)I"⟩
abbrev cX0_atBorder : ByteArray := prog_2_method_17_code
def yX0_atBorder : MethodName := ⟨RX0, "atBorder", "()I"⟩
abbrev cX0_lyingIn : ByteArray := prog_2_method_18_code
def yX0_lyingIn : MethodName := ⟨RX0, "lyingIn", "(I)I"⟩
abbrev cX0_likelihood : ByteArray := prog_2_method_19_code
def yX0_likelihood : MethodName := ⟨RX0, "likelihood", "(I)LCutInCopies$Fraction;"⟩
def RX1 : String := "CutInCopies$Floats"
def TX1 : u_T := fun k => match k with
  | _ => ("", "", "", false)
def tyX1 : Nat → FieldType := fun k => match k with
  | _ => .int
abbrev wsX10 : List Cond := u_ws RX1 TX1 0
theorem nmX1 : ∀ a, a < 0 → ∀ b, b < 0 → a ≠ b → (TX1 a).2.1 ≠ (TX1 b).2.1 := by decide +kernel
theorem tyX1_ok : ∀ k, k < 0 → parseFieldDescriptor (TX1 k).2.2.1 = some (tyX1 k) := by decide +kernel
abbrev cX1_intBits : ByteArray := prog_3_method_2_code
def yX1_intBits : MethodName := ⟨RX1, "intBits", "(F)I"⟩
abbrev cX1_longBitsOfDouble : ByteArray := prog_3_method_3_code
def yX1_longBitsOfDouble : MethodName := ⟨RX1, "longBitsOfDouble", "(D)J"⟩
def RX2 : String := "CutInCopies$Fraction"
def TX2 : u_T := fun k => match k with
  | 0 => ("CutInCopies$Fraction", "above", "J", true)
  | _ => ("CutInCopies$Fraction", "below", "J", true)
def tyX2 : Nat → FieldType := fun k => match k with
  | 0 => .long
  | _ => .long
abbrev wsX20 : List Cond := u_ws RX2 TX2 2
theorem nmX2 : ∀ a, a < 2 → ∀ b, b < 2 → a ≠ b → (TX2 a).2.1 ≠ (TX2 b).2.1 := by decide +kernel
theorem tyX2_ok : ∀ k, k < 2 → parseFieldDescriptor (TX2 k).2.2.1 = some (tyX2 k) := by decide +kernel
abbrev cX2_init : ByteArray := prog_4_method_1_code
def yX2_init : MethodName := ⟨RX2, "<init>", "(JJ)V"⟩
abbrev cX2_inLeastTerms : ByteArray := prog_4_method_2_code
def yX2_inLeastTerms : MethodName := ⟨RX2, "inLeastTerms", "(JJ)LCutInCopies$Fraction;"⟩
abbrev cX2_greatestDivisor : ByteArray := prog_4_method_3_code
def yX2_greatestDivisor : MethodName := ⟨RX2, "greatestDivisor", "(JJ)J"⟩
abbrev cX2_plus : ByteArray := prog_4_method_4_code
def yX2_plus : MethodName := ⟨RX2, "plus", "(LCutInCopies$Fraction;)LCutInCopies$Fraction;"⟩
abbrev cX2_minus : ByteArray := prog_4_method_5_code
def yX2_minus : MethodName := ⟨RX2, "minus", "(LCutInCopies$Fraction;)LCutInCopies$Fraction;"⟩
abbrev cX2_times : ByteArray := prog_4_method_6_code
def yX2_times : MethodName := ⟨RX2, "times", "(LCutInCopies$Fraction;)LCutInCopies$Fraction;"⟩
abbrev cX2_equalTo : ByteArray := prog_4_method_7_code
def yX2_equalTo : MethodName := ⟨RX2, "equalTo", "(LCutInCopies$Fraction;)Z"⟩
abbrev cX2_isAbove : ByteArray := prog_4_method_8_code
def yX2_isAbove : MethodName := ⟨RX2, "isAbove", "(J)Z"⟩
abbrev cX2_valuation : ByteArray := prog_4_method_9_code
def yX2_valuation : MethodName := ⟨RX2, "valuation", "()I"⟩
abbrev cX2_twosIn : ByteArray := prog_4_method_10_code
def yX2_twosIn : MethodName := ⟨RX2, "twosIn", "(J)I"⟩
abbrev cX2_told : ByteArray := prog_4_method_11_code
def yX2_told : MethodName := ⟨RX2, "told", "(I)J"⟩
abbrev cX2_asFloat : ByteArray := prog_4_method_12_code
def yX2_asFloat : MethodName := ⟨RX2, "asFloat", "()F"⟩
abbrev cX2_asDouble : ByteArray := prog_4_method_13_code
def yX2_asDouble : MethodName := ⟨RX2, "asDouble", "()D"⟩
def RX3 : String := "CutInCopies$Image"
def TX3 : u_T := fun k => match k with
  | 0 => ("CutInCopies$Image", "taken", "Z", false)
  | 1 => ("CutInCopies$Image", "power", "I", false)
  | 2 => ("CutInCopies$Image", "holeX", "I", false)
  | 3 => ("CutInCopies$Image", "holeY", "I", false)
  | 4 => ("CutInCopies$Image", "rule", "LCutInCopies$Rule;", true)
  | _ => ("CutInCopies$Image", "shapes", "LCutInCopies$Shapes;", true)
def tyX3 : Nat → FieldType := fun k => match k with
  | 0 => .boolean
  | 1 => .int
  | 2 => .int
  | 3 => .int
  | 4 => .object "CutInCopies$Rule"
  | _ => .object "CutInCopies$Shapes"
abbrev wsX30 : List Cond := u_ws RX3 TX3 6
theorem nmX3 : ∀ a, a < 6 → ∀ b, b < 6 → a ≠ b → (TX3 a).2.1 ≠ (TX3 b).2.1 := by decide +kernel
theorem tyX3_ok : ∀ k, k < 6 → parseFieldDescriptor (TX3 k).2.2.1 = some (tyX3 k) := by decide +kernel
abbrev cX3_init : ByteArray := prog_5_method_1_code
def yX3_init : MethodName := ⟨RX3, "<init>", "()V"⟩
abbrev cX3_take : ByteArray := prog_5_method_2_code
def yX3_take : MethodName := ⟨RX3, "take", "(LCutInCopies$Board;LCutInCopies$Rule;LCutInCopies$Shapes;)V"⟩
abbrev cX3_giveBack : ByteArray := prog_5_method_3_code
def yX3_giveBack : MethodName := ⟨RX3, "giveBack", "(LCutInCopies$Board;LCutInCopies$Rule;LCutInCopies$Shapes;)V"⟩
def RX4 : String := "CutInCopies$Letters"
def TX4 : u_T := fun k => match k with
  | 0 => ("CutInCopies$Letters", "size", "I", false)
  | 1 => ("CutInCopies$Letters", "statements", "I", false)
  | 2 => ("CutInCopies$Letters", "begins", "[I", true)
  | _ => ("CutInCopies$Letters", "signs", "[C", true)
def tyX4 : Nat → FieldType := fun k => match k with
  | 0 => .int
  | 1 => .int
  | 2 => .array .int
  | _ => .array .char
abbrev wsX40 : List Cond := u_ws RX4 TX4 4
theorem nmX4 : ∀ a, a < 4 → ∀ b, b < 4 → a ≠ b → (TX4 a).2.1 ≠ (TX4 b).2.1 := by decide +kernel
theorem tyX4_ok : ∀ k, k < 4 → parseFieldDescriptor (TX4 k).2.2.1 = some (tyX4 k) := by decide +kernel
abbrev cX4_init : ByteArray := prog_6_method_1_code
def yX4_init : MethodName := ⟨RX4, "<init>", "()V"⟩
abbrev cX4_isFull : ByteArray := prog_6_method_2_code
def yX4_isFull : MethodName := ⟨RX4, "isFull", "()Z"⟩
abbrev cX4_append : ByteArray := prog_6_method_3_code
def yX4_append : MethodName := ⟨RX4, "append", "(I)V"⟩
abbrev cX4_clear : ByteArray := prog_6_method_4_code
def yX4_clear : MethodName := ⟨RX4, "clear", "()V"⟩
abbrev cX4_letterAt : ByteArray := prog_6_method_5_code
def yX4_letterAt : MethodName := ⟨RX4, "letterAt", "(I)C"⟩
abbrev cX4_digitsBehind : ByteArray := prog_6_method_6_code
def yX4_digitsBehind : MethodName := ⟨RX4, "digitsBehind", "(C)I"⟩
abbrev cX4_read : ByteArray := prog_6_method_7_code
def yX4_read : MethodName := ⟨RX4, "read", "()I"⟩
abbrev cX4_firstWrongFrom : ByteArray := prog_6_method_8_code
def yX4_firstWrongFrom : MethodName := ⟨RX4, "firstWrongFrom", "(I)I"⟩
abbrev cX4_digit : ByteArray := prog_6_method_9_code
def yX4_digit : MethodName := ⟨RX4, "digit", "(I)I"⟩
abbrev cX4_twoDigits : ByteArray := prog_6_method_10_code
def yX4_twoDigits : MethodName := ⟨RX4, "twoDigits", "(I)I"⟩
abbrev cX4_fourDigits : ByteArray := prog_6_method_11_code
def yX4_fourDigits : MethodName := ⟨RX4, "fourDigits", "(I)I"⟩
def RX5 : String := "CutInCopies$Numbers"
def TX5 : u_T := fun k => match k with
  | 0 => ("CutInCopies$Numbers", "places", "[I", true)
  | _ => ("CutInCopies$Numbers", "size", "I", false)
def tyX5 : Nat → FieldType := fun k => match k with
  | 0 => .array .int
  | _ => .int
abbrev wsX50 : List Cond := u_ws RX5 TX5 2
theorem nmX5 : ∀ a, a < 2 → ∀ b, b < 2 → a ≠ b → (TX5 a).2.1 ≠ (TX5 b).2.1 := by decide +kernel
theorem tyX5_ok : ∀ k, k < 2 → parseFieldDescriptor (TX5 k).2.2.1 = some (tyX5 k) := by decide +kernel
abbrev cX5_init : ByteArray := prog_7_method_1_code
def yX5_init : MethodName := ⟨RX5, "<init>", "()V"⟩
abbrev cX5_isMissing : ByteArray := prog_7_method_2_code
def yX5_isMissing : MethodName := ⟨RX5, "isMissing", "()Z"⟩
abbrev cX5_hasPlace : ByteArray := prog_7_method_3_code
def yX5_hasPlace : MethodName := ⟨RX5, "hasPlace", "(I)Z"⟩
abbrev cX5_makeZeros : ByteArray := prog_7_method_4_code
def yX5_makeZeros : MethodName := ⟨RX5, "makeZeros", "(I)V"⟩
def RX6 : String := "CutInCopies$Point"
def TX6 : u_T := fun k => match k with
  | 0 => ("CutInCopies$Point", "x", "LCutInCopies$Fraction;", true)
  | _ => ("CutInCopies$Point", "y", "LCutInCopies$Fraction;", true)
def tyX6 : Nat → FieldType := fun k => match k with
  | 0 => .object "CutInCopies$Fraction"
  | _ => .object "CutInCopies$Fraction"
abbrev wsX60 : List Cond := u_ws RX6 TX6 2
theorem nmX6 : ∀ a, a < 2 → ∀ b, b < 2 → a ≠ b → (TX6 a).2.1 ≠ (TX6 b).2.1 := by decide +kernel
theorem tyX6_ok : ∀ k, k < 2 → parseFieldDescriptor (TX6 k).2.2.1 = some (tyX6 k) := by decide +kernel
abbrev cX6_init : ByteArray := prog_8_method_1_code
def yX6_init : MethodName := ⟨RX6, "<init>", "(LCutInCopies$Fraction;LCutInCopies$Fraction;)V"⟩
abbrev cX6_shade : ByteArray := prog_8_method_2_code
def yX6_shade : MethodName := ⟨RX6, "shade", "(Z)I"⟩
def RX7 : String := "CutInCopies$Rack"
def TX7 : u_T := fun k => match k with
  | 0 => ("CutInCopies$Rack", "places", "[LCutInCopies$Triangle;", true)
  | 1 => ("CutInCopies$Rack", "size", "I", false)
  | _ => ("CutInCopies$Rack", "madeFor", "I", false)
def tyX7 : Nat → FieldType := fun k => match k with
  | 0 => .array (.object "CutInCopies$Triangle")
  | 1 => .int
  | _ => .int
abbrev wsX70 : List Cond := u_ws RX7 TX7 3
theorem nmX7 : ∀ a, a < 3 → ∀ b, b < 3 → a ≠ b → (TX7 a).2.1 ≠ (TX7 b).2.1 := by decide +kernel
theorem tyX7_ok : ∀ k, k < 3 → parseFieldDescriptor (TX7 k).2.2.1 = some (tyX7 k) := by decide +kernel
abbrev cX7_init : ByteArray := prog_9_method_1_code
def yX7_init : MethodName := ⟨RX7, "<init>", "()V"⟩
abbrev cX7_isMissing : ByteArray := prog_9_method_2_code
def yX7_isMissing : MethodName := ⟨RX7, "isMissing", "()Z"⟩
abbrev cX7_hasPlace : ByteArray := prog_9_method_3_code
def yX7_hasPlace : MethodName := ⟨RX7, "hasPlace", "(I)Z"⟩
abbrev cX7_takes : ByteArray := prog_9_method_4_code
def yX7_takes : MethodName := ⟨RX7, "takes", "(LCutInCopies$Triangle;)Z"⟩
abbrev cX7_makeFor : ByteArray := prog_9_method_5_code
def yX7_makeFor : MethodName := ⟨RX7, "makeFor", "(II)V"⟩
abbrev cX7_copyFrom : ByteArray := prog_9_method_6_code
def yX7_copyFrom : MethodName := ⟨RX7, "copyFrom", "(LCutInCopies$Rack;)V"⟩
def RX8 : String := "CutInCopies$Rule"
def TX8 : u_T := fun k => match k with
  | 0 => ("CutInCopies$Rule", "parts", "[I", true)
  | 1 => ("CutInCopies$Rule", "lying", "[J", true)
  | 2 => ("CutInCopies$Rule", "fallen", "[J", true)
  | 3 => ("CutInCopies$Rule", "least", "[I", true)
  | _ => ("CutInCopies$Rule", "longer", "[I", true)
def tyX8 : Nat → FieldType := fun k => match k with
  | 0 => .array .int
  | 1 => .array .long
  | 2 => .array .long
  | 3 => .array .int
  | _ => .array .int
abbrev wsX80 : List Cond := u_ws RX8 TX8 5
theorem nmX8 : ∀ a, a < 5 → ∀ b, b < 5 → a ≠ b → (TX8 a).2.1 ≠ (TX8 b).2.1 := by decide +kernel
theorem tyX8_ok : ∀ k, k < 5 → parseFieldDescriptor (TX8 k).2.2.1 = some (tyX8 k) := by decide +kernel
abbrev cX8_init : ByteArray := prog_10_method_1_code
def yX8_init : MethodName := ⟨RX8, "<init>", "()V"⟩
abbrev cX8_copyFrom : ByteArray := prog_10_method_2_code
def yX8_copyFrom : MethodName := ⟨RX8, "copyFrom", "(LCutInCopies$Rule;)V"⟩
abbrev cX8_wayOfPart : ByteArray := prog_10_method_3_code
def yX8_wayOfPart : MethodName := ⟨RX8, "wayOfPart", "(II)I"⟩
abbrev cX8_become : ByteArray := prog_10_method_4_code
def yX8_become : MethodName := ⟨RX8, "become", "(III)V"⟩
abbrev cX8_lyingBehind : ByteArray := prog_10_method_5_code
def yX8_lyingBehind : MethodName := ⟨RX8, "lyingBehind", "(III)J"⟩
abbrev cX8_startWith : ByteArray := prog_10_method_6_code
def yX8_startWith : MethodName := ⟨RX8, "startWith", "(I)V"⟩
abbrev cX8_cutOnce : ByteArray := prog_10_method_7_code
def yX8_cutOnce : MethodName := ⟨RX8, "cutOnce", "()V"⟩
abbrev cX8_cutsToAlike : ByteArray := prog_10_method_8_code
def yX8_cutsToAlike : MethodName := ⟨RX8, "cutsToAlike", "(I)I"⟩
abbrev cX8_wayAt : ByteArray := prog_10_method_9_code
def yX8_wayAt : MethodName := ⟨RX8, "wayAt", "(III)I"⟩
abbrev cX8_meeting : ByteArray := prog_10_method_10_code
def yX8_meeting : MethodName := ⟨RX8, "meeting", "(IIZ)I"⟩
abbrev cX8_addFirstDigit : ByteArray := prog_10_method_11_code
def yX8_addFirstDigit : MethodName := ⟨RX8, "addFirstDigit", "()V"⟩
abbrev cX8_steadyWays : ByteArray := prog_10_method_12_code
def yX8_steadyWays : MethodName := ⟨RX8, "steadyWays", "(I)I"⟩
abbrev cX8_waysBehind : ByteArray := prog_10_method_13_code
def yX8_waysBehind : MethodName := ⟨RX8, "waysBehind", "(I)I"⟩
abbrev cX8_drawLots : ByteArray := prog_10_method_14_code
def yX8_drawLots : MethodName := ⟨RX8, "drawLots", "(IIIZ)I"⟩
def RX9 : String := "CutInCopies$Shapes"
def TX9 : u_T := fun k => match k with
  | 0 => ("CutInCopies$Shapes", "points", "[LCutInCopies$Point;", true)
  | 1 => ("CutInCopies$Shapes", "triangles", "[LCutInCopies$Triangle;", true)
  | 2 => ("CutInCopies$Shapes", "pointCount", "I", false)
  | _ => ("CutInCopies$Shapes", "triangleCount", "I", false)
def tyX9 : Nat → FieldType := fun k => match k with
  | 0 => .array (.object "CutInCopies$Point")
  | 1 => .array (.object "CutInCopies$Triangle")
  | 2 => .int
  | _ => .int
abbrev wsX90 : List Cond := u_ws RX9 TX9 4
theorem nmX9 : ∀ a, a < 4 → ∀ b, b < 4 → a ≠ b → (TX9 a).2.1 ≠ (TX9 b).2.1 := by decide +kernel
theorem tyX9_ok : ∀ k, k < 4 → parseFieldDescriptor (TX9 k).2.2.1 = some (tyX9 k) := by decide +kernel
abbrev cX9_init : ByteArray := prog_11_method_1_code
def yX9_init : MethodName := ⟨RX9, "<init>", "()V"⟩
abbrev cX9_copyFrom : ByteArray := prog_11_method_2_code
def yX9_copyFrom : MethodName := ⟨RX9, "copyFrom", "(LCutInCopies$Shapes;)V"⟩
abbrev cX9_hasPoint : ByteArray := prog_11_method_3_code
def yX9_hasPoint : MethodName := ⟨RX9, "hasPoint", "(I)Z"⟩
abbrev cX9_hasTriangle : ByteArray := prog_11_method_4_code
def yX9_hasTriangle : MethodName := ⟨RX9, "hasTriangle", "(I)Z"⟩
abbrev cX9_hasSet : ByteArray := prog_11_method_5_code
def yX9_hasSet : MethodName := ⟨RX9, "hasSet", "(I)Z"⟩
abbrev cX9_areThree : ByteArray := prog_11_method_6_code
def yX9_areThree : MethodName := ⟨RX9, "areThree", "(IIII)Z"⟩
abbrev cX9_addPoint : ByteArray := prog_11_method_7_code
def yX9_addPoint : MethodName := ⟨RX9, "addPoint", "(II)V"⟩
abbrev cX9_fractionOf : ByteArray := prog_11_method_8_code
def yX9_fractionOf : MethodName := ⟨RX9, "fractionOf", "(I)LCutInCopies$Fraction;"⟩
abbrev cX9_addTriangle : ByteArray := prog_11_method_9_code
def yX9_addTriangle : MethodName := ⟨RX9, "addTriangle", "(IIII)V"⟩
abbrev cX9_isIn : ByteArray := prog_11_method_10_code
def yX9_isIn : MethodName := ⟨RX9, "isIn", "(II)Z"⟩
abbrev cX9_exactSum : ByteArray := prog_11_method_11_code
def yX9_exactSum : MethodName := ⟨RX9, "exactSum", "(I)LCutInCopies$Fraction;"⟩
abbrev cX9_evenOnes : ByteArray := prog_11_method_12_code
def yX9_evenOnes : MethodName := ⟨RX9, "evenOnes", "(I)I"⟩
abbrev cX9_rainbows : ByteArray := prog_11_method_13_code
def yX9_rainbows : MethodName := ⟨RX9, "rainbows", "(I)I"⟩
abbrev cX9_areAlike : ByteArray := prog_11_method_14_code
def yX9_areAlike : MethodName := ⟨RX9, "areAlike", "(I)Z"⟩
abbrev cX9_floatSum : ByteArray := prog_11_method_15_code
def yX9_floatSum : MethodName := ⟨RX9, "floatSum", "(I)F"⟩
abbrev cX9_doubleSum : ByteArray := prog_11_method_16_code
def yX9_doubleSum : MethodName := ⟨RX9, "doubleSum", "(I)D"⟩
def RX10 : String := "CutInCopies$Triangle"
def TX10 : u_T := fun k => match k with
  | 0 => ("CutInCopies$Triangle", "kind", "I", true)
  | 1 => ("CutInCopies$Triangle", "first", "I", true)
  | 2 => ("CutInCopies$Triangle", "second", "I", true)
  | 3 => ("CutInCopies$Triangle", "third", "I", true)
  | 4 => ("CutInCopies$Triangle", "colours", "I", true)
  | _ => ("CutInCopies$Triangle", "area", "LCutInCopies$Fraction;", true)
def tyX10 : Nat → FieldType := fun k => match k with
  | 0 => .int
  | 1 => .int
  | 2 => .int
  | 3 => .int
  | 4 => .int
  | _ => .object "CutInCopies$Fraction"
abbrev wsX100 : List Cond := u_ws RX10 TX10 6
theorem nmX10 : ∀ a, a < 6 → ∀ b, b < 6 → a ≠ b → (TX10 a).2.1 ≠ (TX10 b).2.1 := by decide +kernel
theorem tyX10_ok : ∀ k, k < 6 → parseFieldDescriptor (TX10 k).2.2.1 = some (tyX10 k) := by decide +kernel
abbrev cX10_init : ByteArray := prog_12_method_1_code
def yX10_init : MethodName := ⟨RX10, "<init>", "(IIIIILCutInCopies$Fraction;)V"⟩
abbrev cX10_lyingOn : ByteArray := prog_12_method_2_code
def yX10_lyingOn : MethodName := ⟨RX10, "lyingOn", "([LCutInCopies$Point;IIII)LCutInCopies$Triangle;"⟩
abbrev cX10_isKind : ByteArray := prog_12_method_3_code
def yX10_isKind : MethodName := ⟨RX10, "isKind", "(I)Z"⟩
abbrev cX10_isUnder : ByteArray := prog_12_method_4_code
def yX10_isUnder : MethodName := ⟨RX10, "isUnder", "(II)Z"⟩
abbrev cX10_isRainbow : ByteArray := prog_12_method_5_code
def yX10_isRainbow : MethodName := ⟨RX10, "isRainbow", "()Z"⟩
def RX11 : String := "CutInCopies"
def TX11 : u_T := fun k => match k with
  | 0 => ("CutInCopies", "board", "LCutInCopies$Board;", true)
  | 1 => ("CutInCopies", "rule", "LCutInCopies$Rule;", true)
  | 2 => ("CutInCopies", "shapes", "LCutInCopies$Shapes;", true)
  | 3 => ("CutInCopies", "letters", "LCutInCopies$Letters;", true)
  | 4 => ("CutInCopies", "image", "LCutInCopies$Image;", true)
  | 5 => ("CutInCopies", "racks", "[LCutInCopies$Rack;", true)
  | 6 => ("CutInCopies", "lists", "[LCutInCopies$Numbers;", true)
  | _ => ("CutInCopies", "refusals", "[I", true)
def tyX11 : Nat → FieldType := fun k => match k with
  | 0 => .object "CutInCopies$Board"
  | 1 => .object "CutInCopies$Rule"
  | 2 => .object "CutInCopies$Shapes"
  | 3 => .object "CutInCopies$Letters"
  | 4 => .object "CutInCopies$Image"
  | 5 => .array (.object "CutInCopies$Rack")
  | 6 => .array (.object "CutInCopies$Numbers")
  | _ => .array .int
abbrev wsX110 : List Cond := u_ws RX11 TX11 8
theorem nmX11 : ∀ a, a < 8 → ∀ b, b < 8 → a ≠ b → (TX11 a).2.1 ≠ (TX11 b).2.1 := by decide +kernel
theorem tyX11_ok : ∀ k, k < 8 → parseFieldDescriptor (TX11 k).2.2.1 = some (tyX11 k) := by decide +kernel
abbrev cX11_init : ByteArray := prog_1_method_1_code
def yX11_init : MethodName := ⟨RX11, "<init>", "()V"⟩
abbrev cX11_letter : ByteArray := prog_1_method_2_code
def yX11_letter : MethodName := ⟨RX11, "letter", "(I)I"⟩
abbrev cX11_text : ByteArray := prog_1_method_3_code
def yX11_text : MethodName := ⟨RX11, "text", "()I"⟩
abbrev cX11_board : ByteArray := prog_1_method_4_code
def yX11_board : MethodName := ⟨RX11, "board", "(III)I"⟩
abbrev cX11_piece : ByteArray := prog_1_method_5_code
def yX11_piece : MethodName := ⟨RX11, "piece", "(II)I"⟩
abbrev cX11_of : ByteArray := prog_1_method_6_code
def yX11_of : MethodName := ⟨RX11, "of", "(II)I"⟩
abbrev cX11_within : ByteArray := prog_1_method_7_code
def yX11_within : MethodName := ⟨RX11, "within", "(IIII)I"⟩
abbrev cX11_pieces : ByteArray := prog_1_method_8_code
def yX11_pieces : MethodName := ⟨RX11, "pieces", "(I)I"⟩
abbrev cX11_odds : ByteArray := prog_1_method_9_code
def yX11_odds : MethodName := ⟨RX11, "odds", "(II)J"⟩
abbrev cX11_rule : ByteArray := prog_1_method_10_code
def yX11_rule : MethodName := ⟨RX11, "rule", "(III)I"⟩
abbrev cX11_behind : ByteArray := prog_1_method_11_code
def yX11_behind : MethodName := ⟨RX11, "behind", "(III)J"⟩
abbrev cX11_address : ByteArray := prog_1_method_12_code
def yX11_address : MethodName := ⟨RX11, "address", "(III)I"⟩
abbrev cX11_meet : ByteArray := prog_1_method_13_code
def yX11_meet : MethodName := ⟨RX11, "meet", "(III)I"⟩
abbrev cX11_steady : ByteArray := prog_1_method_14_code
def yX11_steady : MethodName := ⟨RX11, "steady", "(I)I"⟩
abbrev cX11_falls : ByteArray := prog_1_method_15_code
def yX11_falls : MethodName := ⟨RX11, "falls", "(I)I"⟩
abbrev cX11_lots : ByteArray := prog_1_method_16_code
def yX11_lots : MethodName := ⟨RX11, "lots", "(IIII)I"⟩
abbrev cX11_point : ByteArray := prog_1_method_17_code
def yX11_point : MethodName := ⟨RX11, "point", "(II)I"⟩
abbrev cX11_colour : ByteArray := prog_1_method_18_code
def yX11_colour : MethodName := ⟨RX11, "colour", "(II)I"⟩
abbrev cX11_triangle : ByteArray := prog_1_method_19_code
def yX11_triangle : MethodName := ⟨RX11, "triangle", "(IIII)I"⟩
abbrev cX11_tri : ByteArray := prog_1_method_20_code
def yX11_tri : MethodName := ⟨RX11, "tri", "(II)I"⟩
abbrev cX11_area : ByteArray := prog_1_method_21_code
def yX11_area : MethodName := ⟨RX11, "area", "(II)J"⟩
abbrev cX11_sum : ByteArray := prog_1_method_22_code
def yX11_sum : MethodName := ⟨RX11, "sum", "(II)J"⟩
abbrev cX11_even : ByteArray := prog_1_method_23_code
def yX11_even : MethodName := ⟨RX11, "even", "(II)I"⟩
abbrev cX11_bits : ByteArray := prog_1_method_24_code
def yX11_bits : MethodName := ⟨RX11, "bits", "(I)I"⟩
abbrev cX11_bitsOf : ByteArray := prog_1_method_25_code
def yX11_bitsOf : MethodName := ⟨RX11, "bitsOf", "(II)I"⟩
abbrev cX11_longBits : ByteArray := prog_1_method_26_code
def yX11_longBits : MethodName := ⟨RX11, "longBits", "(I)J"⟩
abbrev cX11_rack : ByteArray := prog_1_method_27_code
def yX11_rack : MethodName := ⟨RX11, "rack", "(III)I"⟩
abbrev cX11_racks : ByteArray := prog_1_method_28_code
def yX11_racks : MethodName := ⟨RX11, "racks", "(III)I"⟩
abbrev cX11_racked : ByteArray := prog_1_method_29_code
def yX11_racked : MethodName := ⟨RX11, "racked", "(III)I"⟩
abbrev cX11_like : ByteArray := prog_1_method_30_code
def yX11_like : MethodName := ⟨RX11, "like", "(II)I"⟩
abbrev cX11_list : ByteArray := prog_1_method_31_code
def yX11_list : MethodName := ⟨RX11, "list", "(II)I"⟩
abbrev cX11_put : ByteArray := prog_1_method_32_code
def yX11_put : MethodName := ⟨RX11, "put", "(III)I"⟩
abbrev cX11_look : ByteArray := prog_1_method_33_code
def yX11_look : MethodName := ⟨RX11, "look", "(II)J"⟩
abbrev cX11_judge : ByteArray := prog_1_method_34_code
def yX11_judge : MethodName := ⟨RX11, "judge", "(I)I"⟩
abbrev cX11_image : ByteArray := prog_1_method_35_code
def yX11_image : MethodName := ⟨RX11, "image", "()I"⟩
abbrev cX11_on : ByteArray := prog_1_method_36_code
def yX11_on : MethodName := ⟨RX11, "on", "()I"⟩
abbrev cX11_count : ByteArray := prog_1_method_37_code
def yX11_count : MethodName := ⟨RX11, "count", "(I)I"⟩
abbrev cX11_refuse : ByteArray := prog_1_method_38_code
def yX11_refuse : MethodName := ⟨RX11, "refuse", "(I)I"⟩
abbrev cX11_refuseFar : ByteArray := prog_1_method_39_code
def yX11_refuseFar : MethodName := ⟨RX11, "refuseFar", "(I)J"⟩
abbrev cX11_isWay : ByteArray := prog_1_method_40_code
def yX11_isWay : MethodName := ⟨RX11, "isWay", "(I)Z"⟩
abbrev cX11_isPartOfFraction : ByteArray := prog_1_method_41_code
def yX11_isPartOfFraction : MethodName := ⟨RX11, "isPartOfFraction", "(I)Z"⟩
abbrev cX11_isRow : ByteArray := prog_1_method_42_code
def yX11_isRow : MethodName := ⟨RX11, "isRow", "(I)Z"⟩
abbrev cX11_faultOfLetters : ByteArray := prog_1_method_43_code
def yX11_faultOfLetters : MethodName := ⟨RX11, "faultOfLetters", "()I"⟩
abbrev cX11_canBe : ByteArray := prog_1_method_44_code
def yX11_canBe : MethodName := ⟨RX11, "canBe", "(III)Z"⟩
abbrev cX11_areWays : ByteArray := prog_1_method_45_code
def yX11_areWays : MethodName := ⟨RX11, "areWays", "(II)Z"⟩
abbrev cX11_runStatement : ByteArray := prog_1_method_46_code
def yX11_runStatement : MethodName := ⟨RX11, "runStatement", "(I)V"⟩
def RX12 : String := "CutInCopiesModel"
def TX12 : u_T := fun k => match k with
  | 0 => ("CutInCopiesModel", "refusals", "[I", true)
  | 1 => ("CutInCopiesModel", "power", "I", false)
  | 2 => ("CutInCopiesModel", "holeX", "I", false)
  | 3 => ("CutInCopiesModel", "holeY", "I", false)
  | 4 => ("CutInCopiesModel", "pieces", "I", false)
  | 5 => ("CutInCopiesModel", "cells", "[I", true)
  | 6 => ("CutInCopiesModel", "ways", "[I", true)
  | 7 => ("CutInCopiesModel", "sizes", "[I", true)
  | 8 => ("CutInCopiesModel", "cornerX", "[I", true)
  | 9 => ("CutInCopiesModel", "cornerY", "[I", true)
  | 10 => ("CutInCopiesModel", "rule", "[I", true)
  | 11 => ("CutInCopiesModel", "many", "[J", true)
  | 12 => ("CutInCopiesModel", "then", "[J", true)
  | 13 => ("CutInCopiesModel", "least", "[I", true)
  | 14 => ("CutInCopiesModel", "leastThen", "[I", true)
  | 15 => ("CutInCopiesModel", "points", "I", false)
  | 16 => ("CutInCopiesModel", "numbers", "[I", true)
  | 17 => ("CutInCopiesModel", "triangles", "I", false)
  | 18 => ("CutInCopiesModel", "kinds", "[I", true)
  | 19 => ("CutInCopiesModel", "corners", "[I", true)
  | 20 => ("CutInCopiesModel", "above", "J", false)
  | 21 => ("CutInCopiesModel", "below", "J", false)
  | 22 => ("CutInCopiesModel", "rackKinds", "[I", true)
  | 23 => ("CutInCopiesModel", "rackSizes", "[I", true)
  | 24 => ("CutInCopiesModel", "laid", "[I", true)
  | 25 => ("CutInCopiesModel", "laidValuations", "[I", true)
  | 26 => ("CutInCopiesModel", "listSizes", "[I", true)
  | 27 => ("CutInCopiesModel", "items", "[I", true)
  | 28 => ("CutInCopiesModel", "letters", "[I", true)
  | 29 => ("CutInCopiesModel", "lettered", "I", false)
  | 30 => ("CutInCopiesModel", "at", "I", false)
  | 31 => ("CutInCopiesModel", "told", "[I", true)
  | 32 => ("CutInCopiesModel", "rulesAhead", "[I", true)
  | 33 => ("CutInCopiesModel", "isKept", "Z", false)
  | 34 => ("CutInCopiesModel", "keptPower", "I", false)
  | 35 => ("CutInCopiesModel", "keptX", "I", false)
  | 36 => ("CutInCopiesModel", "keptY", "I", false)
  | 37 => ("CutInCopiesModel", "keptPoints", "I", false)
  | 38 => ("CutInCopiesModel", "keptTriangles", "I", false)
  | 39 => ("CutInCopiesModel", "keptRule", "[I", true)
  | 40 => ("CutInCopiesModel", "keptNumbers", "[I", true)
  | 41 => ("CutInCopiesModel", "keptKinds", "[I", true)
  | _ => ("CutInCopiesModel", "keptCorners", "[I", true)
def tyX12 : Nat → FieldType := fun k => match k with
  | 0 => .array .int
  | 1 => .int
  | 2 => .int
  | 3 => .int
  | 4 => .int
  | 5 => .array .int
  | 6 => .array .int
  | 7 => .array .int
  | 8 => .array .int
  | 9 => .array .int
  | 10 => .array .int
  | 11 => .array .long
  | 12 => .array .long
  | 13 => .array .int
  | 14 => .array .int
  | 15 => .int
  | 16 => .array .int
  | 17 => .int
  | 18 => .array .int
  | 19 => .array .int
  | 20 => .long
  | 21 => .long
  | 22 => .array .int
  | 23 => .array .int
  | 24 => .array .int
  | 25 => .array .int
  | 26 => .array .int
  | 27 => .array .int
  | 28 => .array .int
  | 29 => .int
  | 30 => .int
  | 31 => .array .int
  | 32 => .array .int
  | 33 => .boolean
  | 34 => .int
  | 35 => .int
  | 36 => .int
  | 37 => .int
  | 38 => .int
  | 39 => .array .int
  | 40 => .array .int
  | 41 => .array .int
  | _ => .array .int
abbrev wsX120 : List Cond := u_ws RX12 TX12 43
theorem nmX12 : ∀ a, a < 43 → ∀ b, b < 43 → a ≠ b → (TX12 a).2.1 ≠ (TX12 b).2.1 := by decide +kernel
theorem tyX12_ok : ∀ k, k < 43 → parseFieldDescriptor (TX12 k).2.2.1 = some (tyX12 k) := by decide +kernel
abbrev cX12_refused : ByteArray := prog_14_method_1_code
def yX12_refused : MethodName := ⟨RX12, "refused", "(I)I"⟩
abbrev cX12_refusedFar : ByteArray := prog_14_method_2_code
def yX12_refusedFar : MethodName := ⟨RX12, "refusedFar", "(I)J"⟩
abbrev cX12_isIn : ByteArray := prog_14_method_3_code
def yX12_isIn : MethodName := ⟨RX12, "isIn", "(JJJ)Z"⟩
abbrev cX12_has : ByteArray := prog_14_method_4_code
def yX12_has : MethodName := ⟨RX12, "has", "(II)Z"⟩
abbrev cX12_divisor : ByteArray := prog_14_method_5_code
def yX12_divisor : MethodName := ⟨RX12, "divisor", "(JJ)J"⟩
abbrev cX12_part : ByteArray := prog_14_method_6_code
def yX12_part : MethodName := ⟨RX12, "part", "(JJI)J"⟩
abbrev cX12_init : ByteArray := prog_14_method_7_code
def yX12_init : MethodName := ⟨RX12, "<init>", "()V"⟩
abbrev cX12_side : ByteArray := prog_14_method_8_code
def yX12_side : MethodName := ⟨RX12, "side", "()I"⟩
abbrev cX12_isCell : ByteArray := prog_14_method_9_code
def yX12_isCell : MethodName := ⟨RX12, "isCell", "(II)Z"⟩
abbrev cX12_lays : ByteArray := prog_14_method_10_code
def yX12_lays : MethodName := ⟨RX12, "lays", "(III)V"⟩
abbrev cX12_cuts : ByteArray := prog_14_method_11_code
def yX12_cuts : MethodName := ⟨RX12, "cuts", "(IIIII)V"⟩
abbrev cX12_cell : ByteArray := prog_14_method_12_code
def yX12_cell : MethodName := ⟨RX12, "cell", "(II)I"⟩
abbrev cX12_board : ByteArray := prog_14_method_13_code
def yX12_board : MethodName := ⟨RX12, "board", "(III)I"⟩
abbrev cX12_piece : ByteArray := prog_14_method_14_code
def yX12_piece : MethodName := ⟨RX12, "piece", "(II)I"⟩
abbrev cX12_areBeside : ByteArray := prog_14_method_15_code
def yX12_areBeside : MethodName := ⟨RX12, "areBeside", "(IIIIII)Z"⟩
abbrev cX12_isTouching : ByteArray := prog_14_method_16_code
def yX12_isTouching : MethodName := ⟨RX12, "isTouching", "(II)Z"⟩
abbrev cX12_touching : ByteArray := prog_14_method_17_code
def yX12_touching : MethodName := ⟨RX12, "touching", "(I)I"⟩
abbrev cX12_of : ByteArray := prog_14_method_18_code
def yX12_of : MethodName := ⟨RX12, "of", "(II)I"⟩
abbrev cX12_isWithin : ByteArray := prog_14_method_19_code
def yX12_isWithin : MethodName := ⟨RX12, "isWithin", "(IIIII)Z"⟩
abbrev cX12_within : ByteArray := prog_14_method_20_code
def yX12_within : MethodName := ⟨RX12, "within", "(IIII)I"⟩
abbrev cX12_edge : ByteArray := prog_14_method_21_code
def yX12_edge : MethodName := ⟨RX12, "edge", "()I"⟩
abbrev cX12_inWay : ByteArray := prog_14_method_22_code
def yX12_inWay : MethodName := ⟨RX12, "inWay", "(I)I"⟩
abbrev cX12_pieces : ByteArray := prog_14_method_23_code
def yX12_pieces : MethodName := ⟨RX12, "pieces", "(I)I"⟩
abbrev cX12_isWay : ByteArray := prog_14_method_24_code
def yX12_isWay : MethodName := ⟨RX12, "isWay", "(I)Z"⟩
abbrev cX12_odds : ByteArray := prog_14_method_25_code
def yX12_odds : MethodName := ⟨RX12, "odds", "(II)J"⟩
abbrev cX12_rulesAtFirst : ByteArray := prog_14_method_26_code
def yX12_rulesAtFirst : MethodName := ⟨RX12, "rulesAtFirst", "()V"⟩
abbrev cX12_rule : ByteArray := prog_14_method_27_code
def yX12_rule : MethodName := ⟨RX12, "rule", "(III)I"⟩
abbrev cX12_begins : ByteArray := prog_14_method_28_code
def yX12_begins : MethodName := ⟨RX12, "begins", "(I)V"⟩
abbrev cX12_fallsAll : ByteArray := prog_14_method_29_code
def yX12_fallsAll : MethodName := ⟨RX12, "fallsAll", "()V"⟩
abbrev cX12_behind : ByteArray := prog_14_method_30_code
def yX12_behind : MethodName := ⟨RX12, "behind", "(III)J"⟩
abbrev cX12_address : ByteArray := prog_14_method_31_code
def yX12_address : MethodName := ⟨RX12, "address", "(III)I"⟩
abbrev cX12_leads : ByteArray := prog_14_method_32_code
def yX12_leads : MethodName := ⟨RX12, "leads", "(I)V"⟩
abbrev cX12_leastAlike : ByteArray := prog_14_method_33_code
def yX12_leastAlike : MethodName := ⟨RX12, "leastAlike", "()I"⟩
abbrev cX12_meet : ByteArray := prog_14_method_34_code
def yX12_meet : MethodName := ⟨RX12, "meet", "(III)I"⟩
abbrev cX12_steady : ByteArray := prog_14_method_35_code
def yX12_steady : MethodName := ⟨RX12, "steady", "(I)I"⟩
abbrev cX12_falls : ByteArray := prog_14_method_36_code
def yX12_falls : MethodName := ⟨RX12, "falls", "(I)I"⟩
abbrev cX12_lots : ByteArray := prog_14_method_37_code
def yX12_lots : MethodName := ⟨RX12, "lots", "(IIII)I"⟩
abbrev cX12_comesPoint : ByteArray := prog_14_method_38_code
def yX12_comesPoint : MethodName := ⟨RX12, "comesPoint", "(IIII)V"⟩
abbrev cX12_point : ByteArray := prog_14_method_39_code
def yX12_point : MethodName := ⟨RX12, "point", "(II)I"⟩
abbrev cX12_twos : ByteArray := prog_14_method_40_code
def yX12_twos : MethodName := ⟨RX12, "twos", "(J)I"⟩
abbrev cX12_valuation : ByteArray := prog_14_method_41_code
def yX12_valuation : MethodName := ⟨RX12, "valuation", "(JJ)I"⟩
abbrev cX12_valuationOf : ByteArray := prog_14_method_42_code
def yX12_valuationOf : MethodName := ⟨RX12, "valuationOf", "(II)I"⟩
abbrev cX12_colourBy : ByteArray := prog_14_method_43_code
def yX12_colourBy : MethodName := ⟨RX12, "colourBy", "(II)I"⟩
abbrev cX12_isPoint : ByteArray := prog_14_method_44_code
def yX12_isPoint : MethodName := ⟨RX12, "isPoint", "(I)Z"⟩
abbrev cX12_colour : ByteArray := prog_14_method_45_code
def yX12_colour : MethodName := ⟨RX12, "colour", "(II)I"⟩
abbrev cX12_comesTriangle : ByteArray := prog_14_method_46_code
def yX12_comesTriangle : MethodName := ⟨RX12, "comesTriangle", "(IIII)V"⟩
abbrev cX12_areThree : ByteArray := prog_14_method_47_code
def yX12_areThree : MethodName := ⟨RX12, "areThree", "(III)Z"⟩
abbrev cX12_triangle : ByteArray := prog_14_method_48_code
def yX12_triangle : MethodName := ⟨RX12, "triangle", "(IIII)I"⟩
abbrev cX12_isUnder : ByteArray := prog_14_method_49_code
def yX12_isUnder : MethodName := ⟨RX12, "isUnder", "(II)Z"⟩
abbrev cX12_tells : ByteArray := prog_14_method_50_code
def yX12_tells : MethodName := ⟨RX12, "tells", "(JJ)V"⟩
abbrev cX12_over : ByteArray := prog_14_method_51_code
def yX12_over : MethodName := ⟨RX12, "over", "(II)J"⟩
abbrev cX12_under : ByteArray := prog_14_method_52_code
def yX12_under : MethodName := ⟨RX12, "under", "(II)J"⟩
abbrev cX12_more : ByteArray := prog_14_method_53_code
def yX12_more : MethodName := ⟨RX12, "more", "(III)J"⟩
abbrev cX12_belowOf : ByteArray := prog_14_method_54_code
def yX12_belowOf : MethodName := ⟨RX12, "belowOf", "(III)J"⟩
abbrev cX12_areaOf : ByteArray := prog_14_method_55_code
def yX12_areaOf : MethodName := ⟨RX12, "areaOf", "(I)V"⟩
abbrev cX12_coloursOf : ByteArray := prog_14_method_56_code
def yX12_coloursOf : MethodName := ⟨RX12, "coloursOf", "(I)I"⟩
abbrev cX12_areaValuation : ByteArray := prog_14_method_57_code
def yX12_areaValuation : MethodName := ⟨RX12, "areaValuation", "(I)I"⟩
abbrev cX12_isTriangle : ByteArray := prog_14_method_58_code
def yX12_isTriangle : MethodName := ⟨RX12, "isTriangle", "(I)Z"⟩
abbrev cX12_tri : ByteArray := prog_14_method_59_code
def yX12_tri : MethodName := ⟨RX12, "tri", "(II)I"⟩
abbrev cX12_area : ByteArray := prog_14_method_60_code
def yX12_area : MethodName := ⟨RX12, "area", "(II)J"⟩
abbrev cX12_isSet : ByteArray := prog_14_method_61_code
def yX12_isSet : MethodName := ⟨RX12, "isSet", "(I)Z"⟩
abbrev cX12_isGreat : ByteArray := prog_14_method_62_code
def yX12_isGreat : MethodName := ⟨RX12, "isGreat", "()Z"⟩
abbrev cX12_sum : ByteArray := prog_14_method_63_code
def yX12_sum : MethodName := ⟨RX12, "sum", "(II)J"⟩
abbrev cX12_evens : ByteArray := prog_14_method_64_code
def yX12_evens : MethodName := ⟨RX12, "evens", "(I)I"⟩
abbrev cX12_rainbows : ByteArray := prog_14_method_65_code
def yX12_rainbows : MethodName := ⟨RX12, "rainbows", "(I)I"⟩
abbrev cX12_isAlike : ByteArray := prog_14_method_66_code
def yX12_isAlike : MethodName := ⟨RX12, "isAlike", "(I)Z"⟩
abbrev cX12_even : ByteArray := prog_14_method_67_code
def yX12_even : MethodName := ⟨RX12, "even", "(II)I"⟩
abbrev cX12_floatOf : ByteArray := prog_14_method_68_code
def yX12_floatOf : MethodName := ⟨RX12, "floatOf", "(I)F"⟩
abbrev cX12_bits : ByteArray := prog_14_method_69_code
def yX12_bits : MethodName := ⟨RX12, "bits", "(I)I"⟩
abbrev cX12_bitsOf : ByteArray := prog_14_method_70_code
def yX12_bitsOf : MethodName := ⟨RX12, "bitsOf", "(II)I"⟩
abbrev cX12_longBits : ByteArray := prog_14_method_71_code
def yX12_longBits : MethodName := ⟨RX12, "longBits", "(I)J"⟩
abbrev cX12_isRack : ByteArray := prog_14_method_72_code
def yX12_isRack : MethodName := ⟨RX12, "isRack", "(I)Z"⟩
abbrev cX12_rack : ByteArray := prog_14_method_73_code
def yX12_rack : MethodName := ⟨RX12, "rack", "(III)I"⟩
abbrev cX12_racks : ByteArray := prog_14_method_74_code
def yX12_racks : MethodName := ⟨RX12, "racks", "(III)I"⟩
abbrev cX12_racked : ByteArray := prog_14_method_75_code
def yX12_racked : MethodName := ⟨RX12, "racked", "(III)I"⟩
abbrev cX12_like : ByteArray := prog_14_method_76_code
def yX12_like : MethodName := ⟨RX12, "like", "(II)I"⟩
abbrev cX12_isList : ByteArray := prog_14_method_77_code
def yX12_isList : MethodName := ⟨RX12, "isList", "(I)Z"⟩
abbrev cX12_list : ByteArray := prog_14_method_78_code
def yX12_list : MethodName := ⟨RX12, "list", "(II)I"⟩
abbrev cX12_put : ByteArray := prog_14_method_79_code
def yX12_put : MethodName := ⟨RX12, "put", "(III)I"⟩
abbrev cX12_look : ByteArray := prog_14_method_80_code
def yX12_look : MethodName := ⟨RX12, "look", "(II)J"⟩
abbrev cX12_judge : ByteArray := prog_14_method_81_code
def yX12_judge : MethodName := ⟨RX12, "judge", "(I)I"⟩
abbrev cX12_letter : ByteArray := prog_14_method_82_code
def yX12_letter : MethodName := ⟨RX12, "letter", "(I)I"⟩
abbrev cX12_numbersOf : ByteArray := prog_14_method_83_code
def yX12_numbersOf : MethodName := ⟨RX12, "numbersOf", "(I)I"⟩
abbrev cX12_digitsOf : ByteArray := prog_14_method_84_code
def yX12_digitsOf : MethodName := ⟨RX12, "digitsOf", "(II)I"⟩
abbrev cX12_statement : ByteArray := prog_14_method_85_code
def yX12_statement : MethodName := ⟨RX12, "statement", "()I"⟩
abbrev cX12_isDone : ByteArray := prog_14_method_86_code
def yX12_isDone : MethodName := ⟨RX12, "isDone", "(I)Z"⟩
abbrev cX12_isRuled : ByteArray := prog_14_method_87_code
def yX12_isRuled : MethodName := ⟨RX12, "isRuled", "()Z"⟩
abbrev cX12_text : ByteArray := prog_14_method_88_code
def yX12_text : MethodName := ⟨RX12, "text", "()I"⟩
abbrev cX12_done : ByteArray := prog_14_method_89_code
def yX12_done : MethodName := ⟨RX12, "done", "(I)I"⟩
abbrev cX12_image : ByteArray := prog_14_method_90_code
def yX12_image : MethodName := ⟨RX12, "image", "()I"⟩
abbrev cX12_on : ByteArray := prog_14_method_91_code
def yX12_on : MethodName := ⟨RX12, "on", "()I"⟩
abbrev cX12_count : ByteArray := prog_14_method_92_code
def yX12_count : MethodName := ⟨RX12, "count", "(I)I"⟩
def RJxe99ae : String := "java/lang/Double"
def TJxe99ae : u_T := fun k => match k with
  | _ => ("", "", "", false)
def tyJxe99ae : Nat → FieldType := fun k => match k with
  | _ => .int
abbrev wsJxe99ae0 : List Cond := u_ws RJxe99ae TJxe99ae 0
theorem nmJxe99ae : ∀ a, a < 0 → ∀ b, b < 0 → a ≠ b → (TJxe99ae a).2.1 ≠ (TJxe99ae b).2.1 := by decide +kernel
theorem tyJxe99ae_ok : ∀ k, k < 0 → parseFieldDescriptor (TJxe99ae k).2.2.1 = some (tyJxe99ae k) := by decide +kernel
abbrev cJxe99ae_isNaN_b9ae7 : ByteArray := prog_15_method_6_code
def yJxe99ae_isNaN_b9ae7 : MethodName := ⟨RJxe99ae, "isNaN", "(D)Z"⟩
abbrev cJxe99ae_doubleToLongBits_ccdee : ByteArray := prog_15_method_23_code
def yJxe99ae_doubleToLongBits_ccdee : MethodName := ⟨RJxe99ae, "doubleToLongBits", "(D)J"⟩
def RJxf58ca : String := "java/lang/Float"
def TJxf58ca : u_T := fun k => match k with
  | _ => ("", "", "", false)
def tyJxf58ca : Nat → FieldType := fun k => match k with
  | _ => .int
abbrev wsJxf58ca0 : List Cond := u_ws RJxf58ca TJxf58ca 0
theorem nmJxf58ca : ∀ a, a < 0 → ∀ b, b < 0 → a ≠ b → (TJxf58ca a).2.1 ≠ (TJxf58ca b).2.1 := by decide +kernel
theorem tyJxf58ca_ok : ∀ k, k < 0 → parseFieldDescriptor (TJxf58ca k).2.2.1 = some (tyJxf58ca k) := by decide +kernel
abbrev cJxf58ca_isNaN_12338 : ByteArray := prog_16_method_6_code
def yJxf58ca_isNaN_12338 : MethodName := ⟨RJxf58ca, "isNaN", "(F)Z"⟩
abbrev cJxf58ca_floatToIntBits_5c35a : ByteArray := prog_16_method_24_code
def yJxf58ca_floatToIntBits_5c35a : MethodName := ⟨RJxf58ca, "floatToIntBits", "(F)I"⟩
def RJ6 : String := "java/lang/Integer"
def TJ6 : u_T := fun k => match k with
  | _ => ("", "", "", false)
def tyJ6 : Nat → FieldType := fun k => match k with
  | _ => .int
abbrev wsJ60 : List Cond := u_ws RJ6 TJ6 0
theorem nmJ6 : ∀ a, a < 0 → ∀ b, b < 0 → a ≠ b → (TJ6 a).2.1 ≠ (TJ6 b).2.1 := by decide +kernel
theorem tyJ6_ok : ∀ k, k < 0 → parseFieldDescriptor (TJ6 k).2.2.1 = some (tyJ6 k) := by decide +kernel
abbrev cJ6_numberOfTrailingZeros_0f7a4 : ByteArray := prog_17_method_48_code
def yJ6_numberOfTrailingZeros_0f7a4 : MethodName := ⟨RJ6, "numberOfTrailingZeros", "(I)I"⟩
def RJ13 : String := "java/lang/Long"
def TJ13 : u_T := fun k => match k with
  | _ => ("", "", "", false)
def tyJ13 : Nat → FieldType := fun k => match k with
  | _ => .int
abbrev wsJ130 : List Cond := u_ws RJ13 TJ13 0
theorem nmJ13 : ∀ a, a < 0 → ∀ b, b < 0 → a ≠ b → (TJ13 a).2.1 ≠ (TJ13 b).2.1 := by decide +kernel
theorem tyJ13_ok : ∀ k, k < 0 → parseFieldDescriptor (TJ13 k).2.2.1 = some (tyJ13 k) := by decide +kernel
abbrev cJ13_numberOfTrailingZeros_95d88 : ByteArray := prog_18_method_49_code
def yJ13_numberOfTrailingZeros_95d88 : MethodName := ⟨RJ13, "numberOfTrailingZeros", "(J)I"⟩
def RJ9 : String := "java/lang/Math"
def TJ9 : u_T := fun k => match k with
  | _ => ("", "", "", false)
def tyJ9 : Nat → FieldType := fun k => match k with
  | _ => .int
abbrev wsJ90 : List Cond := u_ws RJ9 TJ9 0
theorem nmJ9 : ∀ a, a < 0 → ∀ b, b < 0 → a ≠ b → (TJ9 a).2.1 ≠ (TJ9 b).2.1 := by decide +kernel
theorem tyJ9_ok : ∀ k, k < 0 → parseFieldDescriptor (TJ9 k).2.2.1 = some (tyJ9 k) := by decide +kernel
abbrev cJ9_abs_067f4 : ByteArray := prog_19_method_61_code
def yJ9_abs_067f4 : MethodName := ⟨RJ9, "abs", "(J)J"⟩
def RJ10 : String := "java/lang/System"
def TJ10 : u_T := fun k => match k with
  | _ => ("", "", "", false)
def tyJ10 : Nat → FieldType := fun k => match k with
  | _ => .int
abbrev wsJ100 : List Cond := u_ws RJ10 TJ10 0
theorem nmJ10 : ∀ a, a < 0 → ∀ b, b < 0 → a ≠ b → (TJ10 a).2.1 ≠ (TJ10 b).2.1 := by decide +kernel
theorem tyJ10_ok : ∀ k, k < 0 → parseFieldDescriptor (TJ10 k).2.2.1 = some (tyJ10 k) := by decide +kernel
def RL : String := "CutInCopiesLaw"
abbrev cL_law : ByteArray := code
def yL_law : MethodName := ⟨RL, "law", "([I)Z"⟩
abbrev vwCl : List vw_C := [(RX0, TX0, 11), (RX2, TX2, 2), (RX3, TX3, 6), (RX4, TX4, 4), (RX5, TX5, 2), (RX6, TX6, 2), (RX7, TX7, 3), (RX8, TX8, 5), (RX9, TX9, 4), (RX10, TX10, 6), (RX11, TX11, 8), (RX12, TX12, 43)]
theorem ab_inRX0 : ∀ w ∈ u_ws RX0 TX0 11, w ∈ lw_tbl := by decide +kernel
theorem ab_inRX2 : ∀ w ∈ u_ws RX2 TX2 2, w ∈ lw_tbl := by decide +kernel
theorem ab_inRX3 : ∀ w ∈ u_ws RX3 TX3 6, w ∈ lw_tbl := by decide +kernel
theorem ab_inRX4 : ∀ w ∈ u_ws RX4 TX4 4, w ∈ lw_tbl := by decide +kernel
theorem ab_inRX5 : ∀ w ∈ u_ws RX5 TX5 2, w ∈ lw_tbl := by decide +kernel
theorem ab_inRX6 : ∀ w ∈ u_ws RX6 TX6 2, w ∈ lw_tbl := by decide +kernel
theorem ab_inRX7 : ∀ w ∈ u_ws RX7 TX7 3, w ∈ lw_tbl := by decide +kernel
theorem ab_inRX8 : ∀ w ∈ u_ws RX8 TX8 5, w ∈ lw_tbl := by decide +kernel
theorem ab_inRX9 : ∀ w ∈ u_ws RX9 TX9 4, w ∈ lw_tbl := by decide +kernel
theorem ab_inRX10 : ∀ w ∈ u_ws RX10 TX10 6, w ∈ lw_tbl := by decide +kernel
theorem ab_inRX11 : ∀ w ∈ u_ws RX11 TX11 8, w ∈ lw_tbl := by decide +kernel
theorem ab_inRX12 : ∀ w ∈ u_ws RX12 TX12 43, w ∈ lw_tbl := by decide +kernel
abbrev mX0_init : MethodName × ByteArray × Nat × Option FieldType := (yX0_init, cX0_init, 1, none)
abbrev mX0_isCell : MethodName × ByteArray × Nat × Option FieldType := (yX0_isCell, cX0_isCell, 4, (some Jvm.ClassFile.FieldType.boolean))
abbrev mX0_cutAnew : MethodName × ByteArray × Nat × Option FieldType := (yX0_cutAnew, cX0_cutAnew, 5, none)
abbrev mX0_cutBlock : MethodName × ByteArray × Nat × Option FieldType := (yX0_cutBlock, cX0_cutBlock, 13, none)
abbrev mX0_lay : MethodName × ByteArray × Nat × Option FieldType := (yX0_lay, cX0_lay, 8, none)
abbrev mX0_has : MethodName × ByteArray × Nat × Option FieldType := (yX0_has, cX0_has, 3, (some Jvm.ClassFile.FieldType.boolean))
abbrev mX0_hasPiece : MethodName × ByteArray × Nat × Option FieldType := (yX0_hasPiece, cX0_hasPiece, 2, (some Jvm.ClassFile.FieldType.boolean))
abbrev mX0_pieceAt : MethodName × ByteArray × Nat × Option FieldType := (yX0_pieceAt, cX0_pieceAt, 3, (some Jvm.ClassFile.FieldType.int))
abbrev mX0_wayOf : MethodName × ByteArray × Nat × Option FieldType := (yX0_wayOf, cX0_wayOf, 2, (some Jvm.ClassFile.FieldType.int))
abbrev mX0_sizeOf : MethodName × ByteArray × Nat × Option FieldType := (yX0_sizeOf, cX0_sizeOf, 2, (some Jvm.ClassFile.FieldType.int))
abbrev mX0_cornerX : MethodName × ByteArray × Nat × Option FieldType := (yX0_cornerX, cX0_cornerX, 3, (some Jvm.ClassFile.FieldType.int))
abbrev mX0_cornerY : MethodName × ByteArray × Nat × Option FieldType := (yX0_cornerY, cX0_cornerY, 3, (some Jvm.ClassFile.FieldType.int))
abbrev mX0_touching : MethodName × ByteArray × Nat × Option FieldType := (yX0_touching, cX0_touching, 4, (some Jvm.ClassFile.FieldType.int))
abbrev mX0_touchAround : MethodName × ByteArray × Nat × Option FieldType := (yX0_touchAround, cX0_touchAround, 3, none)
abbrev mX0_touch : MethodName × ByteArray × Nat × Option FieldType := (yX0_touch, cX0_touch, 4, none)
abbrev mX0_inWindow : MethodName × ByteArray × Nat × Option FieldType := (yX0_inWindow, cX0_inWindow, 9, (some Jvm.ClassFile.FieldType.int))
abbrev mX0_atBorder : MethodName × ByteArray × Nat × Option FieldType := (yX0_atBorder, cX0_atBorder, 1, (some Jvm.ClassFile.FieldType.int))
abbrev mX0_lyingIn : MethodName × ByteArray × Nat × Option FieldType := (yX0_lyingIn, cX0_lyingIn, 4, (some Jvm.ClassFile.FieldType.int))
abbrev mX0_likelihood : MethodName × ByteArray × Nat × Option FieldType := (yX0_likelihood, cX0_likelihood, 2, (some (Jvm.ClassFile.FieldType.object "CutInCopies$Fraction")))
abbrev mX1_intBits : MethodName × ByteArray × Nat × Option FieldType := (yX1_intBits, cX1_intBits, 4, (some Jvm.ClassFile.FieldType.int))
abbrev mX1_longBitsOfDouble : MethodName × ByteArray × Nat × Option FieldType := (yX1_longBitsOfDouble, cX1_longBitsOfDouble, 7, (some Jvm.ClassFile.FieldType.long))
abbrev mX2_init : MethodName × ByteArray × Nat × Option FieldType := (yX2_init, cX2_init, 5, none)
abbrev mX2_inLeastTerms : MethodName × ByteArray × Nat × Option FieldType := (yX2_inLeastTerms, cX2_inLeastTerms, 6, (some (Jvm.ClassFile.FieldType.object "CutInCopies$Fraction")))
abbrev mX2_greatestDivisor : MethodName × ByteArray × Nat × Option FieldType := (yX2_greatestDivisor, cX2_greatestDivisor, 11, (some Jvm.ClassFile.FieldType.long))
abbrev mX2_plus : MethodName × ByteArray × Nat × Option FieldType := (yX2_plus, cX2_plus, 2, (some (Jvm.ClassFile.FieldType.object "CutInCopies$Fraction")))
abbrev mX2_minus : MethodName × ByteArray × Nat × Option FieldType := (yX2_minus, cX2_minus, 2, (some (Jvm.ClassFile.FieldType.object "CutInCopies$Fraction")))
abbrev mX2_times : MethodName × ByteArray × Nat × Option FieldType := (yX2_times, cX2_times, 2, (some (Jvm.ClassFile.FieldType.object "CutInCopies$Fraction")))
abbrev mX2_equalTo : MethodName × ByteArray × Nat × Option FieldType := (yX2_equalTo, cX2_equalTo, 2, (some Jvm.ClassFile.FieldType.boolean))
abbrev mX2_isAbove : MethodName × ByteArray × Nat × Option FieldType := (yX2_isAbove, cX2_isAbove, 3, (some Jvm.ClassFile.FieldType.boolean))
abbrev mX2_valuation : MethodName × ByteArray × Nat × Option FieldType := (yX2_valuation, cX2_valuation, 1, (some Jvm.ClassFile.FieldType.int))
abbrev mX2_twosIn : MethodName × ByteArray × Nat × Option FieldType := (yX2_twosIn, cX2_twosIn, 3, (some Jvm.ClassFile.FieldType.int))
abbrev mX2_told : MethodName × ByteArray × Nat × Option FieldType := (yX2_told, cX2_told, 2, (some Jvm.ClassFile.FieldType.long))
abbrev mX2_asFloat : MethodName × ByteArray × Nat × Option FieldType := (yX2_asFloat, cX2_asFloat, 1, (some Jvm.ClassFile.FieldType.float))
abbrev mX2_asDouble : MethodName × ByteArray × Nat × Option FieldType := (yX2_asDouble, cX2_asDouble, 1, (some Jvm.ClassFile.FieldType.double))
abbrev mX3_init : MethodName × ByteArray × Nat × Option FieldType := (yX3_init, cX3_init, 1, none)
abbrev mX3_take : MethodName × ByteArray × Nat × Option FieldType := (yX3_take, cX3_take, 4, none)
abbrev mX3_giveBack : MethodName × ByteArray × Nat × Option FieldType := (yX3_giveBack, cX3_giveBack, 4, none)
abbrev mX4_init : MethodName × ByteArray × Nat × Option FieldType := (yX4_init, cX4_init, 1, none)
abbrev mX4_isFull : MethodName × ByteArray × Nat × Option FieldType := (yX4_isFull, cX4_isFull, 1, (some Jvm.ClassFile.FieldType.boolean))
abbrev mX4_append : MethodName × ByteArray × Nat × Option FieldType := (yX4_append, cX4_append, 2, none)
abbrev mX4_clear : MethodName × ByteArray × Nat × Option FieldType := (yX4_clear, cX4_clear, 1, none)
abbrev mX4_letterAt : MethodName × ByteArray × Nat × Option FieldType := (yX4_letterAt, cX4_letterAt, 2, (some Jvm.ClassFile.FieldType.char))
abbrev mX4_digitsBehind : MethodName × ByteArray × Nat × Option FieldType := (yX4_digitsBehind, cX4_digitsBehind, 1, (some Jvm.ClassFile.FieldType.int))
abbrev mX4_read : MethodName × ByteArray × Nat × Option FieldType := (yX4_read, cX4_read, 3, (some Jvm.ClassFile.FieldType.int))
abbrev mX4_firstWrongFrom : MethodName × ByteArray × Nat × Option FieldType := (yX4_firstWrongFrom, cX4_firstWrongFrom, 4, (some Jvm.ClassFile.FieldType.int))
abbrev mX4_digit : MethodName × ByteArray × Nat × Option FieldType := (yX4_digit, cX4_digit, 2, (some Jvm.ClassFile.FieldType.int))
abbrev mX4_twoDigits : MethodName × ByteArray × Nat × Option FieldType := (yX4_twoDigits, cX4_twoDigits, 2, (some Jvm.ClassFile.FieldType.int))
abbrev mX4_fourDigits : MethodName × ByteArray × Nat × Option FieldType := (yX4_fourDigits, cX4_fourDigits, 2, (some Jvm.ClassFile.FieldType.int))
abbrev mX5_init : MethodName × ByteArray × Nat × Option FieldType := (yX5_init, cX5_init, 1, none)
abbrev mX5_isMissing : MethodName × ByteArray × Nat × Option FieldType := (yX5_isMissing, cX5_isMissing, 1, (some Jvm.ClassFile.FieldType.boolean))
abbrev mX5_hasPlace : MethodName × ByteArray × Nat × Option FieldType := (yX5_hasPlace, cX5_hasPlace, 2, (some Jvm.ClassFile.FieldType.boolean))
abbrev mX5_makeZeros : MethodName × ByteArray × Nat × Option FieldType := (yX5_makeZeros, cX5_makeZeros, 3, none)
abbrev mX6_init : MethodName × ByteArray × Nat × Option FieldType := (yX6_init, cX6_init, 3, none)
abbrev mX6_shade : MethodName × ByteArray × Nat × Option FieldType := (yX6_shade, cX6_shade, 4, (some Jvm.ClassFile.FieldType.int))
abbrev mX7_init : MethodName × ByteArray × Nat × Option FieldType := (yX7_init, cX7_init, 1, none)
abbrev mX7_isMissing : MethodName × ByteArray × Nat × Option FieldType := (yX7_isMissing, cX7_isMissing, 1, (some Jvm.ClassFile.FieldType.boolean))
abbrev mX7_hasPlace : MethodName × ByteArray × Nat × Option FieldType := (yX7_hasPlace, cX7_hasPlace, 2, (some Jvm.ClassFile.FieldType.boolean))
abbrev mX7_takes : MethodName × ByteArray × Nat × Option FieldType := (yX7_takes, cX7_takes, 2, (some Jvm.ClassFile.FieldType.boolean))
abbrev mX7_makeFor : MethodName × ByteArray × Nat × Option FieldType := (yX7_makeFor, cX7_makeFor, 4, none)
abbrev mX7_copyFrom : MethodName × ByteArray × Nat × Option FieldType := (yX7_copyFrom, cX7_copyFrom, 3, none)
abbrev mX8_init : MethodName × ByteArray × Nat × Option FieldType := (yX8_init, cX8_init, 2, none)
abbrev mX8_copyFrom : MethodName × ByteArray × Nat × Option FieldType := (yX8_copyFrom, cX8_copyFrom, 2, none)
abbrev mX8_wayOfPart : MethodName × ByteArray × Nat × Option FieldType := (yX8_wayOfPart, cX8_wayOfPart, 3, (some Jvm.ClassFile.FieldType.int))
abbrev mX8_become : MethodName × ByteArray × Nat × Option FieldType := (yX8_become, cX8_become, 4, none)
abbrev mX8_lyingBehind : MethodName × ByteArray × Nat × Option FieldType := (yX8_lyingBehind, cX8_lyingBehind, 5, (some Jvm.ClassFile.FieldType.long))
abbrev mX8_startWith : MethodName × ByteArray × Nat × Option FieldType := (yX8_startWith, cX8_startWith, 3, none)
abbrev mX8_cutOnce : MethodName × ByteArray × Nat × Option FieldType := (yX8_cutOnce, cX8_cutOnce, 3, none)
abbrev mX8_cutsToAlike : MethodName × ByteArray × Nat × Option FieldType := (yX8_cutsToAlike, cX8_cutsToAlike, 3, (some Jvm.ClassFile.FieldType.int))
abbrev mX8_wayAt : MethodName × ByteArray × Nat × Option FieldType := (yX8_wayAt, cX8_wayAt, 7, (some Jvm.ClassFile.FieldType.int))
abbrev mX8_meeting : MethodName × ByteArray × Nat × Option FieldType := (yX8_meeting, cX8_meeting, 6, (some Jvm.ClassFile.FieldType.int))
abbrev mX8_addFirstDigit : MethodName × ByteArray × Nat × Option FieldType := (yX8_addFirstDigit, cX8_addFirstDigit, 5, none)
abbrev mX8_steadyWays : MethodName × ByteArray × Nat × Option FieldType := (yX8_steadyWays, cX8_steadyWays, 5, (some Jvm.ClassFile.FieldType.int))
abbrev mX8_waysBehind : MethodName × ByteArray × Nat × Option FieldType := (yX8_waysBehind, cX8_waysBehind, 4, (some Jvm.ClassFile.FieldType.int))
abbrev mX8_drawLots : MethodName × ByteArray × Nat × Option FieldType := (yX8_drawLots, cX8_drawLots, 11, (some Jvm.ClassFile.FieldType.int))
abbrev mX9_init : MethodName × ByteArray × Nat × Option FieldType := (yX9_init, cX9_init, 1, none)
abbrev mX9_copyFrom : MethodName × ByteArray × Nat × Option FieldType := (yX9_copyFrom, cX9_copyFrom, 3, none)
abbrev mX9_hasPoint : MethodName × ByteArray × Nat × Option FieldType := (yX9_hasPoint, cX9_hasPoint, 2, (some Jvm.ClassFile.FieldType.boolean))
abbrev mX9_hasTriangle : MethodName × ByteArray × Nat × Option FieldType := (yX9_hasTriangle, cX9_hasTriangle, 2, (some Jvm.ClassFile.FieldType.boolean))
abbrev mX9_hasSet : MethodName × ByteArray × Nat × Option FieldType := (yX9_hasSet, cX9_hasSet, 2, (some Jvm.ClassFile.FieldType.boolean))
abbrev mX9_areThree : MethodName × ByteArray × Nat × Option FieldType := (yX9_areThree, cX9_areThree, 5, (some Jvm.ClassFile.FieldType.boolean))
abbrev mX9_addPoint : MethodName × ByteArray × Nat × Option FieldType := (yX9_addPoint, cX9_addPoint, 3, none)
abbrev mX9_fractionOf : MethodName × ByteArray × Nat × Option FieldType := (yX9_fractionOf, cX9_fractionOf, 1, (some (Jvm.ClassFile.FieldType.object "CutInCopies$Fraction")))
abbrev mX9_addTriangle : MethodName × ByteArray × Nat × Option FieldType := (yX9_addTriangle, cX9_addTriangle, 5, none)
abbrev mX9_isIn : MethodName × ByteArray × Nat × Option FieldType := (yX9_isIn, cX9_isIn, 3, (some Jvm.ClassFile.FieldType.boolean))
abbrev mX9_exactSum : MethodName × ByteArray × Nat × Option FieldType := (yX9_exactSum, cX9_exactSum, 5, (some (Jvm.ClassFile.FieldType.object "CutInCopies$Fraction")))
abbrev mX9_evenOnes : MethodName × ByteArray × Nat × Option FieldType := (yX9_evenOnes, cX9_evenOnes, 4, (some Jvm.ClassFile.FieldType.int))
abbrev mX9_rainbows : MethodName × ByteArray × Nat × Option FieldType := (yX9_rainbows, cX9_rainbows, 4, (some Jvm.ClassFile.FieldType.int))
abbrev mX9_areAlike : MethodName × ByteArray × Nat × Option FieldType := (yX9_areAlike, cX9_areAlike, 4, (some Jvm.ClassFile.FieldType.boolean))
abbrev mX9_floatSum : MethodName × ByteArray × Nat × Option FieldType := (yX9_floatSum, cX9_floatSum, 4, (some Jvm.ClassFile.FieldType.float))
abbrev mX9_doubleSum : MethodName × ByteArray × Nat × Option FieldType := (yX9_doubleSum, cX9_doubleSum, 5, (some Jvm.ClassFile.FieldType.double))
abbrev mX10_init : MethodName × ByteArray × Nat × Option FieldType := (yX10_init, cX10_init, 7, none)
abbrev mX10_lyingOn : MethodName × ByteArray × Nat × Option FieldType := (yX10_lyingOn, cX10_lyingOn, 14, (some (Jvm.ClassFile.FieldType.object "CutInCopies$Triangle")))
abbrev mX10_isKind : MethodName × ByteArray × Nat × Option FieldType := (yX10_isKind, cX10_isKind, 1, (some Jvm.ClassFile.FieldType.boolean))
abbrev mX10_isUnder : MethodName × ByteArray × Nat × Option FieldType := (yX10_isUnder, cX10_isUnder, 4, (some Jvm.ClassFile.FieldType.boolean))
abbrev mX10_isRainbow : MethodName × ByteArray × Nat × Option FieldType := (yX10_isRainbow, cX10_isRainbow, 1, (some Jvm.ClassFile.FieldType.boolean))
abbrev mX11_init : MethodName × ByteArray × Nat × Option FieldType := (yX11_init, cX11_init, 2, none)
abbrev mX11_letter : MethodName × ByteArray × Nat × Option FieldType := (yX11_letter, cX11_letter, 2, (some Jvm.ClassFile.FieldType.int))
abbrev mX11_text : MethodName × ByteArray × Nat × Option FieldType := (yX11_text, cX11_text, 3, (some Jvm.ClassFile.FieldType.int))
abbrev mX11_board : MethodName × ByteArray × Nat × Option FieldType := (yX11_board, cX11_board, 4, (some Jvm.ClassFile.FieldType.int))
abbrev mX11_piece : MethodName × ByteArray × Nat × Option FieldType := (yX11_piece, cX11_piece, 3, (some Jvm.ClassFile.FieldType.int))
abbrev mX11_of : MethodName × ByteArray × Nat × Option FieldType := (yX11_of, cX11_of, 3, (some Jvm.ClassFile.FieldType.int))
abbrev mX11_within : MethodName × ByteArray × Nat × Option FieldType := (yX11_within, cX11_within, 5, (some Jvm.ClassFile.FieldType.int))
abbrev mX11_pieces : MethodName × ByteArray × Nat × Option FieldType := (yX11_pieces, cX11_pieces, 2, (some Jvm.ClassFile.FieldType.int))
abbrev mX11_odds : MethodName × ByteArray × Nat × Option FieldType := (yX11_odds, cX11_odds, 3, (some Jvm.ClassFile.FieldType.long))
abbrev mX11_rule : MethodName × ByteArray × Nat × Option FieldType := (yX11_rule, cX11_rule, 5, (some Jvm.ClassFile.FieldType.int))
abbrev mX11_behind : MethodName × ByteArray × Nat × Option FieldType := (yX11_behind, cX11_behind, 4, (some Jvm.ClassFile.FieldType.long))
abbrev mX11_address : MethodName × ByteArray × Nat × Option FieldType := (yX11_address, cX11_address, 4, (some Jvm.ClassFile.FieldType.int))
abbrev mX11_meet : MethodName × ByteArray × Nat × Option FieldType := (yX11_meet, cX11_meet, 4, (some Jvm.ClassFile.FieldType.int))
abbrev mX11_steady : MethodName × ByteArray × Nat × Option FieldType := (yX11_steady, cX11_steady, 2, (some Jvm.ClassFile.FieldType.int))
abbrev mX11_falls : MethodName × ByteArray × Nat × Option FieldType := (yX11_falls, cX11_falls, 2, (some Jvm.ClassFile.FieldType.int))
abbrev mX11_lots : MethodName × ByteArray × Nat × Option FieldType := (yX11_lots, cX11_lots, 5, (some Jvm.ClassFile.FieldType.int))
abbrev mX11_point : MethodName × ByteArray × Nat × Option FieldType := (yX11_point, cX11_point, 3, (some Jvm.ClassFile.FieldType.int))
abbrev mX11_colour : MethodName × ByteArray × Nat × Option FieldType := (yX11_colour, cX11_colour, 4, (some Jvm.ClassFile.FieldType.int))
abbrev mX11_triangle : MethodName × ByteArray × Nat × Option FieldType := (yX11_triangle, cX11_triangle, 5, (some Jvm.ClassFile.FieldType.int))
abbrev mX11_tri : MethodName × ByteArray × Nat × Option FieldType := (yX11_tri, cX11_tri, 4, (some Jvm.ClassFile.FieldType.int))
abbrev mX11_area : MethodName × ByteArray × Nat × Option FieldType := (yX11_area, cX11_area, 3, (some Jvm.ClassFile.FieldType.long))
abbrev mX11_sum : MethodName × ByteArray × Nat × Option FieldType := (yX11_sum, cX11_sum, 4, (some Jvm.ClassFile.FieldType.long))
abbrev mX11_even : MethodName × ByteArray × Nat × Option FieldType := (yX11_even, cX11_even, 3, (some Jvm.ClassFile.FieldType.int))
abbrev mX11_bits : MethodName × ByteArray × Nat × Option FieldType := (yX11_bits, cX11_bits, 2, (some Jvm.ClassFile.FieldType.int))
abbrev mX11_bitsOf : MethodName × ByteArray × Nat × Option FieldType := (yX11_bitsOf, cX11_bitsOf, 3, (some Jvm.ClassFile.FieldType.int))
abbrev mX11_longBits : MethodName × ByteArray × Nat × Option FieldType := (yX11_longBits, cX11_longBits, 2, (some Jvm.ClassFile.FieldType.long))
abbrev mX11_rack : MethodName × ByteArray × Nat × Option FieldType := (yX11_rack, cX11_rack, 4, (some Jvm.ClassFile.FieldType.int))
abbrev mX11_racks : MethodName × ByteArray × Nat × Option FieldType := (yX11_racks, cX11_racks, 7, (some Jvm.ClassFile.FieldType.int))
abbrev mX11_racked : MethodName × ByteArray × Nat × Option FieldType := (yX11_racked, cX11_racked, 6, (some Jvm.ClassFile.FieldType.int))
abbrev mX11_like : MethodName × ByteArray × Nat × Option FieldType := (yX11_like, cX11_like, 3, (some Jvm.ClassFile.FieldType.int))
abbrev mX11_list : MethodName × ByteArray × Nat × Option FieldType := (yX11_list, cX11_list, 3, (some Jvm.ClassFile.FieldType.int))
abbrev mX11_put : MethodName × ByteArray × Nat × Option FieldType := (yX11_put, cX11_put, 5, (some Jvm.ClassFile.FieldType.int))
abbrev mX11_look : MethodName × ByteArray × Nat × Option FieldType := (yX11_look, cX11_look, 4, (some Jvm.ClassFile.FieldType.long))
abbrev mX11_judge : MethodName × ByteArray × Nat × Option FieldType := (yX11_judge, cX11_judge, 4, (some Jvm.ClassFile.FieldType.int))
abbrev mX11_image : MethodName × ByteArray × Nat × Option FieldType := (yX11_image, cX11_image, 1, (some Jvm.ClassFile.FieldType.int))
abbrev mX11_on : MethodName × ByteArray × Nat × Option FieldType := (yX11_on, cX11_on, 1, (some Jvm.ClassFile.FieldType.int))
abbrev mX11_count : MethodName × ByteArray × Nat × Option FieldType := (yX11_count, cX11_count, 2, (some Jvm.ClassFile.FieldType.int))
abbrev mX11_refuse : MethodName × ByteArray × Nat × Option FieldType := (yX11_refuse, cX11_refuse, 2, (some Jvm.ClassFile.FieldType.int))
abbrev mX11_refuseFar : MethodName × ByteArray × Nat × Option FieldType := (yX11_refuseFar, cX11_refuseFar, 2, (some Jvm.ClassFile.FieldType.long))
abbrev mX11_isWay : MethodName × ByteArray × Nat × Option FieldType := (yX11_isWay, cX11_isWay, 1, (some Jvm.ClassFile.FieldType.boolean))
abbrev mX11_isPartOfFraction : MethodName × ByteArray × Nat × Option FieldType := (yX11_isPartOfFraction, cX11_isPartOfFraction, 1, (some Jvm.ClassFile.FieldType.boolean))
abbrev mX11_isRow : MethodName × ByteArray × Nat × Option FieldType := (yX11_isRow, cX11_isRow, 1, (some Jvm.ClassFile.FieldType.boolean))
abbrev mX11_faultOfLetters : MethodName × ByteArray × Nat × Option FieldType := (yX11_faultOfLetters, cX11_faultOfLetters, 6, (some Jvm.ClassFile.FieldType.int))
abbrev mX11_canBe : MethodName × ByteArray × Nat × Option FieldType := (yX11_canBe, cX11_canBe, 4, (some Jvm.ClassFile.FieldType.boolean))
abbrev mX11_areWays : MethodName × ByteArray × Nat × Option FieldType := (yX11_areWays, cX11_areWays, 4, (some Jvm.ClassFile.FieldType.boolean))
abbrev mX11_runStatement : MethodName × ByteArray × Nat × Option FieldType := (yX11_runStatement, cX11_runStatement, 3, none)
abbrev mX12_refused : MethodName × ByteArray × Nat × Option FieldType := (yX12_refused, cX12_refused, 2, (some Jvm.ClassFile.FieldType.int))
abbrev mX12_refusedFar : MethodName × ByteArray × Nat × Option FieldType := (yX12_refusedFar, cX12_refusedFar, 2, (some Jvm.ClassFile.FieldType.long))
abbrev mX12_isIn : MethodName × ByteArray × Nat × Option FieldType := (yX12_isIn, cX12_isIn, 6, (some Jvm.ClassFile.FieldType.boolean))
abbrev mX12_has : MethodName × ByteArray × Nat × Option FieldType := (yX12_has, cX12_has, 2, (some Jvm.ClassFile.FieldType.boolean))
abbrev mX12_divisor : MethodName × ByteArray × Nat × Option FieldType := (yX12_divisor, cX12_divisor, 10, (some Jvm.ClassFile.FieldType.long))
abbrev mX12_part : MethodName × ByteArray × Nat × Option FieldType := (yX12_part, cX12_part, 7, (some Jvm.ClassFile.FieldType.long))
abbrev mX12_init : MethodName × ByteArray × Nat × Option FieldType := (yX12_init, cX12_init, 1, none)
abbrev mX12_side : MethodName × ByteArray × Nat × Option FieldType := (yX12_side, cX12_side, 1, (some Jvm.ClassFile.FieldType.int))
abbrev mX12_isCell : MethodName × ByteArray × Nat × Option FieldType := (yX12_isCell, cX12_isCell, 3, (some Jvm.ClassFile.FieldType.boolean))
abbrev mX12_lays : MethodName × ByteArray × Nat × Option FieldType := (yX12_lays, cX12_lays, 4, none)
abbrev mX12_cuts : MethodName × ByteArray × Nat × Option FieldType := (yX12_cuts, cX12_cuts, 11, none)
abbrev mX12_cell : MethodName × ByteArray × Nat × Option FieldType := (yX12_cell, cX12_cell, 3, (some Jvm.ClassFile.FieldType.int))
abbrev mX12_board : MethodName × ByteArray × Nat × Option FieldType := (yX12_board, cX12_board, 4, (some Jvm.ClassFile.FieldType.int))
abbrev mX12_piece : MethodName × ByteArray × Nat × Option FieldType := (yX12_piece, cX12_piece, 3, (some Jvm.ClassFile.FieldType.int))
abbrev mX12_areBeside : MethodName × ByteArray × Nat × Option FieldType := (yX12_areBeside, cX12_areBeside, 7, (some Jvm.ClassFile.FieldType.boolean))
abbrev mX12_isTouching : MethodName × ByteArray × Nat × Option FieldType := (yX12_isTouching, cX12_isTouching, 6, (some Jvm.ClassFile.FieldType.boolean))
abbrev mX12_touching : MethodName × ByteArray × Nat × Option FieldType := (yX12_touching, cX12_touching, 4, (some Jvm.ClassFile.FieldType.int))
abbrev mX12_of : MethodName × ByteArray × Nat × Option FieldType := (yX12_of, cX12_of, 3, (some Jvm.ClassFile.FieldType.int))
abbrev mX12_isWithin : MethodName × ByteArray × Nat × Option FieldType := (yX12_isWithin, cX12_isWithin, 9, (some Jvm.ClassFile.FieldType.boolean))
abbrev mX12_within : MethodName × ByteArray × Nat × Option FieldType := (yX12_within, cX12_within, 7, (some Jvm.ClassFile.FieldType.int))
abbrev mX12_edge : MethodName × ByteArray × Nat × Option FieldType := (yX12_edge, cX12_edge, 6, (some Jvm.ClassFile.FieldType.int))
abbrev mX12_inWay : MethodName × ByteArray × Nat × Option FieldType := (yX12_inWay, cX12_inWay, 4, (some Jvm.ClassFile.FieldType.int))
abbrev mX12_pieces : MethodName × ByteArray × Nat × Option FieldType := (yX12_pieces, cX12_pieces, 2, (some Jvm.ClassFile.FieldType.int))
abbrev mX12_isWay : MethodName × ByteArray × Nat × Option FieldType := (yX12_isWay, cX12_isWay, 1, (some Jvm.ClassFile.FieldType.boolean))
abbrev mX12_odds : MethodName × ByteArray × Nat × Option FieldType := (yX12_odds, cX12_odds, 4, (some Jvm.ClassFile.FieldType.long))
abbrev mX12_rulesAtFirst : MethodName × ByteArray × Nat × Option FieldType := (yX12_rulesAtFirst, cX12_rulesAtFirst, 2, none)
abbrev mX12_rule : MethodName × ByteArray × Nat × Option FieldType := (yX12_rule, cX12_rule, 5, (some Jvm.ClassFile.FieldType.int))
abbrev mX12_begins : MethodName × ByteArray × Nat × Option FieldType := (yX12_begins, cX12_begins, 3, none)
abbrev mX12_fallsAll : MethodName × ByteArray × Nat × Option FieldType := (yX12_fallsAll, cX12_fallsAll, 2, none)
abbrev mX12_behind : MethodName × ByteArray × Nat × Option FieldType := (yX12_behind, cX12_behind, 5, (some Jvm.ClassFile.FieldType.long))
abbrev mX12_address : MethodName × ByteArray × Nat × Option FieldType := (yX12_address, cX12_address, 7, (some Jvm.ClassFile.FieldType.int))
abbrev mX12_leads : MethodName × ByteArray × Nat × Option FieldType := (yX12_leads, cX12_leads, 6, none)
abbrev mX12_leastAlike : MethodName × ByteArray × Nat × Option FieldType := (yX12_leastAlike, cX12_leastAlike, 4, (some Jvm.ClassFile.FieldType.int))
abbrev mX12_meet : MethodName × ByteArray × Nat × Option FieldType := (yX12_meet, cX12_meet, 7, (some Jvm.ClassFile.FieldType.int))
abbrev mX12_steady : MethodName × ByteArray × Nat × Option FieldType := (yX12_steady, cX12_steady, 7, (some Jvm.ClassFile.FieldType.int))
abbrev mX12_falls : MethodName × ByteArray × Nat × Option FieldType := (yX12_falls, cX12_falls, 3, (some Jvm.ClassFile.FieldType.int))
abbrev mX12_lots : MethodName × ByteArray × Nat × Option FieldType := (yX12_lots, cX12_lots, 11, (some Jvm.ClassFile.FieldType.int))
abbrev mX12_comesPoint : MethodName × ByteArray × Nat × Option FieldType := (yX12_comesPoint, cX12_comesPoint, 5, none)
abbrev mX12_point : MethodName × ByteArray × Nat × Option FieldType := (yX12_point, cX12_point, 3, (some Jvm.ClassFile.FieldType.int))
abbrev mX12_twos : MethodName × ByteArray × Nat × Option FieldType := (yX12_twos, cX12_twos, 2, (some Jvm.ClassFile.FieldType.int))
abbrev mX12_valuation : MethodName × ByteArray × Nat × Option FieldType := (yX12_valuation, cX12_valuation, 4, (some Jvm.ClassFile.FieldType.int))
abbrev mX12_valuationOf : MethodName × ByteArray × Nat × Option FieldType := (yX12_valuationOf, cX12_valuationOf, 3, (some Jvm.ClassFile.FieldType.int))
abbrev mX12_colourBy : MethodName × ByteArray × Nat × Option FieldType := (yX12_colourBy, cX12_colourBy, 2, (some Jvm.ClassFile.FieldType.int))
abbrev mX12_isPoint : MethodName × ByteArray × Nat × Option FieldType := (yX12_isPoint, cX12_isPoint, 2, (some Jvm.ClassFile.FieldType.boolean))
abbrev mX12_colour : MethodName × ByteArray × Nat × Option FieldType := (yX12_colour, cX12_colour, 3, (some Jvm.ClassFile.FieldType.int))
abbrev mX12_comesTriangle : MethodName × ByteArray × Nat × Option FieldType := (yX12_comesTriangle, cX12_comesTriangle, 5, none)
abbrev mX12_areThree : MethodName × ByteArray × Nat × Option FieldType := (yX12_areThree, cX12_areThree, 4, (some Jvm.ClassFile.FieldType.boolean))
abbrev mX12_triangle : MethodName × ByteArray × Nat × Option FieldType := (yX12_triangle, cX12_triangle, 5, (some Jvm.ClassFile.FieldType.int))
abbrev mX12_isUnder : MethodName × ByteArray × Nat × Option FieldType := (yX12_isUnder, cX12_isUnder, 2, (some Jvm.ClassFile.FieldType.boolean))
abbrev mX12_tells : MethodName × ByteArray × Nat × Option FieldType := (yX12_tells, cX12_tells, 7, none)
abbrev mX12_over : MethodName × ByteArray × Nat × Option FieldType := (yX12_over, cX12_over, 3, (some Jvm.ClassFile.FieldType.long))
abbrev mX12_under : MethodName × ByteArray × Nat × Option FieldType := (yX12_under, cX12_under, 3, (some Jvm.ClassFile.FieldType.long))
abbrev mX12_more : MethodName × ByteArray × Nat × Option FieldType := (yX12_more, cX12_more, 4, (some Jvm.ClassFile.FieldType.long))
abbrev mX12_belowOf : MethodName × ByteArray × Nat × Option FieldType := (yX12_belowOf, cX12_belowOf, 4, (some Jvm.ClassFile.FieldType.long))
abbrev mX12_areaOf : MethodName × ByteArray × Nat × Option FieldType := (yX12_areaOf, cX12_areaOf, 9, none)
abbrev mX12_coloursOf : MethodName × ByteArray × Nat × Option FieldType := (yX12_coloursOf, cX12_coloursOf, 8, (some Jvm.ClassFile.FieldType.int))
abbrev mX12_areaValuation : MethodName × ByteArray × Nat × Option FieldType := (yX12_areaValuation, cX12_areaValuation, 2, (some Jvm.ClassFile.FieldType.int))
abbrev mX12_isTriangle : MethodName × ByteArray × Nat × Option FieldType := (yX12_isTriangle, cX12_isTriangle, 2, (some Jvm.ClassFile.FieldType.boolean))
abbrev mX12_tri : MethodName × ByteArray × Nat × Option FieldType := (yX12_tri, cX12_tri, 3, (some Jvm.ClassFile.FieldType.int))
abbrev mX12_area : MethodName × ByteArray × Nat × Option FieldType := (yX12_area, cX12_area, 3, (some Jvm.ClassFile.FieldType.long))
abbrev mX12_isSet : MethodName × ByteArray × Nat × Option FieldType := (yX12_isSet, cX12_isSet, 2, (some Jvm.ClassFile.FieldType.boolean))
abbrev mX12_isGreat : MethodName × ByteArray × Nat × Option FieldType := (yX12_isGreat, cX12_isGreat, 1, (some Jvm.ClassFile.FieldType.boolean))
abbrev mX12_sum : MethodName × ByteArray × Nat × Option FieldType := (yX12_sum, cX12_sum, 8, (some Jvm.ClassFile.FieldType.long))
abbrev mX12_evens : MethodName × ByteArray × Nat × Option FieldType := (yX12_evens, cX12_evens, 4, (some Jvm.ClassFile.FieldType.int))
abbrev mX12_rainbows : MethodName × ByteArray × Nat × Option FieldType := (yX12_rainbows, cX12_rainbows, 4, (some Jvm.ClassFile.FieldType.int))
abbrev mX12_isAlike : MethodName × ByteArray × Nat × Option FieldType := (yX12_isAlike, cX12_isAlike, 9, (some Jvm.ClassFile.FieldType.boolean))
abbrev mX12_even : MethodName × ByteArray × Nat × Option FieldType := (yX12_even, cX12_even, 3, (some Jvm.ClassFile.FieldType.int))
abbrev mX12_floatOf : MethodName × ByteArray × Nat × Option FieldType := (yX12_floatOf, cX12_floatOf, 2, (some Jvm.ClassFile.FieldType.float))
abbrev mX12_bits : MethodName × ByteArray × Nat × Option FieldType := (yX12_bits, cX12_bits, 2, (some Jvm.ClassFile.FieldType.int))
abbrev mX12_bitsOf : MethodName × ByteArray × Nat × Option FieldType := (yX12_bitsOf, cX12_bitsOf, 5, (some Jvm.ClassFile.FieldType.int))
abbrev mX12_longBits : MethodName × ByteArray × Nat × Option FieldType := (yX12_longBits, cX12_longBits, 5, (some Jvm.ClassFile.FieldType.long))
abbrev mX12_isRack : MethodName × ByteArray × Nat × Option FieldType := (yX12_isRack, cX12_isRack, 1, (some Jvm.ClassFile.FieldType.boolean))
abbrev mX12_rack : MethodName × ByteArray × Nat × Option FieldType := (yX12_rack, cX12_rack, 5, (some Jvm.ClassFile.FieldType.int))
abbrev mX12_racks : MethodName × ByteArray × Nat × Option FieldType := (yX12_racks, cX12_racks, 4, (some Jvm.ClassFile.FieldType.int))
abbrev mX12_racked : MethodName × ByteArray × Nat × Option FieldType := (yX12_racked, cX12_racked, 5, (some Jvm.ClassFile.FieldType.int))
abbrev mX12_like : MethodName × ByteArray × Nat × Option FieldType := (yX12_like, cX12_like, 4, (some Jvm.ClassFile.FieldType.int))
abbrev mX12_isList : MethodName × ByteArray × Nat × Option FieldType := (yX12_isList, cX12_isList, 1, (some Jvm.ClassFile.FieldType.boolean))
abbrev mX12_list : MethodName × ByteArray × Nat × Option FieldType := (yX12_list, cX12_list, 4, (some Jvm.ClassFile.FieldType.int))
abbrev mX12_put : MethodName × ByteArray × Nat × Option FieldType := (yX12_put, cX12_put, 4, (some Jvm.ClassFile.FieldType.int))
abbrev mX12_look : MethodName × ByteArray × Nat × Option FieldType := (yX12_look, cX12_look, 3, (some Jvm.ClassFile.FieldType.long))
abbrev mX12_judge : MethodName × ByteArray × Nat × Option FieldType := (yX12_judge, cX12_judge, 3, (some Jvm.ClassFile.FieldType.int))
abbrev mX12_letter : MethodName × ByteArray × Nat × Option FieldType := (yX12_letter, cX12_letter, 2, (some Jvm.ClassFile.FieldType.int))
abbrev mX12_numbersOf : MethodName × ByteArray × Nat × Option FieldType := (yX12_numbersOf, cX12_numbersOf, 1, (some Jvm.ClassFile.FieldType.int))
abbrev mX12_digitsOf : MethodName × ByteArray × Nat × Option FieldType := (yX12_digitsOf, cX12_digitsOf, 2, (some Jvm.ClassFile.FieldType.int))
abbrev mX12_statement : MethodName × ByteArray × Nat × Option FieldType := (yX12_statement, cX12_statement, 4, (some Jvm.ClassFile.FieldType.int))
abbrev mX12_isDone : MethodName × ByteArray × Nat × Option FieldType := (yX12_isDone, cX12_isDone, 2, (some Jvm.ClassFile.FieldType.boolean))
abbrev mX12_isRuled : MethodName × ByteArray × Nat × Option FieldType := (yX12_isRuled, cX12_isRuled, 3, (some Jvm.ClassFile.FieldType.boolean))
abbrev mX12_text : MethodName × ByteArray × Nat × Option FieldType := (yX12_text, cX12_text, 4, (some Jvm.ClassFile.FieldType.int))
abbrev mX12_done : MethodName × ByteArray × Nat × Option FieldType := (yX12_done, cX12_done, 10, (some Jvm.ClassFile.FieldType.int))
abbrev mX12_image : MethodName × ByteArray × Nat × Option FieldType := (yX12_image, cX12_image, 2, (some Jvm.ClassFile.FieldType.int))
abbrev mX12_on : MethodName × ByteArray × Nat × Option FieldType := (yX12_on, cX12_on, 2, (some Jvm.ClassFile.FieldType.int))
abbrev mX12_count : MethodName × ByteArray × Nat × Option FieldType := (yX12_count, cX12_count, 2, (some Jvm.ClassFile.FieldType.int))
abbrev mJxe99ae_isNaN_b9ae7 : MethodName × ByteArray × Nat × Option FieldType := (yJxe99ae_isNaN_b9ae7, cJxe99ae_isNaN_b9ae7, 2, (some Jvm.ClassFile.FieldType.boolean))
abbrev mJxe99ae_doubleToLongBits_ccdee : MethodName × ByteArray × Nat × Option FieldType := (yJxe99ae_doubleToLongBits_ccdee, cJxe99ae_doubleToLongBits_ccdee, 2, (some Jvm.ClassFile.FieldType.long))
abbrev mJxf58ca_isNaN_12338 : MethodName × ByteArray × Nat × Option FieldType := (yJxf58ca_isNaN_12338, cJxf58ca_isNaN_12338, 1, (some Jvm.ClassFile.FieldType.boolean))
abbrev mJxf58ca_floatToIntBits_5c35a : MethodName × ByteArray × Nat × Option FieldType := (yJxf58ca_floatToIntBits_5c35a, cJxf58ca_floatToIntBits_5c35a, 1, (some Jvm.ClassFile.FieldType.int))
abbrev mJ6_numberOfTrailingZeros_0f7a4 : MethodName × ByteArray × Nat × Option FieldType := (yJ6_numberOfTrailingZeros_0f7a4, cJ6_numberOfTrailingZeros_0f7a4, 2, (some Jvm.ClassFile.FieldType.int))
abbrev mJ13_numberOfTrailingZeros_95d88 : MethodName × ByteArray × Nat × Option FieldType := (yJ13_numberOfTrailingZeros_95d88, cJ13_numberOfTrailingZeros_95d88, 3, (some Jvm.ClassFile.FieldType.int))
abbrev mJ9_abs_067f4 : MethodName × ByteArray × Nat × Option FieldType := (yJ9_abs_067f4, cJ9_abs_067f4, 2, (some Jvm.ClassFile.FieldType.long))
abbrev mL_law : MethodName × ByteArray × Nat × Option FieldType := (yL_law, code, 4, some .boolean)

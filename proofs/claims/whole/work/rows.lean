section
-- ===== PART A: goes FIRST, ahead of the names: the tables' words, and 'selects' of the private methods out of them =====
/-- a private method of a class that the tables say can be made, by its rows of tables_1 -/
def lw_okq (q : MethodName × Nat) : Prop := (q.1.cls ≠ "java/lang/invoke/MethodHandle" ∧ q.1.cls ≠ "java/lang/invoke/VarHandle") ∧ Cond.instantiable q.1.cls q.2 ∈ tables_1 ∧ Cond.privateMethod q.1 ∈ tables_1 ∧ Cond.instanceMethod q.1 ∈ tables_1
theorem lw_p0 : lw_okq (⟨"CutInCopies$Board", "lay", "(IIII)V"⟩, 11) := ⟨⟨by decide +kernel, by decide +kernel⟩, List.mem_of_getElem? (i := 29) (by decide +kernel), List.mem_of_getElem? (i := 224) (by decide +kernel), List.mem_of_getElem? (i := 225) (by decide +kernel)⟩
theorem lw_p1 : lw_okq (⟨"CutInCopies", "refuse", "(I)I"⟩, 8) := ⟨⟨by decide +kernel, by decide +kernel⟩, List.mem_of_getElem? (i := 21) (by decide +kernel), List.mem_of_getElem? (i := 264) (by decide +kernel), List.mem_of_getElem? (i := 265) (by decide +kernel)⟩
theorem lw_p2 : lw_okq (⟨"CutInCopies", "faultOfLetters", "()I"⟩, 8) := ⟨⟨by decide +kernel, by decide +kernel⟩, List.mem_of_getElem? (i := 21) (by decide +kernel), List.mem_of_getElem? (i := 280) (by decide +kernel), List.mem_of_getElem? (i := 281) (by decide +kernel)⟩
theorem lw_p3 : lw_okq (⟨"CutInCopies$Letters", "firstWrongFrom", "(I)I"⟩, 4) := ⟨⟨by decide +kernel, by decide +kernel⟩, List.mem_of_getElem? (i := 128) (by decide +kernel), List.mem_of_getElem? (i := 288) (by decide +kernel), List.mem_of_getElem? (i := 289) (by decide +kernel)⟩
theorem lw_p4 : lw_okq (⟨"CutInCopies", "canBe", "(III)Z"⟩, 8) := ⟨⟨by decide +kernel, by decide +kernel⟩, List.mem_of_getElem? (i := 21) (by decide +kernel), List.mem_of_getElem? (i := 299) (by decide +kernel), List.mem_of_getElem? (i := 300) (by decide +kernel)⟩
theorem lw_p5 : lw_okq (⟨"CutInCopies", "areWays", "(II)Z"⟩, 8) := ⟨⟨by decide +kernel, by decide +kernel⟩, List.mem_of_getElem? (i := 21) (by decide +kernel), List.mem_of_getElem? (i := 314) (by decide +kernel), List.mem_of_getElem? (i := 315) (by decide +kernel)⟩
theorem lw_p6 : lw_okq (⟨"CutInCopies", "runStatement", "(I)V"⟩, 8) := ⟨⟨by decide +kernel, by decide +kernel⟩, List.mem_of_getElem? (i := 21) (by decide +kernel), List.mem_of_getElem? (i := 327) (by decide +kernel), List.mem_of_getElem? (i := 328) (by decide +kernel)⟩
theorem lw_p7 : lw_okq (⟨"CutInCopies$Board", "touchAround", "(II)V"⟩, 11) := ⟨⟨by decide +kernel, by decide +kernel⟩, List.mem_of_getElem? (i := 29) (by decide +kernel), List.mem_of_getElem? (i := 506) (by decide +kernel), List.mem_of_getElem? (i := 507) (by decide +kernel)⟩
theorem lw_p8 : lw_okq (⟨"CutInCopies$Board", "touch", "(II)V"⟩, 11) := ⟨⟨by decide +kernel, by decide +kernel⟩, List.mem_of_getElem? (i := 29) (by decide +kernel), List.mem_of_getElem? (i := 510) (by decide +kernel), List.mem_of_getElem? (i := 511) (by decide +kernel)⟩
theorem lw_p9 : lw_okq (⟨"CutInCopies", "refuseFar", "(I)J"⟩, 8) := ⟨⟨by decide +kernel, by decide +kernel⟩, List.mem_of_getElem? (i := 21) (by decide +kernel), List.mem_of_getElem? (i := 544) (by decide +kernel), List.mem_of_getElem? (i := 545) (by decide +kernel)⟩
theorem lw_p10 : lw_okq (⟨"CutInCopies$Rule", "startWith", "(I)V"⟩, 5) := ⟨⟨by decide +kernel, by decide +kernel⟩, List.mem_of_getElem? (i := 78) (by decide +kernel), List.mem_of_getElem? (i := 575) (by decide +kernel), List.mem_of_getElem? (i := 576) (by decide +kernel)⟩
theorem lw_p11 : lw_okq (⟨"CutInCopies$Rule", "cutOnce", "()V"⟩, 5) := ⟨⟨by decide +kernel, by decide +kernel⟩, List.mem_of_getElem? (i := 78) (by decide +kernel), List.mem_of_getElem? (i := 579) (by decide +kernel), List.mem_of_getElem? (i := 580) (by decide +kernel)⟩
theorem lw_p12 : lw_okq (⟨"CutInCopies$Rule", "addFirstDigit", "()V"⟩, 5) := ⟨⟨by decide +kernel, by decide +kernel⟩, List.mem_of_getElem? (i := 78) (by decide +kernel), List.mem_of_getElem? (i := 603) (by decide +kernel), List.mem_of_getElem? (i := 604) (by decide +kernel)⟩
theorem lw_p13 : lw_okq (⟨"CutInCopies$Rule", "waysBehind", "(I)I"⟩, 5) := ⟨⟨by decide +kernel, by decide +kernel⟩, List.mem_of_getElem? (i := 78) (by decide +kernel), List.mem_of_getElem? (i := 615) (by decide +kernel), List.mem_of_getElem? (i := 616) (by decide +kernel)⟩
theorem lw_p14 : lw_okq (⟨"CutInCopies$Shapes", "isIn", "(II)Z"⟩, 4) := ⟨⟨by decide +kernel, by decide +kernel⟩, List.mem_of_getElem? (i := 101) (by decide +kernel), List.mem_of_getElem? (i := 684) (by decide +kernel), List.mem_of_getElem? (i := 685) (by decide +kernel)⟩
theorem lw_p15 : lw_okq (⟨"CutInCopiesModel", "lays", "(III)V"⟩, 43) := ⟨⟨by decide +kernel, by decide +kernel⟩, List.mem_of_getElem? (i := 860) (by decide +kernel), List.mem_of_getElem? (i := 866) (by decide +kernel), List.mem_of_getElem? (i := 867) (by decide +kernel)⟩
def lw_privs_1 : List (MethodName × Nat) := [(⟨"CutInCopies$Board", "lay", "(IIII)V"⟩, 11), (⟨"CutInCopies", "refuse", "(I)I"⟩, 8), (⟨"CutInCopies", "faultOfLetters", "()I"⟩, 8), (⟨"CutInCopies$Letters", "firstWrongFrom", "(I)I"⟩, 4), (⟨"CutInCopies", "canBe", "(III)Z"⟩, 8), (⟨"CutInCopies", "areWays", "(II)Z"⟩, 8), (⟨"CutInCopies", "runStatement", "(I)V"⟩, 8), (⟨"CutInCopies$Board", "touchAround", "(II)V"⟩, 11), (⟨"CutInCopies$Board", "touch", "(II)V"⟩, 11), (⟨"CutInCopies", "refuseFar", "(I)J"⟩, 8), (⟨"CutInCopies$Rule", "startWith", "(I)V"⟩, 5), (⟨"CutInCopies$Rule", "cutOnce", "()V"⟩, 5), (⟨"CutInCopies$Rule", "addFirstDigit", "()V"⟩, 5), (⟨"CutInCopies$Rule", "waysBehind", "(I)I"⟩, 5), (⟨"CutInCopies$Shapes", "isIn", "(II)Z"⟩, 4), (⟨"CutInCopiesModel", "lays", "(III)V"⟩, 43)]
theorem lw_r1 : ∀ q ∈ lw_privs_1, lw_okq q := List.forall_mem_cons.mpr ⟨lw_p0, List.forall_mem_cons.mpr ⟨lw_p1, List.forall_mem_cons.mpr ⟨lw_p2, List.forall_mem_cons.mpr ⟨lw_p3, List.forall_mem_cons.mpr ⟨lw_p4, List.forall_mem_cons.mpr ⟨lw_p5, List.forall_mem_cons.mpr ⟨lw_p6, List.forall_mem_cons.mpr ⟨lw_p7, List.forall_mem_cons.mpr ⟨lw_p8, List.forall_mem_cons.mpr ⟨lw_p9, List.forall_mem_cons.mpr ⟨lw_p10, List.forall_mem_cons.mpr ⟨lw_p11, List.forall_mem_cons.mpr ⟨lw_p12, List.forall_mem_cons.mpr ⟨lw_p13, List.forall_mem_cons.mpr ⟨lw_p14, List.forall_mem_cons.mpr ⟨lw_p15, fun _ h => absurd h List.not_mem_nil⟩⟩⟩⟩⟩⟩⟩⟩⟩⟩⟩⟩⟩⟩⟩⟩
theorem lw_p16 : lw_okq (⟨"CutInCopiesModel", "side", "()I"⟩, 43) := ⟨⟨by decide +kernel, by decide +kernel⟩, List.mem_of_getElem? (i := 860) (by decide +kernel), List.mem_of_getElem? (i := 870) (by decide +kernel), List.mem_of_getElem? (i := 871) (by decide +kernel)⟩
theorem lw_p17 : lw_okq (⟨"CutInCopiesModel", "cuts", "(IIIII)V"⟩, 43) := ⟨⟨by decide +kernel, by decide +kernel⟩, List.mem_of_getElem? (i := 860) (by decide +kernel), List.mem_of_getElem? (i := 874) (by decide +kernel), List.mem_of_getElem? (i := 875) (by decide +kernel)⟩
theorem lw_p18 : lw_okq (⟨"CutInCopiesModel", "rulesAtFirst", "()V"⟩, 43) := ⟨⟨by decide +kernel, by decide +kernel⟩, List.mem_of_getElem? (i := 860) (by decide +kernel), List.mem_of_getElem? (i := 878) (by decide +kernel), List.mem_of_getElem? (i := 879) (by decide +kernel)⟩
theorem lw_p19 : lw_okq (⟨"CutInCopiesModel", "refused", "(I)I"⟩, 43) := ⟨⟨by decide +kernel, by decide +kernel⟩, List.mem_of_getElem? (i := 860) (by decide +kernel), List.mem_of_getElem? (i := 1016) (by decide +kernel), List.mem_of_getElem? (i := 1017) (by decide +kernel)⟩
theorem lw_p20 : lw_okq (⟨"CutInCopiesModel", "isCell", "(II)Z"⟩, 43) := ⟨⟨by decide +kernel, by decide +kernel⟩, List.mem_of_getElem? (i := 860) (by decide +kernel), List.mem_of_getElem? (i := 1027) (by decide +kernel), List.mem_of_getElem? (i := 1028) (by decide +kernel)⟩
theorem lw_p21 : lw_okq (⟨"CutInCopiesModel", "cell", "(II)I"⟩, 43) := ⟨⟨by decide +kernel, by decide +kernel⟩, List.mem_of_getElem? (i := 860) (by decide +kernel), List.mem_of_getElem? (i := 1031) (by decide +kernel), List.mem_of_getElem? (i := 1032) (by decide +kernel)⟩
theorem lw_p22 : lw_okq (⟨"CutInCopiesModel", "touching", "(I)I"⟩, 43) := ⟨⟨by decide +kernel, by decide +kernel⟩, List.mem_of_getElem? (i := 860) (by decide +kernel), List.mem_of_getElem? (i := 1039) (by decide +kernel), List.mem_of_getElem? (i := 1040) (by decide +kernel)⟩
theorem lw_p23 : lw_okq (⟨"CutInCopiesModel", "isTouching", "(II)Z"⟩, 43) := ⟨⟨by decide +kernel, by decide +kernel⟩, List.mem_of_getElem? (i := 860) (by decide +kernel), List.mem_of_getElem? (i := 1043) (by decide +kernel), List.mem_of_getElem? (i := 1044) (by decide +kernel)⟩
theorem lw_p24 : lw_okq (⟨"CutInCopiesModel", "areBeside", "(IIIIII)Z"⟩, 43) := ⟨⟨by decide +kernel, by decide +kernel⟩, List.mem_of_getElem? (i := 860) (by decide +kernel), List.mem_of_getElem? (i := 1047) (by decide +kernel), List.mem_of_getElem? (i := 1048) (by decide +kernel)⟩
theorem lw_p25 : lw_okq (⟨"CutInCopiesModel", "isWithin", "(IIIII)Z"⟩, 43) := ⟨⟨by decide +kernel, by decide +kernel⟩, List.mem_of_getElem? (i := 860) (by decide +kernel), List.mem_of_getElem? (i := 1055) (by decide +kernel), List.mem_of_getElem? (i := 1056) (by decide +kernel)⟩
theorem lw_p26 : lw_okq (⟨"CutInCopiesModel", "inWay", "(I)I"⟩, 43) := ⟨⟨by decide +kernel, by decide +kernel⟩, List.mem_of_getElem? (i := 860) (by decide +kernel), List.mem_of_getElem? (i := 1065) (by decide +kernel), List.mem_of_getElem? (i := 1066) (by decide +kernel)⟩
theorem lw_p27 : lw_okq (⟨"CutInCopiesModel", "edge", "()I"⟩, 43) := ⟨⟨by decide +kernel, by decide +kernel⟩, List.mem_of_getElem? (i := 860) (by decide +kernel), List.mem_of_getElem? (i := 1069) (by decide +kernel), List.mem_of_getElem? (i := 1070) (by decide +kernel)⟩
theorem lw_p28 : lw_okq (⟨"CutInCopiesModel", "refusedFar", "(I)J"⟩, 43) := ⟨⟨by decide +kernel, by decide +kernel⟩, List.mem_of_getElem? (i := 860) (by decide +kernel), List.mem_of_getElem? (i := 1081) (by decide +kernel), List.mem_of_getElem? (i := 1082) (by decide +kernel)⟩
theorem lw_p29 : lw_okq (⟨"CutInCopiesModel", "begins", "(I)V"⟩, 43) := ⟨⟨by decide +kernel, by decide +kernel⟩, List.mem_of_getElem? (i := 860) (by decide +kernel), List.mem_of_getElem? (i := 1101) (by decide +kernel), List.mem_of_getElem? (i := 1102) (by decide +kernel)⟩
theorem lw_p30 : lw_okq (⟨"CutInCopiesModel", "fallsAll", "()V"⟩, 43) := ⟨⟨by decide +kernel, by decide +kernel⟩, List.mem_of_getElem? (i := 860) (by decide +kernel), List.mem_of_getElem? (i := 1105) (by decide +kernel), List.mem_of_getElem? (i := 1106) (by decide +kernel)⟩
theorem lw_p31 : lw_okq (⟨"CutInCopiesModel", "leastAlike", "()I"⟩, 43) := ⟨⟨by decide +kernel, by decide +kernel⟩, List.mem_of_getElem? (i := 860) (by decide +kernel), List.mem_of_getElem? (i := 1117) (by decide +kernel), List.mem_of_getElem? (i := 1118) (by decide +kernel)⟩
def lw_privs_2 : List (MethodName × Nat) := [(⟨"CutInCopiesModel", "side", "()I"⟩, 43), (⟨"CutInCopiesModel", "cuts", "(IIIII)V"⟩, 43), (⟨"CutInCopiesModel", "rulesAtFirst", "()V"⟩, 43), (⟨"CutInCopiesModel", "refused", "(I)I"⟩, 43), (⟨"CutInCopiesModel", "isCell", "(II)Z"⟩, 43), (⟨"CutInCopiesModel", "cell", "(II)I"⟩, 43), (⟨"CutInCopiesModel", "touching", "(I)I"⟩, 43), (⟨"CutInCopiesModel", "isTouching", "(II)Z"⟩, 43), (⟨"CutInCopiesModel", "areBeside", "(IIIIII)Z"⟩, 43), (⟨"CutInCopiesModel", "isWithin", "(IIIII)Z"⟩, 43), (⟨"CutInCopiesModel", "inWay", "(I)I"⟩, 43), (⟨"CutInCopiesModel", "edge", "()I"⟩, 43), (⟨"CutInCopiesModel", "refusedFar", "(I)J"⟩, 43), (⟨"CutInCopiesModel", "begins", "(I)V"⟩, 43), (⟨"CutInCopiesModel", "fallsAll", "()V"⟩, 43), (⟨"CutInCopiesModel", "leastAlike", "()I"⟩, 43)]
theorem lw_r2 : ∀ q ∈ lw_privs_2, lw_okq q := List.forall_mem_cons.mpr ⟨lw_p16, List.forall_mem_cons.mpr ⟨lw_p17, List.forall_mem_cons.mpr ⟨lw_p18, List.forall_mem_cons.mpr ⟨lw_p19, List.forall_mem_cons.mpr ⟨lw_p20, List.forall_mem_cons.mpr ⟨lw_p21, List.forall_mem_cons.mpr ⟨lw_p22, List.forall_mem_cons.mpr ⟨lw_p23, List.forall_mem_cons.mpr ⟨lw_p24, List.forall_mem_cons.mpr ⟨lw_p25, List.forall_mem_cons.mpr ⟨lw_p26, List.forall_mem_cons.mpr ⟨lw_p27, List.forall_mem_cons.mpr ⟨lw_p28, List.forall_mem_cons.mpr ⟨lw_p29, List.forall_mem_cons.mpr ⟨lw_p30, List.forall_mem_cons.mpr ⟨lw_p31, fun _ h => absurd h List.not_mem_nil⟩⟩⟩⟩⟩⟩⟩⟩⟩⟩⟩⟩⟩⟩⟩⟩
theorem lw_p32 : lw_okq (⟨"CutInCopiesModel", "leads", "(I)V"⟩, 43) := ⟨⟨by decide +kernel, by decide +kernel⟩, List.mem_of_getElem? (i := 860) (by decide +kernel), List.mem_of_getElem? (i := 1121) (by decide +kernel), List.mem_of_getElem? (i := 1122) (by decide +kernel)⟩
theorem lw_p33 : lw_okq (⟨"CutInCopiesModel", "comesPoint", "(IIII)V"⟩, 43) := ⟨⟨by decide +kernel, by decide +kernel⟩, List.mem_of_getElem? (i := 860) (by decide +kernel), List.mem_of_getElem? (i := 1147) (by decide +kernel), List.mem_of_getElem? (i := 1148) (by decide +kernel)⟩
theorem lw_p34 : lw_okq (⟨"CutInCopiesModel", "isPoint", "(I)Z"⟩, 43) := ⟨⟨by decide +kernel, by decide +kernel⟩, List.mem_of_getElem? (i := 860) (by decide +kernel), List.mem_of_getElem? (i := 1155) (by decide +kernel), List.mem_of_getElem? (i := 1156) (by decide +kernel)⟩
theorem lw_p35 : lw_okq (⟨"CutInCopiesModel", "valuationOf", "(II)I"⟩, 43) := ⟨⟨by decide +kernel, by decide +kernel⟩, List.mem_of_getElem? (i := 860) (by decide +kernel), List.mem_of_getElem? (i := 1160) (by decide +kernel), List.mem_of_getElem? (i := 1161) (by decide +kernel)⟩
theorem lw_p36 : lw_okq (⟨"CutInCopiesModel", "areThree", "(III)Z"⟩, 43) := ⟨⟨by decide +kernel, by decide +kernel⟩, List.mem_of_getElem? (i := 860) (by decide +kernel), List.mem_of_getElem? (i := 1185) (by decide +kernel), List.mem_of_getElem? (i := 1186) (by decide +kernel)⟩
theorem lw_p37 : lw_okq (⟨"CutInCopiesModel", "comesTriangle", "(IIII)V"⟩, 43) := ⟨⟨by decide +kernel, by decide +kernel⟩, List.mem_of_getElem? (i := 860) (by decide +kernel), List.mem_of_getElem? (i := 1189) (by decide +kernel), List.mem_of_getElem? (i := 1190) (by decide +kernel)⟩
theorem lw_p38 : lw_okq (⟨"CutInCopiesModel", "isTriangle", "(I)Z"⟩, 43) := ⟨⟨by decide +kernel, by decide +kernel⟩, List.mem_of_getElem? (i := 860) (by decide +kernel), List.mem_of_getElem? (i := 1197) (by decide +kernel), List.mem_of_getElem? (i := 1198) (by decide +kernel)⟩
theorem lw_p39 : lw_okq (⟨"CutInCopiesModel", "coloursOf", "(I)I"⟩, 43) := ⟨⟨by decide +kernel, by decide +kernel⟩, List.mem_of_getElem? (i := 860) (by decide +kernel), List.mem_of_getElem? (i := 1201) (by decide +kernel), List.mem_of_getElem? (i := 1202) (by decide +kernel)⟩
theorem lw_p40 : lw_okq (⟨"CutInCopiesModel", "areaValuation", "(I)I"⟩, 43) := ⟨⟨by decide +kernel, by decide +kernel⟩, List.mem_of_getElem? (i := 860) (by decide +kernel), List.mem_of_getElem? (i := 1208) (by decide +kernel), List.mem_of_getElem? (i := 1209) (by decide +kernel)⟩
theorem lw_p41 : lw_okq (⟨"CutInCopiesModel", "areaOf", "(I)V"⟩, 43) := ⟨⟨by decide +kernel, by decide +kernel⟩, List.mem_of_getElem? (i := 860) (by decide +kernel), List.mem_of_getElem? (i := 1212) (by decide +kernel), List.mem_of_getElem? (i := 1213) (by decide +kernel)⟩
theorem lw_p42 : lw_okq (⟨"CutInCopiesModel", "more", "(III)J"⟩, 43) := ⟨⟨by decide +kernel, by decide +kernel⟩, List.mem_of_getElem? (i := 860) (by decide +kernel), List.mem_of_getElem? (i := 1216) (by decide +kernel), List.mem_of_getElem? (i := 1217) (by decide +kernel)⟩
theorem lw_p43 : lw_okq (⟨"CutInCopiesModel", "over", "(II)J"⟩, 43) := ⟨⟨by decide +kernel, by decide +kernel⟩, List.mem_of_getElem? (i := 860) (by decide +kernel), List.mem_of_getElem? (i := 1220) (by decide +kernel), List.mem_of_getElem? (i := 1221) (by decide +kernel)⟩
theorem lw_p44 : lw_okq (⟨"CutInCopiesModel", "under", "(II)J"⟩, 43) := ⟨⟨by decide +kernel, by decide +kernel⟩, List.mem_of_getElem? (i := 860) (by decide +kernel), List.mem_of_getElem? (i := 1224) (by decide +kernel), List.mem_of_getElem? (i := 1225) (by decide +kernel)⟩
theorem lw_p45 : lw_okq (⟨"CutInCopiesModel", "belowOf", "(III)J"⟩, 43) := ⟨⟨by decide +kernel, by decide +kernel⟩, List.mem_of_getElem? (i := 860) (by decide +kernel), List.mem_of_getElem? (i := 1228) (by decide +kernel), List.mem_of_getElem? (i := 1229) (by decide +kernel)⟩
theorem lw_p46 : lw_okq (⟨"CutInCopiesModel", "tells", "(JJ)V"⟩, 43) := ⟨⟨by decide +kernel, by decide +kernel⟩, List.mem_of_getElem? (i := 860) (by decide +kernel), List.mem_of_getElem? (i := 1232) (by decide +kernel), List.mem_of_getElem? (i := 1233) (by decide +kernel)⟩
theorem lw_p47 : lw_okq (⟨"CutInCopiesModel", "isSet", "(I)Z"⟩, 43) := ⟨⟨by decide +kernel, by decide +kernel⟩, List.mem_of_getElem? (i := 860) (by decide +kernel), List.mem_of_getElem? (i := 1246) (by decide +kernel), List.mem_of_getElem? (i := 1247) (by decide +kernel)⟩
def lw_privs_3 : List (MethodName × Nat) := [(⟨"CutInCopiesModel", "leads", "(I)V"⟩, 43), (⟨"CutInCopiesModel", "comesPoint", "(IIII)V"⟩, 43), (⟨"CutInCopiesModel", "isPoint", "(I)Z"⟩, 43), (⟨"CutInCopiesModel", "valuationOf", "(II)I"⟩, 43), (⟨"CutInCopiesModel", "areThree", "(III)Z"⟩, 43), (⟨"CutInCopiesModel", "comesTriangle", "(IIII)V"⟩, 43), (⟨"CutInCopiesModel", "isTriangle", "(I)Z"⟩, 43), (⟨"CutInCopiesModel", "coloursOf", "(I)I"⟩, 43), (⟨"CutInCopiesModel", "areaValuation", "(I)I"⟩, 43), (⟨"CutInCopiesModel", "areaOf", "(I)V"⟩, 43), (⟨"CutInCopiesModel", "more", "(III)J"⟩, 43), (⟨"CutInCopiesModel", "over", "(II)J"⟩, 43), (⟨"CutInCopiesModel", "under", "(II)J"⟩, 43), (⟨"CutInCopiesModel", "belowOf", "(III)J"⟩, 43), (⟨"CutInCopiesModel", "tells", "(JJ)V"⟩, 43), (⟨"CutInCopiesModel", "isSet", "(I)Z"⟩, 43)]
theorem lw_r3 : ∀ q ∈ lw_privs_3, lw_okq q := List.forall_mem_cons.mpr ⟨lw_p32, List.forall_mem_cons.mpr ⟨lw_p33, List.forall_mem_cons.mpr ⟨lw_p34, List.forall_mem_cons.mpr ⟨lw_p35, List.forall_mem_cons.mpr ⟨lw_p36, List.forall_mem_cons.mpr ⟨lw_p37, List.forall_mem_cons.mpr ⟨lw_p38, List.forall_mem_cons.mpr ⟨lw_p39, List.forall_mem_cons.mpr ⟨lw_p40, List.forall_mem_cons.mpr ⟨lw_p41, List.forall_mem_cons.mpr ⟨lw_p42, List.forall_mem_cons.mpr ⟨lw_p43, List.forall_mem_cons.mpr ⟨lw_p44, List.forall_mem_cons.mpr ⟨lw_p45, List.forall_mem_cons.mpr ⟨lw_p46, List.forall_mem_cons.mpr ⟨lw_p47, fun _ h => absurd h List.not_mem_nil⟩⟩⟩⟩⟩⟩⟩⟩⟩⟩⟩⟩⟩⟩⟩⟩
theorem lw_p48 : lw_okq (⟨"CutInCopiesModel", "isGreat", "()Z"⟩, 43) := ⟨⟨by decide +kernel, by decide +kernel⟩, List.mem_of_getElem? (i := 860) (by decide +kernel), List.mem_of_getElem? (i := 1250) (by decide +kernel), List.mem_of_getElem? (i := 1251) (by decide +kernel)⟩
theorem lw_p49 : lw_okq (⟨"CutInCopiesModel", "evens", "(I)I"⟩, 43) := ⟨⟨by decide +kernel, by decide +kernel⟩, List.mem_of_getElem? (i := 860) (by decide +kernel), List.mem_of_getElem? (i := 1259) (by decide +kernel), List.mem_of_getElem? (i := 1260) (by decide +kernel)⟩
theorem lw_p50 : lw_okq (⟨"CutInCopiesModel", "rainbows", "(I)I"⟩, 43) := ⟨⟨by decide +kernel, by decide +kernel⟩, List.mem_of_getElem? (i := 860) (by decide +kernel), List.mem_of_getElem? (i := 1263) (by decide +kernel), List.mem_of_getElem? (i := 1264) (by decide +kernel)⟩
theorem lw_p51 : lw_okq (⟨"CutInCopiesModel", "isAlike", "(I)Z"⟩, 43) := ⟨⟨by decide +kernel, by decide +kernel⟩, List.mem_of_getElem? (i := 860) (by decide +kernel), List.mem_of_getElem? (i := 1267) (by decide +kernel), List.mem_of_getElem? (i := 1268) (by decide +kernel)⟩
theorem lw_p52 : lw_okq (⟨"CutInCopiesModel", "floatOf", "(I)F"⟩, 43) := ⟨⟨by decide +kernel, by decide +kernel⟩, List.mem_of_getElem? (i := 860) (by decide +kernel), List.mem_of_getElem? (i := 1275) (by decide +kernel), List.mem_of_getElem? (i := 1276) (by decide +kernel)⟩
theorem lw_p53 : lw_okq (⟨"CutInCopiesModel", "statement", "()I"⟩, 43) := ⟨⟨by decide +kernel, by decide +kernel⟩, List.mem_of_getElem? (i := 860) (by decide +kernel), List.mem_of_getElem? (i := 1356) (by decide +kernel), List.mem_of_getElem? (i := 1357) (by decide +kernel)⟩
theorem lw_p54 : lw_okq (⟨"CutInCopiesModel", "done", "(I)I"⟩, 43) := ⟨⟨by decide +kernel, by decide +kernel⟩, List.mem_of_getElem? (i := 860) (by decide +kernel), List.mem_of_getElem? (i := 1368) (by decide +kernel), List.mem_of_getElem? (i := 1369) (by decide +kernel)⟩
theorem lw_p55 : lw_okq (⟨"CutInCopiesModel", "isDone", "(I)Z"⟩, 43) := ⟨⟨by decide +kernel, by decide +kernel⟩, List.mem_of_getElem? (i := 860) (by decide +kernel), List.mem_of_getElem? (i := 1372) (by decide +kernel), List.mem_of_getElem? (i := 1373) (by decide +kernel)⟩
theorem lw_p56 : lw_okq (⟨"CutInCopiesModel", "isRuled", "()Z"⟩, 43) := ⟨⟨by decide +kernel, by decide +kernel⟩, List.mem_of_getElem? (i := 860) (by decide +kernel), List.mem_of_getElem? (i := 1376) (by decide +kernel), List.mem_of_getElem? (i := 1377) (by decide +kernel)⟩
def lw_privs_4 : List (MethodName × Nat) := [(⟨"CutInCopiesModel", "isGreat", "()Z"⟩, 43), (⟨"CutInCopiesModel", "evens", "(I)I"⟩, 43), (⟨"CutInCopiesModel", "rainbows", "(I)I"⟩, 43), (⟨"CutInCopiesModel", "isAlike", "(I)Z"⟩, 43), (⟨"CutInCopiesModel", "floatOf", "(I)F"⟩, 43), (⟨"CutInCopiesModel", "statement", "()I"⟩, 43), (⟨"CutInCopiesModel", "done", "(I)I"⟩, 43), (⟨"CutInCopiesModel", "isDone", "(I)Z"⟩, 43), (⟨"CutInCopiesModel", "isRuled", "()Z"⟩, 43)]
theorem lw_r4 : ∀ q ∈ lw_privs_4, lw_okq q := List.forall_mem_cons.mpr ⟨lw_p48, List.forall_mem_cons.mpr ⟨lw_p49, List.forall_mem_cons.mpr ⟨lw_p50, List.forall_mem_cons.mpr ⟨lw_p51, List.forall_mem_cons.mpr ⟨lw_p52, List.forall_mem_cons.mpr ⟨lw_p53, List.forall_mem_cons.mpr ⟨lw_p54, List.forall_mem_cons.mpr ⟨lw_p55, List.forall_mem_cons.mpr ⟨lw_p56, fun _ h => absurd h List.not_mem_nil⟩⟩⟩⟩⟩⟩⟩⟩⟩
def lw_privs : List (MethodName × Nat) := lw_privs_1 ++ (lw_privs_2 ++ (lw_privs_3 ++ (lw_privs_4)))
def lw_tbl : List Cond := k2_sels lw_privs ++ tables_1
theorem lw_privs_ok : ∀ q ∈ lw_privs, lw_okq q := by
  show ∀ q ∈ lw_privs_1 ++ (lw_privs_2 ++ (lw_privs_3 ++ (lw_privs_4))), lw_okq q
  exact List.forall_mem_append.mpr ⟨lw_r1, List.forall_mem_append.mpr ⟨lw_r2, List.forall_mem_append.mpr ⟨lw_r3, lw_r4⟩⟩⟩
/-- the streams that the claim lets the run draw from -/
abbrev lw_cs : List Choice := [Jvm.Choice.named "NaN.bits"]
theorem lw_bits : nanBits ∈ lw_cs := by first | decide | exact List.mem_cons_self | simp [lw_cs, nanBits]


-- own names begin
def RX0 : String := "CutInCopies$Board"
def TX0 : u_T := fun k => match k with
  | 0 => ("CutInCopies$Board", "power", "I", false)
  | 1 => ("CutInCopies$Board", "holeX", "I", false)
  | 2 => ("CutInCopies$Board", "holeY", "I", false)
  | 3 => ("CutInCopies$Board", "pieceCount", "I", false)
  | 4 => ("CutInCopies$Board", "side", "I", false)
  | 5 => ("CutInCopies$Board", "cells", "[I", true)
  | 6 => ("CutInCopies$Board", "ways", "[I", true)
  | 7 => ("CutInCopies$Board", "sizes", "[I", true)
  | 8 => ("CutInCopies$Board", "lefts", "[I", true)
  | 9 => ("CutInCopies$Board", "tops", "[I", true)
  | _ => ("CutInCopies$Board", "touched", "[Z", true)
def tyX0 : Nat → FieldType := fun k => match k with
  | 0 => .int
  | 1 => .int
  | 2 => .int
  | 3 => .int
  | 4 => .int
  | 5 => .array .int
  | 6 => .array .int
  | 7 => .array .int
  | 8 => .array .int
  | 9 => .array .int
  | _ => .array .boolean
abbrev wsX00 : List Cond := u_ws RX0 TX0 11
theorem nmX0 : ∀ a, a < 11 → ∀ b, b < 11 → a ≠ b → (TX0 a).2.1 ≠ (TX0 b).2.1 := by decide +kernel
theorem tyX0_ok : ∀ k, k < 11 → parseFieldDescriptor (TX0 k).2.2.1 = some (tyX0 k) := by decide +kernel
abbrev cX0_init : ByteArray := prog_2_method_1_code
def yX0_init : MethodName := ⟨RX0, "<init>", "()V"⟩
abbrev cX0_isCell : ByteArray := prog_2_method_2_code
def yX0_isCell : MethodName := ⟨RX0, "isCell", "(III)Z"⟩
abbrev cX0_cutAnew : ByteArray := prog_2_method_3_code
def yX0_cutAnew : MethodName := ⟨RX0, "cutAnew", "(III)V"⟩
abbrev cX0_cutBlock : ByteArray := prog_2_method_4_code
def yX0_cutBlock : MethodName := ⟨RX0, "cutBlock", "(LCutInCopies$Board;IIIII)V"⟩
abbrev cX0_lay : ByteArray := prog_2_method_5_code
def yX0_lay : MethodName := ⟨RX0, "lay", "(IIII)V"⟩
abbrev cX0_has : ByteArray := prog_2_method_6_code
def yX0_has : MethodName := ⟨RX0, "has", "(II)Z"⟩
abbrev cX0_hasPiece : ByteArray := prog_2_method_7_code
def yX0_hasPiece : MethodName := ⟨RX0, "hasPiece", "(I)Z"⟩
abbrev cX0_pieceAt : ByteArray := prog_2_method_8_code
def yX0_pieceAt : MethodName := ⟨RX0, "pieceAt", "(II)I"⟩
abbrev cX0_wayOf : ByteArray := prog_2_method_9_code
def yX0_wayOf : MethodName := ⟨RX0, "wayOf", "(I)I"⟩
abbrev cX0_sizeOf : ByteArray := prog_2_method_10_code
def yX0_sizeOf : MethodName := ⟨RX0, "sizeOf", "(I)I"⟩
abbrev cX0_cornerX : ByteArray := prog_2_method_11_code
def yX0_cornerX : MethodName := ⟨RX0, "cornerX", "(I)I"⟩
abbrev cX0_cornerY : ByteArray := prog_2_method_12_code
def yX0_cornerY : MethodName := ⟨RX0, "cornerY", "(I)I"⟩
abbrev cX0_touching : ByteArray := prog_2_method_13_code
def yX0_touching : MethodName := ⟨RX0, "touching", "(I)I"⟩
abbrev cX0_touchAround : ByteArray := prog_2_method_14_code
def yX0_touchAround : MethodName := ⟨RX0, "touchAround", "(II)V"⟩
abbrev cX0_touch : ByteArray := prog_2_method_15_code
def yX0_touch : MethodName := ⟨RX0, "touch", "(II)V"⟩
abbrev cX0_inWindow : ByteArray := prog_2_method_16_code
def yX0_inWindow : MethodName := ⟨RX0, "inWindow", "(IIII)I"⟩
abbrev cX0_atBorder : ByteArray := prog_2_method_17_code
def yX0_atBorder : MethodName := ⟨RX0, "atBorder", "()I"⟩
abbrev cX0_lyingIn : ByteArray := prog_2_method_18_code
def yX0_lyingIn : MethodName := ⟨RX0, "lyingIn", "(I)I"⟩
abbrev cX0_likelihood : ByteArray := prog_2_method_19_code
def yX0_likelihood : MethodName := ⟨RX0, "likelihood", "(I)LCutInCopies$Fraction;"⟩
def RX1 : String := "CutInCopies$Floats"
def TX1 : u_T := fun k => match k with
  | _ => ("", "", "", false)
def tyX1 : Nat → FieldType := fun k => match k with
  | _ => .int
abbrev wsX10 : List Cond := u_ws RX1 TX1 0
theorem nmX1 : ∀ a, a < 0 → ∀ b, b < 0 → a ≠ b → (TX1 a).2.1 ≠ (TX1 b).2.1 := by decide +kernel
theorem tyX1_ok : ∀ k, k < 0 → parseFieldDescriptor (TX1 k).2.2.1 = some (tyX1 k) := by decide +kernel
abbrev cX1_intBits : ByteArray := prog_3_method_2_code
def yX1_intBits : MethodName := ⟨RX1, "intBits", "(F)I"⟩
abbrev cX1_longBitsOfDouble : ByteArray := prog_3_method_3_code
def yX1_longBitsOfDouble : MethodName := ⟨RX1, "longBitsOfDouble", "(D)J"⟩
def RX2 : String := "CutInCopies$Fraction"
def TX2 : u_T := fun k => match k with
  | 0 => ("CutInCopies$Fraction", "above", "J", true)
  | _ => ("CutInCopies$Fraction", "below", "J", true)
def tyX2 : Nat → FieldType := fun k => match k with
  | 0 => .long
  | _ => .long
abbrev wsX20 : List Cond := u_ws RX2 TX2 2
theorem nmX2 : ∀ a, a < 2 → ∀ b, b < 2 → a ≠ b → (TX2 a).2.1 ≠ (TX2 b).2.1 := by decide +kernel
theorem tyX2_ok : ∀ k, k < 2 → parseFieldDescriptor (TX2 k).2.2.1 = some (tyX2 k) := by decide +kernel
abbrev cX2_init : ByteArray := prog_4_method_1_code
def yX2_init : MethodName := ⟨RX2, "<init>", "(JJ)V"⟩
abbrev cX2_inLeastTerms : ByteArray := prog_4_method_2_code
def yX2_inLeastTerms : MethodName := ⟨RX2, "inLeastTerms", "(JJ)LCutInCopies$Fraction;"⟩
abbrev cX2_greatestDivisor : ByteArray := prog_4_method_3_code
def yX2_greatestDivisor : MethodName := ⟨RX2, "greatestDivisor", "(JJ)J"⟩
abbrev cX2_plus : ByteArray := prog_4_method_4_code
def yX2_plus : MethodName := ⟨RX2, "plus", "(LCutInCopies$Fraction;)LCutInCopies$Fraction;"⟩
abbrev cX2_minus : ByteArray := prog_4_method_5_code
def yX2_minus : MethodName := ⟨RX2, "minus", "(LCutInCopies$Fraction;)LCutInCopies$Fraction;"⟩
abbrev cX2_times : ByteArray := prog_4_method_6_code
def yX2_times : MethodName := ⟨RX2, "times", "(LCutInCopies$Fraction;)LCutInCopies$Fraction;"⟩
abbrev cX2_equalTo : ByteArray := prog_4_method_7_code
def yX2_equalTo : MethodName := ⟨RX2, "equalTo", "(LCutInCopies$Fraction;)Z"⟩
abbrev cX2_isAbove : ByteArray := prog_4_method_8_code
def yX2_isAbove : MethodName := ⟨RX2, "isAbove", "(J)Z"⟩
abbrev cX2_valuation : ByteArray := prog_4_method_9_code
def yX2_valuation : MethodName := ⟨RX2, "valuation", "()I"⟩
abbrev cX2_twosIn : ByteArray := prog_4_method_10_code
def yX2_twosIn : MethodName := ⟨RX2, "twosIn", "(J)I"⟩
abbrev cX2_told : ByteArray := prog_4_method_11_code
def yX2_told : MethodName := ⟨RX2, "told", "(I)J"⟩
abbrev cX2_asFloat : ByteArray := prog_4_method_12_code
def yX2_asFloat : MethodName := ⟨RX2, "asFloat", "()F"⟩
abbrev cX2_asDouble : ByteArray := prog_4_method_13_code
def yX2_asDouble : MethodName := ⟨RX2, "asDouble", "()D"⟩
def RX3 : String := "CutInCopies$Image"
def TX3 : u_T := fun k => match k with
  | 0 => ("CutInCopies$Image", "taken", "Z", false)
  | 1 => ("CutInCopies$Image", "power", "I", false)
  | 2 => ("CutInCopies$Image", "holeX", "I", false)
  | 3 => ("CutInCopies$Image", "holeY", "I", false)
  | 4 => ("CutInCopies$Image", "rule", "LCutInCopies$Rule;", true)
  | _ => ("CutInCopies$Image", "shapes", "LCutInCopies$Shapes;", true)
def tyX3 : Nat → FieldType := fun k => match k with
  | 0 => .boolean
  | 1 => .int
  | 2 => .int
  | 3 => .int
  | 4 => .object "CutInCopies$Rule"
  | _ => .object "CutInCopies$Shapes"
abbrev wsX30 : List Cond := u_ws RX3 TX3 6
theorem nmX3 : ∀ a, a < 6 → ∀ b, b < 6 → a ≠ b → (TX3 a).2.1 ≠ (TX3 b).2.1 := by decide +kernel
theorem tyX3_ok : ∀ k, k < 6 → parseFieldDescriptor (TX3 k).2.2.1 = some (tyX3 k) := by decide +kernel
abbrev cX3_init : ByteArray := prog_5_method_1_code
def yX3_init : MethodName := ⟨RX3, "<init>", "()V"⟩
abbrev cX3_take : ByteArray := prog_5_method_2_code
def yX3_take : MethodName := ⟨RX3, "take", "(LCutInCopies$Board;LCutInCopies$Rule;LCutInCopies$Shapes;)V"⟩
abbrev cX3_giveBack : ByteArray := prog_5_method_3_code
def yX3_giveBack : MethodName := ⟨RX3, "giveBack", "(LCutInCopies$Board;LCutInCopies$Rule;LCutInCopies$Shapes;)V"⟩
def RX4 : String := "CutInCopies$Letters"
def TX4 : u_T := fun k => match k with
  | 0 => ("CutInCopies$Letters", "size", "I", false)
  | 1 => ("CutInCopies$Letters", "statements", "I", false)
  | 2 => ("CutInCopies$Letters", "begins", "[I", true)
  | _ => ("CutInCopies$Letters", "signs", "[C", true)
def tyX4 : Nat → FieldType := fun k => match k with
  | 0 => .int
  | 1 => .int
  | 2 => .array .int
  | _ => .array .char
abbrev wsX40 : List Cond := u_ws RX4 TX4 4
theorem nmX4 : ∀ a, a < 4 → ∀ b, b < 4 → a ≠ b → (TX4 a).2.1 ≠ (TX4 b).2.1 := by decide +kernel
theorem tyX4_ok : ∀ k, k < 4 → parseFieldDescriptor (TX4 k).2.2.1 = some (tyX4 k) := by decide +kernel
abbrev cX4_init : ByteArray := prog_6_method_1_code
def yX4_init : MethodName := ⟨RX4, "<init>", "()V"⟩
abbrev cX4_isFull : ByteArray := prog_6_method_2_code
def yX4_isFull : MethodName := ⟨RX4, "isFull", "()Z"⟩
abbrev cX4_append : ByteArray := prog_6_method_3_code
def yX4_append : MethodName := ⟨RX4, "append", "(I)V"⟩
abbrev cX4_clear : ByteArray := prog_6_method_4_code
def yX4_clear : MethodName := ⟨RX4, "clear", "()V"⟩
abbrev cX4_letterAt : ByteArray := prog_6_method_5_code
def yX4_letterAt : MethodName := ⟨RX4, "letterAt", "(I)C"⟩
abbrev cX4_digitsBehind : ByteArray := prog_6_method_6_code
def yX4_digitsBehind : MethodName := ⟨RX4, "digitsBehind", "(C)I"⟩
abbrev cX4_read : ByteArray := prog_6_method_7_code
def yX4_read : MethodName := ⟨RX4, "read", "()I"⟩
abbrev cX4_firstWrongFrom : ByteArray := prog_6_method_8_code
def yX4_firstWrongFrom : MethodName := ⟨RX4, "firstWrongFrom", "(I)I"⟩
abbrev cX4_digit : ByteArray := prog_6_method_9_code
def yX4_digit : MethodName := ⟨RX4, "digit", "(I)I"⟩
abbrev cX4_twoDigits : ByteArray := prog_6_method_10_code
def yX4_twoDigits : MethodName := ⟨RX4, "twoDigits", "(I)I"⟩
abbrev cX4_fourDigits : ByteArray := prog_6_method_11_code
def yX4_fourDigits : MethodName := ⟨RX4, "fourDigits", "(I)I"⟩
def RX5 : String := "CutInCopies$Numbers"
def TX5 : u_T := fun k => match k with
  | 0 => ("CutInCopies$Numbers", "places", "[I", true)
  | _ => ("CutInCopies$Numbers", "size", "I", false)
def tyX5 : Nat → FieldType := fun k => match k with
  | 0 => .array .int
  | _ => .int
abbrev wsX50 : List Cond := u_ws RX5 TX5 2
theorem nmX5 : ∀ a, a < 2 → ∀ b, b < 2 → a ≠ b → (TX5 a).2.1 ≠ (TX5 b).2.1 := by decide +kernel
theorem tyX5_ok : ∀ k, k < 2 → parseFieldDescriptor (TX5 k).2.2.1 = some (tyX5 k) := by decide +kernel
abbrev cX5_init : ByteArray := prog_7_method_1_code
def yX5_init : MethodName := ⟨RX5, "<init>", "()V"⟩
abbrev cX5_isMissing : ByteArray := prog_7_method_2_code
def yX5_isMissing : MethodName := ⟨RX5, "isMissing", "()Z"⟩
abbrev cX5_hasPlace : ByteArray := prog_7_method_3_code
def yX5_hasPlace : MethodName := ⟨RX5, "hasPlace", "(I)Z"⟩
abbrev cX5_makeZeros : ByteArray := prog_7_method_4_code
def yX5_makeZeros : MethodName := ⟨RX5, "makeZeros", "(I)V"⟩
def RX6 : String := "CutInCopies$Point"
def TX6 : u_T := fun k => match k with
  | 0 => ("CutInCopies$Point", "x", "LCutInCopies$Fraction;", true)
  | _ => ("CutInCopies$Point", "y", "LCutInCopies$Fraction;", true)
def tyX6 : Nat → FieldType := fun k => match k with
  | 0 => .object "CutInCopies$Fraction"
  | _ => .object "CutInCopies$Fraction"
abbrev wsX60 : List Cond := u_ws RX6 TX6 2
theorem nmX6 : ∀ a, a < 2 → ∀ b, b < 2 → a ≠ b → (TX6 a).2.1 ≠ (TX6 b).2.1 := by decide +kernel
theorem tyX6_ok : ∀ k, k < 2 → parseFieldDescriptor (TX6 k).2.2.1 = some (tyX6 k) := by decide +kernel
abbrev cX6_init : ByteArray := prog_8_method_1_code
def yX6_init : MethodName := ⟨RX6, "<init>", "(LCutInCopies$Fraction;LCutInCopies$Fraction;)V"⟩
abbrev cX6_shade : ByteArray := prog_8_method_2_code
def yX6_shade : MethodName := ⟨RX6, "shade", "(Z)I"⟩
def RX7 : String := "CutInCopies$Rack"
def TX7 : u_T := fun k => match k with
  | 0 => ("CutInCopies$Rack", "places", "[LCutInCopies$Triangle;", true)
  | 1 => ("CutInCopies$Rack", "size", "I", false)
  | _ => ("CutInCopies$Rack", "madeFor", "I", false)
def tyX7 : Nat → FieldType := fun k => match k with
  | 0 => .array (.object "CutInCopies$Triangle")
  | 1 => .int
  | _ => .int
abbrev wsX70 : List Cond := u_ws RX7 TX7 3
theorem nmX7 : ∀ a, a < 3 → ∀ b, b < 3 → a ≠ b → (TX7 a).2.1 ≠ (TX7 b).2.1 := by decide +kernel
theorem tyX7_ok : ∀ k, k < 3 → parseFieldDescriptor (TX7 k).2.2.1 = some (tyX7 k) := by decide +kernel
abbrev cX7_init : ByteArray := prog_9_method_1_code
def yX7_init : MethodName := ⟨RX7, "<init>", "()V"⟩
abbrev cX7_isMissing : ByteArray := prog_9_method_2_code
def yX7_isMissing : MethodName := ⟨RX7, "isMissing", "()Z"⟩
abbrev cX7_hasPlace : ByteArray := prog_9_method_3_code
def yX7_hasPlace : MethodName := ⟨RX7, "hasPlace", "(I)Z"⟩
abbrev cX7_takes : ByteArray := prog_9_method_4_code
def yX7_takes : MethodName := ⟨RX7, "takes", "(LCutInCopies$Triangle;)Z"⟩
abbrev cX7_makeFor : ByteArray := prog_9_method_5_code
def yX7_makeFor : MethodName := ⟨RX7, "makeFor", "(II)V"⟩
abbrev cX7_copyFrom : ByteArray := prog_9_method_6_code
def yX7_copyFrom : MethodName := ⟨RX7, "copyFrom", "(LCutInCopies$Rack;)V"⟩
def RX8 : String := "CutInCopies$Rule"
def TX8 : u_T := fun k => match k with
  | 0 => ("CutInCopies$Rule", "parts", "[I", true)
  | 1 => ("CutInCopies$Rule", "lying", "[J", true)
  | 2 => ("CutInCopies$Rule", "fallen", "[J", true)
  | 3 => ("CutInCopies$Rule", "least", "[I", true)
  | _ => ("CutInCopies$Rule", "longer", "[I", true)
def tyX8 : Nat → FieldType := fun k => match k with
  | 0 => .array .int
  | 1 => .array .long
  | 2 => .array .long
  | 3 => .array .int
  | _ => .array .int
abbrev wsX80 : List Cond := u_ws RX8 TX8 5
theorem nmX8 : ∀ a, a < 5 → ∀ b, b < 5 → a ≠ b → (TX8 a).2.1 ≠ (TX8 b).2.1 := by decide +kernel
theorem tyX8_ok : ∀ k, k < 5 → parseFieldDescriptor (TX8 k).2.2.1 = some (tyX8 k) := by decide +kernel
abbrev cX8_init : ByteArray := prog_10_method_1_code
def yX8_init : MethodName := ⟨RX8, "<init>", "()V"⟩
abbrev cX8_copyFrom : ByteArray := prog_10_method_2_code
def yX8_copyFrom : MethodName := ⟨RX8, "copyFrom", "(LCutInCopies$Rule;)V"⟩
abbrev cX8_wayOfPart : ByteArray := prog_10_method_3_code
def yX8_wayOfPart : MethodName := ⟨RX8, "wayOfPart", "(II)I"⟩
abbrev cX8_become : ByteArray := prog_10_method_4_code
def yX8_become : MethodName := ⟨RX8, "become", "(III)V"⟩
abbrev cX8_lyingBehind : ByteArray := prog_10_method_5_code
def yX8_lyingBehind : MethodName := ⟨RX8, "lyingBehind", "(III)J"⟩
abbrev cX8_startWith : ByteArray := prog_10_method_6_code
def yX8_startWith : MethodName := ⟨RX8, "startWith", "(I)V"⟩
abbrev cX8_cutOnce : ByteArray := prog_10_method_7_code
def yX8_cutOnce : MethodName := ⟨RX8, "cutOnce", "()V"⟩
abbrev cX8_cutsToAlike : ByteArray := prog_10_method_8_code
def yX8_cutsToAlike : MethodName := ⟨RX8, "cutsToAlike", "(I)I"⟩
abbrev cX8_wayAt : ByteArray := prog_10_method_9_code
def yX8_wayAt : MethodName := ⟨RX8, "wayAt", "(III)I"⟩
abbrev cX8_meeting : ByteArray := prog_10_method_10_code
def yX8_meeting : MethodName := ⟨RX8, "meeting", "(IIZ)I"⟩
abbrev cX8_addFirstDigit : ByteArray := prog_10_method_11_code
def yX8_addFirstDigit : MethodName := ⟨RX8, "addFirstDigit", "()V"⟩
abbrev cX8_steadyWays : ByteArray := prog_10_method_12_code
def yX8_steadyWays : MethodName := ⟨RX8, "steadyWays", "(I)I"⟩
abbrev cX8_waysBehind : ByteArray := prog_10_method_13_code
def yX8_waysBehind : MethodName := ⟨RX8, "waysBehind", "(I)I"⟩
abbrev cX8_drawLots : ByteArray := prog_10_method_14_code
def yX8_drawLots : MethodName := ⟨RX8, "drawLots", "(IIIZ)I"⟩
def RX9 : String := "CutInCopies$Shapes"
def TX9 : u_T := fun k => match k with
  | 0 => ("CutInCopies$Shapes", "points", "[LCutInCopies$Point;", true)
  | 1 => ("CutInCopies$Shapes", "triangles", "[LCutInCopies$Triangle;", true)
  | 2 => ("CutInCopies$Shapes", "pointCount", "I", false)
  | _ => ("CutInCopies$Shapes", "triangleCount", "I", false)
def tyX9 : Nat → FieldType := fun k => match k with
  | 0 => .array (.object "CutInCopies$Point")
  | 1 => .array (.object "CutInCopies$Triangle")
  | 2 => .int
  | _ => .int
abbrev wsX90 : List Cond := u_ws RX9 TX9 4
theorem nmX9 : ∀ a, a < 4 → ∀ b, b < 4 → a ≠ b → (TX9 a).2.1 ≠ (TX9 b).2.1 := by decide +kernel
theorem tyX9_ok : ∀ k, k < 4 → parseFieldDescriptor (TX9 k).2.2.1 = some (tyX9 k) := by decide +kernel
abbrev cX9_init : ByteArray := prog_11_method_1_code
def yX9_init : MethodName := ⟨RX9, "<init>", "()V"⟩
abbrev cX9_copyFrom : ByteArray := prog_11_method_2_code
def yX9_copyFrom : MethodName := ⟨RX9, "copyFrom", "(LCutInCopies$Shapes;)V"⟩
abbrev cX9_hasPoint : ByteArray := prog_11_method_3_code
def yX9_hasPoint : MethodName := ⟨RX9, "hasPoint", "(I)Z"⟩
abbrev cX9_hasTriangle : ByteArray := prog_11_method_4_code
def yX9_hasTriangle : MethodName := ⟨RX9, "hasTriangle", "(I)Z"⟩
abbrev cX9_hasSet : ByteArray := prog_11_method_5_code
def yX9_hasSet : MethodName := ⟨RX9, "hasSet", "(I)Z"⟩
abbrev cX9_areThree : ByteArray := prog_11_method_6_code
def yX9_areThree : MethodName := ⟨RX9, "areThree", "(IIII)Z"⟩
abbrev cX9_addPoint : ByteArray := prog_11_method_7_code
def yX9_addPoint : MethodName := ⟨RX9, "addPoint", "(II)V"⟩
abbrev cX9_fractionOf : ByteArray := prog_11_method_8_code
def yX9_fractionOf : MethodName := ⟨RX9, "fractionOf", "(I)LCutInCopies$Fraction;"⟩
abbrev cX9_addTriangle : ByteArray := prog_11_method_9_code
def yX9_addTriangle : MethodName := ⟨RX9, "addTriangle", "(IIII)V"⟩
abbrev cX9_isIn : ByteArray := prog_11_method_10_code
def yX9_isIn : MethodName := ⟨RX9, "isIn", "(II)Z"⟩
abbrev cX9_exactSum : ByteArray := prog_11_method_11_code
def yX9_exactSum : MethodName := ⟨RX9, "exactSum", "(I)LCutInCopies$Fraction;"⟩
abbrev cX9_evenOnes : ByteArray := prog_11_method_12_code
def yX9_evenOnes : MethodName := ⟨RX9, "evenOnes", "(I)I"⟩
abbrev cX9_rainbows : ByteArray := prog_11_method_13_code
def yX9_rainbows : MethodName := ⟨RX9, "rainbows", "(I)I"⟩
abbrev cX9_areAlike : ByteArray := prog_11_method_14_code
def yX9_areAlike : MethodName := ⟨RX9, "areAlike", "(I)Z"⟩
abbrev cX9_floatSum : ByteArray := prog_11_method_15_code
def yX9_floatSum : MethodName := ⟨RX9, "floatSum", "(I)F"⟩
abbrev cX9_doubleSum : ByteArray := prog_11_method_16_code
def yX9_doubleSum : MethodName := ⟨RX9, "doubleSum", "(I)D"⟩
def RX10 : String := "CutInCopies$Triangle"
def TX10 : u_T := fun k => match k with
  | 0 => ("CutInCopies$Triangle", "kind", "I", true)
  | 1 => ("CutInCopies$Triangle", "first", "I", true)
  | 2 => ("CutInCopies$Triangle", "second", "I", true)
  | 3 => ("CutInCopies$Triangle", "third", "I", true)
  | 4 => ("CutInCopies$Triangle", "colours", "I", true)
  | _ => ("CutInCopies$Triangle", "area", "LCutInCopies$Fraction;", true)
def tyX10 : Nat → FieldType := fun k => match k with
  | 0 => .int
  | 1 => .int
  | 2 => .int
  | 3 => .int
  | 4 => .int
  | _ => .object "CutInCopies$Fraction"
abbrev wsX100 : List Cond := u_ws RX10 TX10 6
theorem nmX10 : ∀ a, a < 6 → ∀ b, b < 6 → a ≠ b → (TX10 a).2.1 ≠ (TX10 b).2.1 := by decide +kernel
theorem tyX10_ok : ∀ k, k < 6 → parseFieldDescriptor (TX10 k).2.2.1 = some (tyX10 k) := by decide +kernel
abbrev cX10_init : ByteArray := prog_12_method_1_code
def yX10_init : MethodName := ⟨RX10, "<init>", "(IIIIILCutInCopies$Fraction;)V"⟩
abbrev cX10_lyingOn : ByteArray := prog_12_method_2_code
def yX10_lyingOn : MethodName := ⟨RX10, "lyingOn", "([LCutInCopies$Point;IIII)LCutInCopies$Triangle;"⟩
abbrev cX10_isKind : ByteArray := prog_12_method_3_code
def yX10_isKind : MethodName := ⟨RX10, "isKind", "(I)Z"⟩
abbrev cX10_isUnder : ByteArray := prog_12_method_4_code
def yX10_isUnder : MethodName := ⟨RX10, "isUnder", "(II)Z"⟩
abbrev cX10_isRainbow : ByteArray := prog_12_method_5_code
def yX10_isRainbow : MethodName := ⟨RX10, "isRainbow", "()Z"⟩
def RX11 : String := "CutInCopies"
def TX11 : u_T := fun k => match k with
  | 0 => ("CutInCopies", "board", "LCutInCopies$Board;", true)
  | 1 => ("CutInCopies", "rule", "LCutInCopies$Rule;", true)
  | 2 => ("CutInCopies", "shapes", "LCutInCopies$Shapes;", true)
  | 3 => ("CutInCopies", "letters", "LCutInCopies$Letters;", true)
  | 4 => ("CutInCopies", "image", "LCutInCopies$Image;", true)
  | 5 => ("CutInCopies", "racks", "[LCutInCopies$Rack;", true)
  | 6 => ("CutInCopies", "lists", "[LCutInCopies$Numbers;", true)
  | _ => ("CutInCopies", "refusals", "[I", true)
def tyX11 : Nat → FieldType := fun k => match k with
  | 0 => .object "CutInCopies$Board"
  | 1 => .object "CutInCopies$Rule"
  | 2 => .object "CutInCopies$Shapes"
  | 3 => .object "CutInCopies$Letters"
  | 4 => .object "CutInCopies$Image"
  | 5 => .array (.object "CutInCopies$Rack")
  | 6 => .array (.object "CutInCopies$Numbers")
  | _ => .array .int
abbrev wsX110 : List Cond := u_ws RX11 TX11 8
theorem nmX11 : ∀ a, a < 8 → ∀ b, b < 8 → a ≠ b → (TX11 a).2.1 ≠ (TX11 b).2.1 := by decide +kernel
theorem tyX11_ok : ∀ k, k < 8 → parseFieldDescriptor (TX11 k).2.2.1 = some (tyX11 k) := by decide +kernel
abbrev cX11_init : ByteArray := prog_1_method_1_code
def yX11_init : MethodName := ⟨RX11, "<init>", "()V"⟩
abbrev cX11_letter : ByteArray := prog_1_method_2_code
def yX11_letter : MethodName := ⟨RX11, "letter", "(I)I"⟩
abbrev cX11_text : ByteArray := prog_1_method_3_code
def yX11_text : MethodName := ⟨RX11, "text", "()I"⟩
abbrev cX11_board : ByteArray := prog_1_method_4_code
def yX11_board : MethodName := ⟨RX11, "board", "(III)I"⟩
abbrev cX11_piece : ByteArray := prog_1_method_5_code
def yX11_piece : MethodName := ⟨RX11, "piece", "(II)I"⟩
abbrev cX11_of : ByteArray := prog_1_method_6_code
def yX11_of : MethodName := ⟨RX11, "of", "(II)I"⟩
abbrev cX11_within : ByteArray := prog_1_method_7_code
def yX11_within : MethodName := ⟨RX11, "within", "(IIII)I"⟩
abbrev cX11_pieces : ByteArray := prog_1_method_8_code
def yX11_pieces : MethodName := ⟨RX11, "pieces", "(I)I"⟩
abbrev cX11_odds : ByteArray := prog_1_method_9_code
def yX11_odds : MethodName := ⟨RX11, "odds", "(II)J"⟩
abbrev cX11_rule : ByteArray := prog_1_method_10_code
def yX11_rule : MethodName := ⟨RX11, "rule", "(III)I"⟩
abbrev cX11_behind : ByteArray := prog_1_method_11_code
def yX11_behind : MethodName := ⟨RX11, "behind", "(III)J"⟩
abbrev cX11_address : ByteArray := prog_1_method_12_code
def yX11_address : MethodName := ⟨RX11, "address", "(III)I"⟩
abbrev cX11_meet : ByteArray := prog_1_method_13_code
def yX11_meet : MethodName := ⟨RX11, "meet", "(III)I"⟩
abbrev cX11_steady : ByteArray := prog_1_method_14_code
def yX11_steady : MethodName := ⟨RX11, "steady", "(I)I"⟩
abbrev cX11_falls : ByteArray := prog_1_method_15_code
def yX11_falls : MethodName := ⟨RX11, "falls", "(I)I"⟩
abbrev cX11_lots : ByteArray := prog_1_method_16_code
def yX11_lots : MethodName := ⟨RX11, "lots", "(IIII)I"⟩
abbrev cX11_point : ByteArray := prog_1_method_17_code
def yX11_point : MethodName := ⟨RX11, "point", "(II)I"⟩
abbrev cX11_colour : ByteArray := prog_1_method_18_code
def yX11_colour : MethodName := ⟨RX11, "colour", "(II)I"⟩
abbrev cX11_triangle : ByteArray := prog_1_method_19_code
def yX11_triangle : MethodName := ⟨RX11, "triangle", "(IIII)I"⟩
abbrev cX11_tri : ByteArray := prog_1_method_20_code
def yX11_tri : MethodName := ⟨RX11, "tri", "(II)I"⟩
abbrev cX11_area : ByteArray := prog_1_method_21_code
def yX11_area : MethodName := ⟨RX11, "area", "(II)J"⟩
abbrev cX11_sum : ByteArray := prog_1_method_22_code
def yX11_sum : MethodName := ⟨RX11, "sum", "(II)J"⟩
abbrev cX11_even : ByteArray := prog_1_method_23_code
def yX11_even : MethodName := ⟨RX11, "even", "(II)I"⟩
abbrev cX11_bits : ByteArray := prog_1_method_24_code
def yX11_bits : MethodName := ⟨RX11, "bits", "(I)I"⟩
abbrev cX11_bitsOf : ByteArray := prog_1_method_25_code
def yX11_bitsOf : MethodName := ⟨RX11, "bitsOf", "(II)I"⟩
abbrev cX11_longBits : ByteArray := prog_1_method_26_code
def yX11_longBits : MethodName := ⟨RX11, "longBits", "(I)J"⟩
abbrev cX11_rack : ByteArray := prog_1_method_27_code
def yX11_rack : MethodName := ⟨RX11, "rack", "(III)I"⟩
abbrev cX11_racks : ByteArray := prog_1_method_28_code
def yX11_racks : MethodName := ⟨RX11, "racks", "(III)I"⟩
abbrev cX11_racked : ByteArray := prog_1_method_29_code
def yX11_racked : MethodName := ⟨RX11, "racked", "(III)I"⟩
abbrev cX11_like : ByteArray := prog_1_method_30_code
def yX11_like : MethodName := ⟨RX11, "like", "(II)I"⟩
abbrev cX11_list : ByteArray := prog_1_method_31_code
def yX11_list : MethodName := ⟨RX11, "list", "(II)I"⟩
abbrev cX11_put : ByteArray := prog_1_method_32_code
def yX11_put : MethodName := ⟨RX11, "put", "(III)I"⟩
abbrev cX11_look : ByteArray := prog_1_method_33_code
def yX11_look : MethodName := ⟨RX11, "look", "(II)J"⟩
abbrev cX11_judge : ByteArray := prog_1_method_34_code
def yX11_judge : MethodName := ⟨RX11, "judge", "(I)I"⟩
abbrev cX11_image : ByteArray := prog_1_method_35_code
def yX11_image : MethodName := ⟨RX11, "image", "()I"⟩
abbrev cX11_on : ByteArray := prog_1_method_36_code
def yX11_on : MethodName := ⟨RX11, "on", "()I"⟩
abbrev cX11_count : ByteArray := prog_1_method_37_code
def yX11_count : MethodName := ⟨RX11, "count", "(I)I"⟩
abbrev cX11_refuse : ByteArray := prog_1_method_38_code
def yX11_refuse : MethodName := ⟨RX11, "refuse", "(I)I"⟩
abbrev cX11_refuseFar : ByteArray := prog_1_method_39_code
def yX11_refuseFar : MethodName := ⟨RX11, "refuseFar", "(I)J"⟩
abbrev cX11_isWay : ByteArray := prog_1_method_40_code
def yX11_isWay : MethodName := ⟨RX11, "isWay", "(I)Z"⟩
abbrev cX11_isPartOfFraction : ByteArray := prog_1_method_41_code
def yX11_isPartOfFraction : MethodName := ⟨RX11, "isPartOfFraction", "(I)Z"⟩
abbrev cX11_isRow : ByteArray := prog_1_method_42_code
def yX11_isRow : MethodName := ⟨RX11, "isRow", "(I)Z"⟩
abbrev cX11_faultOfLetters : ByteArray := prog_1_method_43_code
def yX11_faultOfLetters : MethodName := ⟨RX11, "faultOfLetters", "()I"⟩
abbrev cX11_canBe : ByteArray := prog_1_method_44_code
def yX11_canBe : MethodName := ⟨RX11, "canBe", "(III)Z"⟩
abbrev cX11_areWays : ByteArray := prog_1_method_45_code
def yX11_areWays : MethodName := ⟨RX11, "areWays", "(II)Z"⟩
abbrev cX11_runStatement : ByteArray := prog_1_method_46_code
def yX11_runStatement : MethodName := ⟨RX11, "runStatement", "(I)V"⟩
def RX12 : String := "CutInCopiesModel"
def TX12 : u_T := fun k => match k with
  | 0 => ("CutInCopiesModel", "refusals", "[I", true)
  | 1 => ("CutInCopiesModel", "power", "I", false)
  | 2 => ("CutInCopiesModel", "holeX", "I", false)
  | 3 => ("CutInCopiesModel", "holeY", "I", false)
  | 4 => ("CutInCopiesModel", "pieces", "I", false)
  | 5 => ("CutInCopiesModel", "cells", "[I", true)
  | 6 => ("CutInCopiesModel", "ways", "[I", true)
  | 7 => ("CutInCopiesModel", "sizes", "[I", true)
  | 8 => ("CutInCopiesModel", "cornerX", "[I", true)
  | 9 => ("CutInCopiesModel", "cornerY", "[I", true)
  | 10 => ("CutInCopiesModel", "rule", "[I", true)
  | 11 => ("CutInCopiesModel", "many", "[J", true)
  | 12 => ("CutInCopiesModel", "then", "[J", true)
  | 13 => ("CutInCopiesModel", "least", "[I", true)
  | 14 => ("CutInCopiesModel", "leastThen", "[I", true)
  | 15 => ("CutInCopiesModel", "points", "I", false)
  | 16 => ("CutInCopiesModel", "numbers", "[I", true)
  | 17 => ("CutInCopiesModel", "triangles", "I", false)
  | 18 => ("CutInCopiesModel", "kinds", "[I", true)
  | 19 => ("CutInCopiesModel", "corners", "[I", true)
  | 20 => ("CutInCopiesModel", "above", "J", false)
  | 21 => ("CutInCopiesModel", "below", "J", false)
  | 22 => ("CutInCopiesModel", "rackKinds", "[I", true)
  | 23 => ("CutInCopiesModel", "rackSizes", "[I", true)
  | 24 => ("CutInCopiesModel", "laid", "[I", true)
  | 25 => ("CutInCopiesModel", "laidValuations", "[I", true)
  | 26 => ("CutInCopiesModel", "listSizes", "[I", true)
  | 27 => ("CutInCopiesModel", "items", "[I", true)
  | 28 => ("CutInCopiesModel", "letters", "[I", true)
  | 29 => ("CutInCopiesModel", "lettered", "I", false)
  | 30 => ("CutInCopiesModel", "at", "I", false)
  | 31 => ("CutInCopiesModel", "told", "[I", true)
  | 32 => ("CutInCopiesModel", "rulesAhead", "[I", true)
  | 33 => ("CutInCopiesModel", "isKept", "Z", false)
  | 34 => ("CutInCopiesModel", "keptPower", "I", false)
  | 35 => ("CutInCopiesModel", "keptX", "I", false)
  | 36 => ("CutInCopiesModel", "keptY", "I", false)
  | 37 => ("CutInCopiesModel", "keptPoints", "I", false)
  | 38 => ("CutInCopiesModel", "keptTriangles", "I", false)
  | 39 => ("CutInCopiesModel", "keptRule", "[I", true)
  | 40 => ("CutInCopiesModel", "keptNumbers", "[I", true)
  | 41 => ("CutInCopiesModel", "keptKinds", "[I", true)
  | _ => ("CutInCopiesModel", "keptCorners", "[I", true)
def tyX12 : Nat → FieldType := fun k => match k with
  | 0 => .array .int
  | 1 => .int
  | 2 => .int
  | 3 => .int
  | 4 => .int
  | 5 => .array .int
  | 6 => .array .int
  | 7 => .array .int
  | 8 => .array .int
  | 9 => .array .int
  | 10 => .array .int
  | 11 => .array .long
  | 12 => .array .long
  | 13 => .array .int
  | 14 => .array .int
  | 15 => .int
  | 16 => .array .int
  | 17 => .int
  | 18 => .array .int
  | 19 => .array .int
  | 20 => .long
  | 21 => .long
  | 22 => .array .int
  | 23 => .array .int
  | 24 => .array .int
  | 25 => .array .int
  | 26 => .array .int
  | 27 => .array .int
  | 28 => .array .int
  | 29 => .int
  | 30 => .int
  | 31 => .array .int
  | 32 => .array .int
  | 33 => .boolean
  | 34 => .int
  | 35 => .int
  | 36 => .int
  | 37 => .int
  | 38 => .int
  | 39 => .array .int
  | 40 => .array .int
  | 41 => .array .int
  | _ => .array .int
abbrev wsX120 : List Cond := u_ws RX12 TX12 43
theorem nmX12 : ∀ a, a < 43 → ∀ b, b < 43 → a ≠ b → (TX12 a).2.1 ≠ (TX12 b).2.1 := by decide +kernel
theorem tyX12_ok : ∀ k, k < 43 → parseFieldDescriptor (TX12 k).2.2.1 = some (tyX12 k) := by decide +kernel
abbrev cX12_refused : ByteArray := prog_14_method_1_code
def yX12_refused : MethodName := ⟨RX12, "refused", "(I)I"⟩
abbrev cX12_refusedFar : ByteArray := prog_14_method_2_code
def yX12_refusedFar : MethodName := ⟨RX12, "refusedFar", "(I)J"⟩
abbrev cX12_isIn : ByteArray := prog_14_method_3_code
def yX12_isIn : MethodName := ⟨RX12, "isIn", "(JJJ)Z"⟩
abbrev cX12_has : ByteArray := prog_14_method_4_code
def yX12_has : MethodName := ⟨RX12, "has", "(II)Z"⟩
abbrev cX12_divisor : ByteArray := prog_14_method_5_code
def yX12_divisor : MethodName := ⟨RX12, "divisor", "(JJ)J"⟩
abbrev cX12_part : ByteArray := prog_14_method_6_code
def yX12_part : MethodName := ⟨RX12, "part", "(JJI)J"⟩
abbrev cX12_init : ByteArray := prog_14_method_7_code
def yX12_init : MethodName := ⟨RX12, "<init>", "()V"⟩
abbrev cX12_side : ByteArray := prog_14_method_8_code
def yX12_side : MethodName := ⟨RX12, "side", "()I"⟩
abbrev cX12_isCell : ByteArray := prog_14_method_9_code
def yX12_isCell : MethodName := ⟨RX12, "isCell", "(II)Z"⟩
abbrev cX12_lays : ByteArray := prog_14_method_10_code
def yX12_lays : MethodName := ⟨RX12, "lays", "(III)V"⟩
abbrev cX12_cuts : ByteArray := prog_14_method_11_code
def yX12_cuts : MethodName := ⟨RX12, "cuts", "(IIIII)V"⟩
abbrev cX12_cell : ByteArray := prog_14_method_12_code
def yX12_cell : MethodName := ⟨RX12, "cell", "(II)I"⟩
abbrev cX12_board : ByteArray := prog_14_method_13_code
def yX12_board : MethodName := ⟨RX12, "board", "(III)I"⟩
abbrev cX12_piece : ByteArray := prog_14_method_14_code
def yX12_piece : MethodName := ⟨RX12, "piece", "(II)I"⟩
abbrev cX12_areBeside : ByteArray := prog_14_method_15_code
def yX12_areBeside : MethodName := ⟨RX12, "areBeside", "(IIIIII)Z"⟩
abbrev cX12_isTouching : ByteArray := prog_14_method_16_code
def yX12_isTouching : MethodName := ⟨RX12, "isTouching", "(II)Z"⟩
abbrev cX12_touching : ByteArray := prog_14_method_17_code
def yX12_touching : MethodName := ⟨RX12, "touching", "(I)I"⟩
abbrev cX12_of : ByteArray := prog_14_method_18_code
def yX12_of : MethodName := ⟨RX12, "of", "(II)I"⟩
abbrev cX12_isWithin : ByteArray := prog_14_method_19_code
def yX12_isWithin : MethodName := ⟨RX12, "isWithin", "(IIIII)Z"⟩
abbrev cX12_within : ByteArray := prog_14_method_20_code
def yX12_within : MethodName := ⟨RX12, "within", "(IIII)I"⟩
abbrev cX12_edge : ByteArray := prog_14_method_21_code
def yX12_edge : MethodName := ⟨RX12, "edge", "()I"⟩
abbrev cX12_inWay : ByteArray := prog_14_method_22_code
def yX12_inWay : MethodName := ⟨RX12, "inWay", "(I)I"⟩
abbrev cX12_pieces : ByteArray := prog_14_method_23_code
def yX12_pieces : MethodName := ⟨RX12, "pieces", "(I)I"⟩
abbrev cX12_isWay : ByteArray := prog_14_method_24_code
def yX12_isWay : MethodName := ⟨RX12, "isWay", "(I)Z"⟩
abbrev cX12_odds : ByteArray := prog_14_method_25_code
def yX12_odds : MethodName := ⟨RX12, "odds", "(II)J"⟩
abbrev cX12_rulesAtFirst : ByteArray := prog_14_method_26_code
def yX12_rulesAtFirst : MethodName := ⟨RX12, "rulesAtFirst", "()V"⟩
abbrev cX12_rule : ByteArray := prog_14_method_27_code
def yX12_rule : MethodName := ⟨RX12, "rule", "(III)I"⟩
abbrev cX12_begins : ByteArray := prog_14_method_28_code
def yX12_begins : MethodName := ⟨RX12, "begins", "(I)V"⟩
abbrev cX12_fallsAll : ByteArray := prog_14_method_29_code
def yX12_fallsAll : MethodName := ⟨RX12, "fallsAll", "()V"⟩
abbrev cX12_behind : ByteArray := prog_14_method_30_code
def yX12_behind : MethodName := ⟨RX12, "behind", "(III)J"⟩
abbrev cX12_address : ByteArray := prog_14_method_31_code
def yX12_address : MethodName := ⟨RX12, "address", "(III)I"⟩
abbrev cX12_leads : ByteArray := prog_14_method_32_code
def yX12_leads : MethodName := ⟨RX12, "leads", "(I)V"⟩
abbrev cX12_leastAlike : ByteArray := prog_14_method_33_code
def yX12_leastAlike : MethodName := ⟨RX12, "leastAlike", "()I"⟩
abbrev cX12_meet : ByteArray := prog_14_method_34_code
def yX12_meet : MethodName := ⟨RX12, "meet", "(III)I"⟩
abbrev cX12_steady : ByteArray := prog_14_method_35_code
def yX12_steady : MethodName := ⟨RX12, "steady", "(I)I"⟩
abbrev cX12_falls : ByteArray := prog_14_method_36_code
def yX12_falls : MethodName := ⟨RX12, "falls", "(I)I"⟩
abbrev cX12_lots : ByteArray := prog_14_method_37_code
def yX12_lots : MethodName := ⟨RX12, "lots", "(IIII)I"⟩
abbrev cX12_comesPoint : ByteArray := prog_14_method_38_code
def yX12_comesPoint : MethodName := ⟨RX12, "comesPoint", "(IIII)V"⟩
abbrev cX12_point : ByteArray := prog_14_method_39_code
def yX12_point : MethodName := ⟨RX12, "point", "(II)I"⟩
abbrev cX12_twos : ByteArray := prog_14_method_40_code
def yX12_twos : MethodName := ⟨RX12, "twos", "(J)I"⟩
abbrev cX12_valuation : ByteArray := prog_14_method_41_code
def yX12_valuation : MethodName := ⟨RX12, "valuation", "(JJ)I"⟩
abbrev cX12_valuationOf : ByteArray := prog_14_method_42_code
def yX12_valuationOf : MethodName := ⟨RX12, "valuationOf", "(II)I"⟩
abbrev cX12_colourBy : ByteArray := prog_14_method_43_code
def yX12_colourBy : MethodName := ⟨RX12, "colourBy", "(II)I"⟩
abbrev cX12_isPoint : ByteArray := prog_14_method_44_code
def yX12_isPoint : MethodName := ⟨RX12, "isPoint", "(I)Z"⟩
abbrev cX12_colour : ByteArray := prog_14_method_45_code
def yX12_colour : MethodName := ⟨RX12, "colour", "(II)I"⟩
abbrev cX12_comesTriangle : ByteArray := prog_14_method_46_code
def yX12_comesTriangle : MethodName := ⟨RX12, "comesTriangle", "(IIII)V"⟩
abbrev cX12_areThree : ByteArray := prog_14_method_47_code
def yX12_areThree : MethodName := ⟨RX12, "areThree", "(III)Z"⟩
abbrev cX12_triangle : ByteArray := prog_14_method_48_code
def yX12_triangle : MethodName := ⟨RX12, "triangle", "(IIII)I"⟩
abbrev cX12_isUnder : ByteArray := prog_14_method_49_code
def yX12_isUnder : MethodName := ⟨RX12, "isUnder", "(II)Z"⟩
abbrev cX12_tells : ByteArray := prog_14_method_50_code
def yX12_tells : MethodName := ⟨RX12, "tells", "(JJ)V"⟩
abbrev cX12_over : ByteArray := prog_14_method_51_code
def yX12_over : MethodName := ⟨RX12, "over", "(II)J"⟩
abbrev cX12_under : ByteArray := prog_14_method_52_code
def yX12_under : MethodName := ⟨RX12, "under", "(II)J"⟩
abbrev cX12_more : ByteArray := prog_14_method_53_code
def yX12_more : MethodName := ⟨RX12, "more", "(III)J"⟩
abbrev cX12_belowOf : ByteArray := prog_14_method_54_code
def yX12_belowOf : MethodName := ⟨RX12, "belowOf", "(III)J"⟩
abbrev cX12_areaOf : ByteArray := prog_14_method_55_code
def yX12_areaOf : MethodName := ⟨RX12, "areaOf", "(I)V"⟩
abbrev cX12_coloursOf : ByteArray := prog_14_method_56_code
def yX12_coloursOf : MethodName := ⟨RX12, "coloursOf", "(I)I"⟩
abbrev cX12_areaValuation : ByteArray := prog_14_method_57_code
def yX12_areaValuation : MethodName := ⟨RX12, "areaValuation", "(I)I"⟩
abbrev cX12_isTriangle : ByteArray := prog_14_method_58_code
def yX12_isTriangle : MethodName := ⟨RX12, "isTriangle", "(I)Z"⟩
abbrev cX12_tri : ByteArray := prog_14_method_59_code
def yX12_tri : MethodName := ⟨RX12, "tri", "(II)I"⟩
abbrev cX12_area : ByteArray := prog_14_method_60_code
def yX12_area : MethodName := ⟨RX12, "area", "(II)J"⟩
abbrev cX12_isSet : ByteArray := prog_14_method_61_code
def yX12_isSet : MethodName := ⟨RX12, "isSet", "(I)Z"⟩
abbrev cX12_isGreat : ByteArray := prog_14_method_62_code
def yX12_isGreat : MethodName := ⟨RX12, "isGreat", "()Z"⟩
abbrev cX12_sum : ByteArray := prog_14_method_63_code
def yX12_sum : MethodName := ⟨RX12, "sum", "(II)J"⟩
abbrev cX12_evens : ByteArray := prog_14_method_64_code
def yX12_evens : MethodName := ⟨RX12, "evens", "(I)I"⟩
abbrev cX12_rainbows : ByteArray := prog_14_method_65_code
def yX12_rainbows : MethodName := ⟨RX12, "rainbows", "(I)I"⟩
abbrev cX12_isAlike : ByteArray := prog_14_method_66_code
def yX12_isAlike : MethodName := ⟨RX12, "isAlike", "(I)Z"⟩
abbrev cX12_even : ByteArray := prog_14_method_67_code
def yX12_even : MethodName := ⟨RX12, "even", "(II)I"⟩
abbrev cX12_floatOf : ByteArray := prog_14_method_68_code
def yX12_floatOf : MethodName := ⟨RX12, "floatOf", "(I)F"⟩
abbrev cX12_bits : ByteArray := prog_14_method_69_code
def yX12_bits : MethodName := ⟨RX12, "bits", "(I)I"⟩
abbrev cX12_bitsOf : ByteArray := prog_14_method_70_code
def yX12_bitsOf : MethodName := ⟨RX12, "bitsOf", "(II)I"⟩
abbrev cX12_longBits : ByteArray := prog_14_method_71_code
def yX12_longBits : MethodName := ⟨RX12, "longBits", "(I)J"⟩
abbrev cX12_isRack : ByteArray := prog_14_method_72_code
def yX12_isRack : MethodName := ⟨RX12, "isRack", "(I)Z"⟩
abbrev cX12_rack : ByteArray := prog_14_method_73_code
def yX12_rack : MethodName := ⟨RX12, "rack", "(III)I"⟩
abbrev cX12_racks : ByteArray := prog_14_method_74_code
def yX12_racks : MethodName := ⟨RX12, "racks", "(III)I"⟩
abbrev cX12_racked : ByteArray := prog_14_method_75_code
def yX12_racked : MethodName := ⟨RX12, "racked", "(III)I"⟩
abbrev cX12_like : ByteArray := prog_14_method_76_code
def yX12_like : MethodName := ⟨RX12, "like", "(II)I"⟩
abbrev cX12_isList : ByteArray := prog_14_method_77_code
def yX12_isList : MethodName := ⟨RX12, "isList", "(I)Z"⟩
abbrev cX12_list : ByteArray := prog_14_method_78_code
def yX12_list : MethodName := ⟨RX12, "list", "(II)I"⟩
abbrev cX12_put : ByteArray := prog_14_method_79_code
def yX12_put : MethodName := ⟨RX12, "put", "(III)I"⟩
abbrev cX12_look : ByteArray := prog_14_method_80_code
def yX12_look : MethodName := ⟨RX12, "look", "(II)J"⟩
abbrev cX12_judge : ByteArray := prog_14_method_81_code
def yX12_judge : MethodName := ⟨RX12, "judge", "(I)I"⟩
abbrev cX12_letter : ByteArray := prog_14_method_82_code
def yX12_letter : MethodName := ⟨RX12, "letter", "(I)I"⟩
abbrev cX12_numbersOf : ByteArray := prog_14_method_83_code
def yX12_numbersOf : MethodName := ⟨RX12, "numbersOf", "(I)I"⟩
abbrev cX12_digitsOf : ByteArray := prog_14_method_84_code
def yX12_digitsOf : MethodName := ⟨RX12, "digitsOf", "(II)I"⟩
abbrev cX12_statement : ByteArray := prog_14_method_85_code
def yX12_statement : MethodName := ⟨RX12, "statement", "()I"⟩
abbrev cX12_isDone : ByteArray := prog_14_method_86_code
def yX12_isDone : MethodName := ⟨RX12, "isDone", "(I)Z"⟩
abbrev cX12_isRuled : ByteArray := prog_14_method_87_code
def yX12_isRuled : MethodName := ⟨RX12, "isRuled", "()Z"⟩
abbrev cX12_text : ByteArray := prog_14_method_88_code
def yX12_text : MethodName := ⟨RX12, "text", "()I"⟩
abbrev cX12_done : ByteArray := prog_14_method_89_code
def yX12_done : MethodName := ⟨RX12, "done", "(I)I"⟩
abbrev cX12_image : ByteArray := prog_14_method_90_code
def yX12_image : MethodName := ⟨RX12, "image", "()I"⟩
abbrev cX12_on : ByteArray := prog_14_method_91_code
def yX12_on : MethodName := ⟨RX12, "on", "()I"⟩
abbrev cX12_count : ByteArray := prog_14_method_92_code
def yX12_count : MethodName := ⟨RX12, "count", "(I)I"⟩
def RJxe99ae : String := "java/lang/Double"
def TJxe99ae : u_T := fun k => match k with
  | _ => ("", "", "", false)
def tyJxe99ae : Nat → FieldType := fun k => match k with
  | _ => .int
abbrev wsJxe99ae0 : List Cond := u_ws RJxe99ae TJxe99ae 0
theorem nmJxe99ae : ∀ a, a < 0 → ∀ b, b < 0 → a ≠ b → (TJxe99ae a).2.1 ≠ (TJxe99ae b).2.1 := by decide +kernel
theorem tyJxe99ae_ok : ∀ k, k < 0 → parseFieldDescriptor (TJxe99ae k).2.2.1 = some (tyJxe99ae k) := by decide +kernel
abbrev cJxe99ae_isNaN_b9ae7 : ByteArray := prog_15_method_6_code
def yJxe99ae_isNaN_b9ae7 : MethodName := ⟨RJxe99ae, "isNaN", "(D)Z"⟩
abbrev cJxe99ae_doubleToLongBits_ccdee : ByteArray := prog_15_method_23_code
def yJxe99ae_doubleToLongBits_ccdee : MethodName := ⟨RJxe99ae, "doubleToLongBits", "(D)J"⟩
def RJxf58ca : String := "java/lang/Float"
def TJxf58ca : u_T := fun k => match k with
  | _ => ("", "", "", false)
def tyJxf58ca : Nat → FieldType := fun k => match k with
  | _ => .int
abbrev wsJxf58ca0 : List Cond := u_ws RJxf58ca TJxf58ca 0
theorem nmJxf58ca : ∀ a, a < 0 → ∀ b, b < 0 → a ≠ b → (TJxf58ca a).2.1 ≠ (TJxf58ca b).2.1 := by decide +kernel
theorem tyJxf58ca_ok : ∀ k, k < 0 → parseFieldDescriptor (TJxf58ca k).2.2.1 = some (tyJxf58ca k) := by decide +kernel
abbrev cJxf58ca_isNaN_12338 : ByteArray := prog_16_method_6_code
def yJxf58ca_isNaN_12338 : MethodName := ⟨RJxf58ca, "isNaN", "(F)Z"⟩
abbrev cJxf58ca_floatToIntBits_5c35a : ByteArray := prog_16_method_24_code
def yJxf58ca_floatToIntBits_5c35a : MethodName := ⟨RJxf58ca, "floatToIntBits", "(F)I"⟩
def RJ6 : String := "java/lang/Integer"
def TJ6 : u_T := fun k => match k with
  | _ => ("", "", "", false)
def tyJ6 : Nat → FieldType := fun k => match k with
  | _ => .int
abbrev wsJ60 : List Cond := u_ws RJ6 TJ6 0
theorem nmJ6 : ∀ a, a < 0 → ∀ b, b < 0 → a ≠ b → (TJ6 a).2.1 ≠ (TJ6 b).2.1 := by decide +kernel
theorem tyJ6_ok : ∀ k, k < 0 → parseFieldDescriptor (TJ6 k).2.2.1 = some (tyJ6 k) := by decide +kernel
abbrev cJ6_numberOfTrailingZeros_0f7a4 : ByteArray := prog_17_method_48_code
def yJ6_numberOfTrailingZeros_0f7a4 : MethodName := ⟨RJ6, "numberOfTrailingZeros", "(I)I"⟩
def RJ13 : String := "java/lang/Long"
def TJ13 : u_T := fun k => match k with
  | _ => ("", "", "", false)
def tyJ13 : Nat → FieldType := fun k => match k with
  | _ => .int
abbrev wsJ130 : List Cond := u_ws RJ13 TJ13 0
theorem nmJ13 : ∀ a, a < 0 → ∀ b, b < 0 → a ≠ b → (TJ13 a).2.1 ≠ (TJ13 b).2.1 := by decide +kernel
theorem tyJ13_ok : ∀ k, k < 0 → parseFieldDescriptor (TJ13 k).2.2.1 = some (tyJ13 k) := by decide +kernel
abbrev cJ13_numberOfTrailingZeros_95d88 : ByteArray := prog_18_method_49_code
def yJ13_numberOfTrailingZeros_95d88 : MethodName := ⟨RJ13, "numberOfTrailingZeros", "(J)I"⟩
def RJ9 : String := "java/lang/Math"
def TJ9 : u_T := fun k => match k with
  | _ => ("", "", "", false)
def tyJ9 : Nat → FieldType := fun k => match k with
  | _ => .int
abbrev wsJ90 : List Cond := u_ws RJ9 TJ9 0
theorem nmJ9 : ∀ a, a < 0 → ∀ b, b < 0 → a ≠ b → (TJ9 a).2.1 ≠ (TJ9 b).2.1 := by decide +kernel
theorem tyJ9_ok : ∀ k, k < 0 → parseFieldDescriptor (TJ9 k).2.2.1 = some (tyJ9 k) := by decide +kernel
abbrev cJ9_abs_067f4 : ByteArray := prog_19_method_61_code
def yJ9_abs_067f4 : MethodName := ⟨RJ9, "abs", "(J)J"⟩
def RJ10 : String := "java/lang/System"
def TJ10 : u_T := fun k => match k with
  | _ => ("", "", "", false)
def tyJ10 : Nat → FieldType := fun k => match k with
  | _ => .int
abbrev wsJ100 : List Cond := u_ws RJ10 TJ10 0
theorem nmJ10 : ∀ a, a < 0 → ∀ b, b < 0 → a ≠ b → (TJ10 a).2.1 ≠ (TJ10 b).2.1 := by decide +kernel
theorem tyJ10_ok : ∀ k, k < 0 → parseFieldDescriptor (TJ10 k).2.2.1 = some (tyJ10 k) := by decide +kernel
def RL : String := "CutInCopiesLaw"
abbrev cL_law : ByteArray := code
def yL_law : MethodName := ⟨RL, "law", "([I)Z"⟩
abbrev vwCl : List vw_C := [(RX0, TX0, 11), (RX2, TX2, 2), (RX3, TX3, 6), (RX4, TX4, 4), (RX5, TX5, 2), (RX6, TX6, 2), (RX7, TX7, 3), (RX8, TX8, 5), (RX9, TX9, 4), (RX10, TX10, 6), (RX11, TX11, 8), (RX12, TX12, 43)]
theorem ab_inRX0 : ∀ w ∈ u_ws RX0 TX0 11, w ∈ lw_tbl := by decide +kernel
theorem ab_inRX2 : ∀ w ∈ u_ws RX2 TX2 2, w ∈ lw_tbl := by decide +kernel
theorem ab_inRX3 : ∀ w ∈ u_ws RX3 TX3 6, w ∈ lw_tbl := by decide +kernel
theorem ab_inRX4 : ∀ w ∈ u_ws RX4 TX4 4, w ∈ lw_tbl := by decide +kernel
theorem ab_inRX5 : ∀ w ∈ u_ws RX5 TX5 2, w ∈ lw_tbl := by decide +kernel
theorem ab_inRX6 : ∀ w ∈ u_ws RX6 TX6 2, w ∈ lw_tbl := by decide +kernel
theorem ab_inRX7 : ∀ w ∈ u_ws RX7 TX7 3, w ∈ lw_tbl := by decide +kernel
theorem ab_inRX8 : ∀ w ∈ u_ws RX8 TX8 5, w ∈ lw_tbl := by decide +kernel
theorem ab_inRX9 : ∀ w ∈ u_ws RX9 TX9 4, w ∈ lw_tbl := by decide +kernel
theorem ab_inRX10 : ∀ w ∈ u_ws RX10 TX10 6, w ∈ lw_tbl := by decide +kernel
theorem ab_inRX11 : ∀ w ∈ u_ws RX11 TX11 8, w ∈ lw_tbl := by decide +kernel
theorem ab_inRX12 : ∀ w ∈ u_ws RX12 TX12 43, w ∈ lw_tbl := by decide +kernel
abbrev mX0_init : MethodName × ByteArray × Nat × Option FieldType := (yX0_init, cX0_init, 1, none)
abbrev mX0_isCell : MethodName × ByteArray × Nat × Option FieldType := (yX0_isCell, cX0_isCell, 4, (some Jvm.ClassFile.FieldType.boolean))
abbrev mX0_cutAnew : MethodName × ByteArray × Nat × Option FieldType := (yX0_cutAnew, cX0_cutAnew, 5, none)
abbrev mX0_cutBlock : MethodName × ByteArray × Nat × Option FieldType := (yX0_cutBlock, cX0_cutBlock, 13, none)
abbrev mX0_lay : MethodName × ByteArray × Nat × Option FieldType := (yX0_lay, cX0_lay, 8, none)
abbrev mX0_has : MethodName × ByteArray × Nat × Option FieldType := (yX0_has, cX0_has, 3, (some Jvm.ClassFile.FieldType.boolean))
abbrev mX0_hasPiece : MethodName × ByteArray × Nat × Option FieldType := (yX0_hasPiece, cX0_hasPiece, 2, (some Jvm.ClassFile.FieldType.boolean))
abbrev mX0_pieceAt : MethodName × ByteArray × Nat × Option FieldType := (yX0_pieceAt, cX0_pieceAt, 3, (some Jvm.ClassFile.FieldType.int))
abbrev mX0_wayOf : MethodName × ByteArray × Nat × Option FieldType := (yX0_wayOf, cX0_wayOf, 2, (some Jvm.ClassFile.FieldType.int))
abbrev mX0_sizeOf : MethodName × ByteArray × Nat × Option FieldType := (yX0_sizeOf, cX0_sizeOf, 2, (some Jvm.ClassFile.FieldType.int))
abbrev mX0_cornerX : MethodName × ByteArray × Nat × Option FieldType := (yX0_cornerX, cX0_cornerX, 3, (some Jvm.ClassFile.FieldType.int))
abbrev mX0_cornerY : MethodName × ByteArray × Nat × Option FieldType := (yX0_cornerY, cX0_cornerY, 3, (some Jvm.ClassFile.FieldType.int))
abbrev mX0_touching : MethodName × ByteArray × Nat × Option FieldType := (yX0_touching, cX0_touching, 4, (some Jvm.ClassFile.FieldType.int))
abbrev mX0_touchAround : MethodName × ByteArray × Nat × Option FieldType := (yX0_touchAround, cX0_touchAround, 3, none)
abbrev mX0_touch : MethodName × ByteArray × Nat × Option FieldType := (yX0_touch, cX0_touch, 4, none)
abbrev mX0_inWindow : MethodName × ByteArray × Nat × Option FieldType := (yX0_inWindow, cX0_inWindow, 9, (some Jvm.ClassFile.FieldType.int))
abbrev mX0_atBorder : MethodName × ByteArray × Nat × Option FieldType := (yX0_atBorder, cX0_atBorder, 1, (some Jvm.ClassFile.FieldType.int))
abbrev mX0_lyingIn : MethodName × ByteArray × Nat × Option FieldType := (yX0_lyingIn, cX0_lyingIn, 4, (some Jvm.ClassFile.FieldType.int))
abbrev mX0_likelihood : MethodName × ByteArray × Nat × Option FieldType := (yX0_likelihood, cX0_likelihood, 2, (some (Jvm.ClassFile.FieldType.object "CutInCopies$Fraction")))
abbrev mX1_intBits : MethodName × ByteArray × Nat × Option FieldType := (yX1_intBits, cX1_intBits, 4, (some Jvm.ClassFile.FieldType.int))
abbrev mX1_longBitsOfDouble : MethodName × ByteArray × Nat × Option FieldType := (yX1_longBitsOfDouble, cX1_longBitsOfDouble, 7, (some Jvm.ClassFile.FieldType.long))
abbrev mX2_init : MethodName × ByteArray × Nat × Option FieldType := (yX2_init, cX2_init, 5, none)
abbrev mX2_inLeastTerms : MethodName × ByteArray × Nat × Option FieldType := (yX2_inLeastTerms, cX2_inLeastTerms, 6, (some (Jvm.ClassFile.FieldType.object "CutInCopies$Fraction")))
abbrev mX2_greatestDivisor : MethodName × ByteArray × Nat × Option FieldType := (yX2_greatestDivisor, cX2_greatestDivisor, 11, (some Jvm.ClassFile.FieldType.long))
abbrev mX2_plus : MethodName × ByteArray × Nat × Option FieldType := (yX2_plus, cX2_plus, 2, (some (Jvm.ClassFile.FieldType.object "CutInCopies$Fraction")))
abbrev mX2_minus : MethodName × ByteArray × Nat × Option FieldType := (yX2_minus, cX2_minus, 2, (some (Jvm.ClassFile.FieldType.object "CutInCopies$Fraction")))
abbrev mX2_times : MethodName × ByteArray × Nat × Option FieldType := (yX2_times, cX2_times, 2, (some (Jvm.ClassFile.FieldType.object "CutInCopies$Fraction")))
abbrev mX2_equalTo : MethodName × ByteArray × Nat × Option FieldType := (yX2_equalTo, cX2_equalTo, 2, (some Jvm.ClassFile.FieldType.boolean))
abbrev mX2_isAbove : MethodName × ByteArray × Nat × Option FieldType := (yX2_isAbove, cX2_isAbove, 3, (some Jvm.ClassFile.FieldType.boolean))
abbrev mX2_valuation : MethodName × ByteArray × Nat × Option FieldType := (yX2_valuation, cX2_valuation, 1, (some Jvm.ClassFile.FieldType.int))
abbrev mX2_twosIn : MethodName × ByteArray × Nat × Option FieldType := (yX2_twosIn, cX2_twosIn, 3, (some Jvm.ClassFile.FieldType.int))
abbrev mX2_told : MethodName × ByteArray × Nat × Option FieldType := (yX2_told, cX2_told, 2, (some Jvm.ClassFile.FieldType.long))
abbrev mX2_asFloat : MethodName × ByteArray × Nat × Option FieldType := (yX2_asFloat, cX2_asFloat, 1, (some Jvm.ClassFile.FieldType.float))
abbrev mX2_asDouble : MethodName × ByteArray × Nat × Option FieldType := (yX2_asDouble, cX2_asDouble, 1, (some Jvm.ClassFile.FieldType.double))
abbrev mX3_init : MethodName × ByteArray × Nat × Option FieldType := (yX3_init, cX3_init, 1, none)
abbrev mX3_take : MethodName × ByteArray × Nat × Option FieldType := (yX3_take, cX3_take, 4, none)
abbrev mX3_giveBack : MethodName × ByteArray × Nat × Option FieldType := (yX3_giveBack, cX3_giveBack, 4, none)
abbrev mX4_init : MethodName × ByteArray × Nat × Option FieldType := (yX4_init, cX4_init, 1, none)
abbrev mX4_isFull : MethodName × ByteArray × Nat × Option FieldType := (yX4_isFull, cX4_isFull, 1, (some Jvm.ClassFile.FieldType.boolean))
abbrev mX4_append : MethodName × ByteArray × Nat × Option FieldType := (yX4_append, cX4_append, 2, none)
abbrev mX4_clear : MethodName × ByteArray × Nat × Option FieldType := (yX4_clear, cX4_clear, 1, none)
abbrev mX4_letterAt : MethodName × ByteArray × Nat × Option FieldType := (yX4_letterAt, cX4_letterAt, 2, (some Jvm.ClassFile.FieldType.char))
abbrev mX4_digitsBehind : MethodName × ByteArray × Nat × Option FieldType := (yX4_digitsBehind, cX4_digitsBehind, 1, (some Jvm.ClassFile.FieldType.int))
abbrev mX4_read : MethodName × ByteArray × Nat × Option FieldType := (yX4_read, cX4_read, 3, (some Jvm.ClassFile.FieldType.int))
abbrev mX4_firstWrongFrom : MethodName × ByteArray × Nat × Option FieldType := (yX4_firstWrongFrom, cX4_firstWrongFrom, 4, (some Jvm.ClassFile.FieldType.int))
abbrev mX4_digit : MethodName × ByteArray × Nat × Option FieldType := (yX4_digit, cX4_digit, 2, (some Jvm.ClassFile.FieldType.int))
abbrev mX4_twoDigits : MethodName × ByteArray × Nat × Option FieldType := (yX4_twoDigits, cX4_twoDigits, 2, (some Jvm.ClassFile.FieldType.int))
abbrev mX4_fourDigits : MethodName × ByteArray × Nat × Option FieldType := (yX4_fourDigits, cX4_fourDigits, 2, (some Jvm.ClassFile.FieldType.int))
abbrev mX5_init : MethodName × ByteArray × Nat × Option FieldType := (yX5_init, cX5_init, 1, none)
abbrev mX5_isMissing : MethodName × ByteArray × Nat × Option FieldType := (yX5_isMissing, cX5_isMissing, 1, (some Jvm.ClassFile.FieldType.boolean))
abbrev mX5_hasPlace : MethodName × ByteArray × Nat × Option FieldType := (yX5_hasPlace, cX5_hasPlace, 2, (some Jvm.ClassFile.FieldType.boolean))
abbrev mX5_makeZeros : MethodName × ByteArray × Nat × Option FieldType := (yX5_makeZeros, cX5_makeZeros, 3, none)
abbrev mX6_init : MethodName × ByteArray × Nat × Option FieldType := (yX6_init, cX6_init, 3, none)
abbrev mX6_shade : MethodName × ByteArray × Nat × Option FieldType := (yX6_shade, cX6_shade, 4, (some Jvm.ClassFile.FieldType.int))
abbrev mX7_init : MethodName × ByteArray × Nat × Option FieldType := (yX7_init, cX7_init, 1, none)
abbrev mX7_isMissing : MethodName × ByteArray × Nat × Option FieldType := (yX7_isMissing, cX7_isMissing, 1, (some Jvm.ClassFile.FieldType.boolean))
abbrev mX7_hasPlace : MethodName × ByteArray × Nat × Option FieldType := (yX7_hasPlace, cX7_hasPlace, 2, (some Jvm.ClassFile.FieldType.boolean))
abbrev mX7_takes : MethodName × ByteArray × Nat × Option FieldType := (yX7_takes, cX7_takes, 2, (some Jvm.ClassFile.FieldType.boolean))
abbrev mX7_makeFor : MethodName × ByteArray × Nat × Option FieldType := (yX7_makeFor, cX7_makeFor, 4, none)
abbrev mX7_copyFrom : MethodName × ByteArray × Nat × Option FieldType := (yX7_copyFrom, cX7_copyFrom, 3, none)
abbrev mX8_init : MethodName × ByteArray × Nat × Option FieldType := (yX8_init, cX8_init, 2, none)
abbrev mX8_copyFrom : MethodName × ByteArray × Nat × Option FieldType := (yX8_copyFrom, cX8_copyFrom, 2, none)
abbrev mX8_wayOfPart : MethodName × ByteArray × Nat × Option FieldType := (yX8_wayOfPart, cX8_wayOfPart, 3, (some Jvm.ClassFile.FieldType.int))
abbrev mX8_become : MethodName × ByteArray × Nat × Option FieldType := (yX8_become, cX8_become, 4, none)
abbrev mX8_lyingBehind : MethodName × ByteArray × Nat × Option FieldType := (yX8_lyingBehind, cX8_lyingBehind, 5, (some Jvm.ClassFile.FieldType.long))
abbrev mX8_startWith : MethodName × ByteArray × Nat × Option FieldType := (yX8_startWith, cX8_startWith, 3, none)
abbrev mX8_cutOnce : MethodName × ByteArray × Nat × Option FieldType := (yX8_cutOnce, cX8_cutOnce, 3, none)
abbrev mX8_cutsToAlike : MethodName × ByteArray × Nat × Option FieldType := (yX8_cutsToAlike, cX8_cutsToAlike, 3, (some Jvm.ClassFile.FieldType.int))
abbrev mX8_wayAt : MethodName × ByteArray × Nat × Option FieldType := (yX8_wayAt, cX8_wayAt, 7, (some Jvm.ClassFile.FieldType.int))
abbrev mX8_meeting : MethodName × ByteArray × Nat × Option FieldType := (yX8_meeting, cX8_meeting, 6, (some Jvm.ClassFile.FieldType.int))
abbrev mX8_addFirstDigit : MethodName × ByteArray × Nat × Option FieldType := (yX8_addFirstDigit, cX8_addFirstDigit, 5, none)
abbrev mX8_steadyWays : MethodName × ByteArray × Nat × Option FieldType := (yX8_steadyWays, cX8_steadyWays, 5, (some Jvm.ClassFile.FieldType.int))
abbrev mX8_waysBehind : MethodName × ByteArray × Nat × Option FieldType := (yX8_waysBehind, cX8_waysBehind, 4, (some Jvm.ClassFile.FieldType.int))
abbrev mX8_drawLots : MethodName × ByteArray × Nat × Option FieldType := (yX8_drawLots, cX8_drawLots, 11, (some Jvm.ClassFile.FieldType.int))
abbrev mX9_init : MethodName × ByteArray × Nat × Option FieldType := (yX9_init, cX9_init, 1, none)
abbrev mX9_copyFrom : MethodName × ByteArray × Nat × Option FieldType := (yX9_copyFrom, cX9_copyFrom, 3, none)
abbrev mX9_hasPoint : MethodName × ByteArray × Nat × Option FieldType := (yX9_hasPoint, cX9_hasPoint, 2, (some Jvm.ClassFile.FieldType.boolean))
abbrev mX9_hasTriangle : MethodName × ByteArray × Nat × Option FieldType := (yX9_hasTriangle, cX9_hasTriangle, 2, (some Jvm.ClassFile.FieldType.boolean))
abbrev mX9_hasSet : MethodName × ByteArray × Nat × Option FieldType := (yX9_hasSet, cX9_hasSet, 2, (some Jvm.ClassFile.FieldType.boolean))
abbrev mX9_areThree : MethodName × ByteArray × Nat × Option FieldType := (yX9_areThree, cX9_areThree, 5, (some Jvm.ClassFile.FieldType.boolean))
abbrev mX9_addPoint : MethodName × ByteArray × Nat × Option FieldType := (yX9_addPoint, cX9_addPoint, 3, none)
abbrev mX9_fractionOf : MethodName × ByteArray × Nat × Option FieldType := (yX9_fractionOf, cX9_fractionOf, 1, (some (Jvm.ClassFile.FieldType.object "CutInCopies$Fraction")))
abbrev mX9_addTriangle : MethodName × ByteArray × Nat × Option FieldType := (yX9_addTriangle, cX9_addTriangle, 5, none)
abbrev mX9_isIn : MethodName × ByteArray × Nat × Option FieldType := (yX9_isIn, cX9_isIn, 3, (some Jvm.ClassFile.FieldType.boolean))
abbrev mX9_exactSum : MethodName × ByteArray × Nat × Option FieldType := (yX9_exactSum, cX9_exactSum, 5, (some (Jvm.ClassFile.FieldType.object "CutInCopies$Fraction")))
abbrev mX9_evenOnes : MethodName × ByteArray × Nat × Option FieldType := (yX9_evenOnes, cX9_evenOnes, 4, (some Jvm.ClassFile.FieldType.int))
abbrev mX9_rainbows : MethodName × ByteArray × Nat × Option FieldType := (yX9_rainbows, cX9_rainbows, 4, (some Jvm.ClassFile.FieldType.int))
abbrev mX9_areAlike : MethodName × ByteArray × Nat × Option FieldType := (yX9_areAlike, cX9_areAlike, 4, (some Jvm.ClassFile.FieldType.boolean))
abbrev mX9_floatSum : MethodName × ByteArray × Nat × Option FieldType := (yX9_floatSum, cX9_floatSum, 4, (some Jvm.ClassFile.FieldType.float))
abbrev mX9_doubleSum : MethodName × ByteArray × Nat × Option FieldType := (yX9_doubleSum, cX9_doubleSum, 5, (some Jvm.ClassFile.FieldType.double))
abbrev mX10_init : MethodName × ByteArray × Nat × Option FieldType := (yX10_init, cX10_init, 7, none)
abbrev mX10_lyingOn : MethodName × ByteArray × Nat × Option FieldType := (yX10_lyingOn, cX10_lyingOn, 14, (some (Jvm.ClassFile.FieldType.object "CutInCopies$Triangle")))
abbrev mX10_isKind : MethodName × ByteArray × Nat × Option FieldType := (yX10_isKind, cX10_isKind, 1, (some Jvm.ClassFile.FieldType.boolean))
abbrev mX10_isUnder : MethodName × ByteArray × Nat × Option FieldType := (yX10_isUnder, cX10_isUnder, 4, (some Jvm.ClassFile.FieldType.boolean))
abbrev mX10_isRainbow : MethodName × ByteArray × Nat × Option FieldType := (yX10_isRainbow, cX10_isRainbow, 1, (some Jvm.ClassFile.FieldType.boolean))
abbrev mX11_init : MethodName × ByteArray × Nat × Option FieldType := (yX11_init, cX11_init, 2, none)
abbrev mX11_letter : MethodName × ByteArray × Nat × Option FieldType := (yX11_letter, cX11_letter, 2, (some Jvm.ClassFile.FieldType.int))
abbrev mX11_text : MethodName × ByteArray × Nat × Option FieldType := (yX11_text, cX11_text, 3, (some Jvm.ClassFile.FieldType.int))
abbrev mX11_board : MethodName × ByteArray × Nat × Option FieldType := (yX11_board, cX11_board, 4, (some Jvm.ClassFile.FieldType.int))
abbrev mX11_piece : MethodName × ByteArray × Nat × Option FieldType := (yX11_piece, cX11_piece, 3, (some Jvm.ClassFile.FieldType.int))
abbrev mX11_of : MethodName × ByteArray × Nat × Option FieldType := (yX11_of, cX11_of, 3, (some Jvm.ClassFile.FieldType.int))
abbrev mX11_within : MethodName × ByteArray × Nat × Option FieldType := (yX11_within, cX11_within, 5, (some Jvm.ClassFile.FieldType.int))
abbrev mX11_pieces : MethodName × ByteArray × Nat × Option FieldType := (yX11_pieces, cX11_pieces, 2, (some Jvm.ClassFile.FieldType.int))
abbrev mX11_odds : MethodName × ByteArray × Nat × Option FieldType := (yX11_odds, cX11_odds, 3, (some Jvm.ClassFile.FieldType.long))
abbrev mX11_rule : MethodName × ByteArray × Nat × Option FieldType := (yX11_rule, cX11_rule, 5, (some Jvm.ClassFile.FieldType.int))
abbrev mX11_behind : MethodName × ByteArray × Nat × Option FieldType := (yX11_behind, cX11_behind, 4, (some Jvm.ClassFile.FieldType.long))
abbrev mX11_address : MethodName × ByteArray × Nat × Option FieldType := (yX11_address, cX11_address, 4, (some Jvm.ClassFile.FieldType.int))
abbrev mX11_meet : MethodName × ByteArray × Nat × Option FieldType := (yX11_meet, cX11_meet, 4, (some Jvm.ClassFile.FieldType.int))
abbrev mX11_steady : MethodName × ByteArray × Nat × Option FieldType := (yX11_steady, cX11_steady, 2, (some Jvm.ClassFile.FieldType.int))
abbrev mX11_falls : MethodName × ByteArray × Nat × Option FieldType := (yX11_falls, cX11_falls, 2, (some Jvm.ClassFile.FieldType.int))
abbrev mX11_lots : MethodName × ByteArray × Nat × Option FieldType := (yX11_lots, cX11_lots, 5, (some Jvm.ClassFile.FieldType.int))
abbrev mX11_point : MethodName × ByteArray × Nat × Option FieldType := (yX11_point, cX11_point, 3, (some Jvm.ClassFile.FieldType.int))
abbrev mX11_colour : MethodName × ByteArray × Nat × Option FieldType := (yX11_colour, cX11_colour, 4, (some Jvm.ClassFile.FieldType.int))
abbrev mX11_triangle : MethodName × ByteArray × Nat × Option FieldType := (yX11_triangle, cX11_triangle, 5, (some Jvm.ClassFile.FieldType.int))
abbrev mX11_tri : MethodName × ByteArray × Nat × Option FieldType := (yX11_tri, cX11_tri, 4, (some Jvm.ClassFile.FieldType.int))
abbrev mX11_area : MethodName × ByteArray × Nat × Option FieldType := (yX11_area, cX11_area, 3, (some Jvm.ClassFile.FieldType.long))
abbrev mX11_sum : MethodName × ByteArray × Nat × Option FieldType := (yX11_sum, cX11_sum, 4, (some Jvm.ClassFile.FieldType.long))
abbrev mX11_even : MethodName × ByteArray × Nat × Option FieldType := (yX11_even, cX11_even, 3, (some Jvm.ClassFile.FieldType.int))
abbrev mX11_bits : MethodName × ByteArray × Nat × Option FieldType := (yX11_bits, cX11_bits, 2, (some Jvm.ClassFile.FieldType.int))
abbrev mX11_bitsOf : MethodName × ByteArray × Nat × Option FieldType := (yX11_bitsOf, cX11_bitsOf, 3, (some Jvm.ClassFile.FieldType.int))
abbrev mX11_longBits : MethodName × ByteArray × Nat × Option FieldType := (yX11_longBits, cX11_longBits, 2, (some Jvm.ClassFile.FieldType.long))
abbrev mX11_rack : MethodName × ByteArray × Nat × Option FieldType := (yX11_rack, cX11_rack, 4, (some Jvm.ClassFile.FieldType.int))
abbrev mX11_racks : MethodName × ByteArray × Nat × Option FieldType := (yX11_racks, cX11_racks, 7, (some Jvm.ClassFile.FieldType.int))
abbrev mX11_racked : MethodName × ByteArray × Nat × Option FieldType := (yX11_racked, cX11_racked, 6, (some Jvm.ClassFile.FieldType.int))
abbrev mX11_like : MethodName × ByteArray × Nat × Option FieldType := (yX11_like, cX11_like, 3, (some Jvm.ClassFile.FieldType.int))
abbrev mX11_list : MethodName × ByteArray × Nat × Option FieldType := (yX11_list, cX11_list, 3, (some Jvm.ClassFile.FieldType.int))
abbrev mX11_put : MethodName × ByteArray × Nat × Option FieldType := (yX11_put, cX11_put, 5, (some Jvm.ClassFile.FieldType.int))
abbrev mX11_look : MethodName × ByteArray × Nat × Option FieldType := (yX11_look, cX11_look, 4, (some Jvm.ClassFile.FieldType.long))
abbrev mX11_judge : MethodName × ByteArray × Nat × Option FieldType := (yX11_judge, cX11_judge, 4, (some Jvm.ClassFile.FieldType.int))
abbrev mX11_image : MethodName × ByteArray × Nat × Option FieldType := (yX11_image, cX11_image, 1, (some Jvm.ClassFile.FieldType.int))
abbrev mX11_on : MethodName × ByteArray × Nat × Option FieldType := (yX11_on, cX11_on, 1, (some Jvm.ClassFile.FieldType.int))
abbrev mX11_count : MethodName × ByteArray × Nat × Option FieldType := (yX11_count, cX11_count, 2, (some Jvm.ClassFile.FieldType.int))
abbrev mX11_refuse : MethodName × ByteArray × Nat × Option FieldType := (yX11_refuse, cX11_refuse, 2, (some Jvm.ClassFile.FieldType.int))
abbrev mX11_refuseFar : MethodName × ByteArray × Nat × Option FieldType := (yX11_refuseFar, cX11_refuseFar, 2, (some Jvm.ClassFile.FieldType.long))
abbrev mX11_isWay : MethodName × ByteArray × Nat × Option FieldType := (yX11_isWay, cX11_isWay, 1, (some Jvm.ClassFile.FieldType.boolean))
abbrev mX11_isPartOfFraction : MethodName × ByteArray × Nat × Option FieldType := (yX11_isPartOfFraction, cX11_isPartOfFraction, 1, (some Jvm.ClassFile.FieldType.boolean))
abbrev mX11_isRow : MethodName × ByteArray × Nat × Option FieldType := (yX11_isRow, cX11_isRow, 1, (some Jvm.ClassFile.FieldType.boolean))
abbrev mX11_faultOfLetters : MethodName × ByteArray × Nat × Option FieldType := (yX11_faultOfLetters, cX11_faultOfLetters, 6, (some Jvm.ClassFile.FieldType.int))
abbrev mX11_canBe : MethodName × ByteArray × Nat × Option FieldType := (yX11_canBe, cX11_canBe, 4, (some Jvm.ClassFile.FieldType.boolean))
abbrev mX11_areWays : MethodName × ByteArray × Nat × Option FieldType := (yX11_areWays, cX11_areWays, 4, (some Jvm.ClassFile.FieldType.boolean))
abbrev mX11_runStatement : MethodName × ByteArray × Nat × Option FieldType := (yX11_runStatement, cX11_runStatement, 3, none)
abbrev mX12_refused : MethodName × ByteArray × Nat × Option FieldType := (yX12_refused, cX12_refused, 2, (some Jvm.ClassFile.FieldType.int))
abbrev mX12_refusedFar : MethodName × ByteArray × Nat × Option FieldType := (yX12_refusedFar, cX12_refusedFar, 2, (some Jvm.ClassFile.FieldType.long))
abbrev mX12_isIn : MethodName × ByteArray × Nat × Option FieldType := (yX12_isIn, cX12_isIn, 6, (some Jvm.ClassFile.FieldType.boolean))
abbrev mX12_has : MethodName × ByteArray × Nat × Option FieldType := (yX12_has, cX12_has, 2, (some Jvm.ClassFile.FieldType.boolean))
abbrev mX12_divisor : MethodName × ByteArray × Nat × Option FieldType := (yX12_divisor, cX12_divisor, 10, (some Jvm.ClassFile.FieldType.long))
abbrev mX12_part : MethodName × ByteArray × Nat × Option FieldType := (yX12_part, cX12_part, 7, (some Jvm.ClassFile.FieldType.long))
abbrev mX12_init : MethodName × ByteArray × Nat × Option FieldType := (yX12_init, cX12_init, 1, none)
abbrev mX12_side : MethodName × ByteArray × Nat × Option FieldType := (yX12_side, cX12_side, 1, (some Jvm.ClassFile.FieldType.int))
abbrev mX12_isCell : MethodName × ByteArray × Nat × Option FieldType := (yX12_isCell, cX12_isCell, 3, (some Jvm.ClassFile.FieldType.boolean))
abbrev mX12_lays : MethodName × ByteArray × Nat × Option FieldType := (yX12_lays, cX12_lays, 4, none)
abbrev mX12_cuts : MethodName × ByteArray × Nat × Option FieldType := (yX12_cuts, cX12_cuts, 11, none)
abbrev mX12_cell : MethodName × ByteArray × Nat × Option FieldType := (yX12_cell, cX12_cell, 3, (some Jvm.ClassFile.FieldType.int))
abbrev mX12_board : MethodName × ByteArray × Nat × Option FieldType := (yX12_board, cX12_board, 4, (some Jvm.ClassFile.FieldType.int))
abbrev mX12_piece : MethodName × ByteArray × Nat × Option FieldType := (yX12_piece, cX12_piece, 3, (some Jvm.ClassFile.FieldType.int))
abbrev mX12_areBeside : MethodName × ByteArray × Nat × Option FieldType := (yX12_areBeside, cX12_areBeside, 7, (some Jvm.ClassFile.FieldType.boolean))
abbrev mX12_isTouching : MethodName × ByteArray × Nat × Option FieldType := (yX12_isTouching, cX12_isTouching, 6, (some Jvm.ClassFile.FieldType.boolean))
abbrev mX12_touching : MethodName × ByteArray × Nat × Option FieldType := (yX12_touching, cX12_touching, 4, (some Jvm.ClassFile.FieldType.int))
abbrev mX12_of : MethodName × ByteArray × Nat × Option FieldType := (yX12_of, cX12_of, 3, (some Jvm.ClassFile.FieldType.int))
abbrev mX12_isWithin : MethodName × ByteArray × Nat × Option FieldType := (yX12_isWithin, cX12_isWithin, 9, (some Jvm.ClassFile.FieldType.boolean))
abbrev mX12_within : MethodName × ByteArray × Nat × Option FieldType := (yX12_within, cX12_within, 7, (some Jvm.ClassFile.FieldType.int))
abbrev mX12_edge : MethodName × ByteArray × Nat × Option FieldType := (yX12_edge, cX12_edge, 6, (some Jvm.ClassFile.FieldType.int))
abbrev mX12_inWay : MethodName × ByteArray × Nat × Option FieldType := (yX12_inWay, cX12_inWay, 4, (some Jvm.ClassFile.FieldType.int))
abbrev mX12_pieces : MethodName × ByteArray × Nat × Option FieldType := (yX12_pieces, cX12_pieces, 2, (some Jvm.ClassFile.FieldType.int))
abbrev mX12_isWay : MethodName × ByteArray × Nat × Option FieldType := (yX12_isWay, cX12_isWay, 1, (some Jvm.ClassFile.FieldType.boolean))
abbrev mX12_odds : MethodName × ByteArray × Nat × Option FieldType := (yX12_odds, cX12_odds, 4, (some Jvm.ClassFile.FieldType.long))
abbrev mX12_rulesAtFirst : MethodName × ByteArray × Nat × Option FieldType := (yX12_rulesAtFirst, cX12_rulesAtFirst, 2, none)
abbrev mX12_rule : MethodName × ByteArray × Nat × Option FieldType := (yX12_rule, cX12_rule, 5, (some Jvm.ClassFile.FieldType.int))
abbrev mX12_begins : MethodName × ByteArray × Nat × Option FieldType := (yX12_begins, cX12_begins, 3, none)
abbrev mX12_fallsAll : MethodName × ByteArray × Nat × Option FieldType := (yX12_fallsAll, cX12_fallsAll, 2, none)
abbrev mX12_behind : MethodName × ByteArray × Nat × Option FieldType := (yX12_behind, cX12_behind, 5, (some Jvm.ClassFile.FieldType.long))
abbrev mX12_address : MethodName × ByteArray × Nat × Option FieldType := (yX12_address, cX12_address, 7, (some Jvm.ClassFile.FieldType.int))
abbrev mX12_leads : MethodName × ByteArray × Nat × Option FieldType := (yX12_leads, cX12_leads, 6, none)
abbrev mX12_leastAlike : MethodName × ByteArray × Nat × Option FieldType := (yX12_leastAlike, cX12_leastAlike, 4, (some Jvm.ClassFile.FieldType.int))
abbrev mX12_meet : MethodName × ByteArray × Nat × Option FieldType := (yX12_meet, cX12_meet, 7, (some Jvm.ClassFile.FieldType.int))
abbrev mX12_steady : MethodName × ByteArray × Nat × Option FieldType := (yX12_steady, cX12_steady, 7, (some Jvm.ClassFile.FieldType.int))
abbrev mX12_falls : MethodName × ByteArray × Nat × Option FieldType := (yX12_falls, cX12_falls, 3, (some Jvm.ClassFile.FieldType.int))
abbrev mX12_lots : MethodName × ByteArray × Nat × Option FieldType := (yX12_lots, cX12_lots, 11, (some Jvm.ClassFile.FieldType.int))
abbrev mX12_comesPoint : MethodName × ByteArray × Nat × Option FieldType := (yX12_comesPoint, cX12_comesPoint, 5, none)
abbrev mX12_point : MethodName × ByteArray × Nat × Option FieldType := (yX12_point, cX12_point, 3, (some Jvm.ClassFile.FieldType.int))
abbrev mX12_twos : MethodName × ByteArray × Nat × Option FieldType := (yX12_twos, cX12_twos, 2, (some Jvm.ClassFile.FieldType.int))
abbrev mX12_valuation : MethodName × ByteArray × Nat × Option FieldType := (yX12_valuation, cX12_valuation, 4, (some Jvm.ClassFile.FieldType.int))
abbrev mX12_valuationOf : MethodName × ByteArray × Nat × Option FieldType := (yX12_valuationOf, cX12_valuationOf, 3, (some Jvm.ClassFile.FieldType.int))
abbrev mX12_colourBy : MethodName × ByteArray × Nat × Option FieldType := (yX12_colourBy, cX12_colourBy, 2, (some Jvm.ClassFile.FieldType.int))
abbrev mX12_isPoint : MethodName × ByteArray × Nat × Option FieldType := (yX12_isPoint, cX12_isPoint, 2, (some Jvm.ClassFile.FieldType.boolean))
abbrev mX12_colour : MethodName × ByteArray × Nat × Option FieldType := (yX12_colour, cX12_colour, 3, (some Jvm.ClassFile.FieldType.int))
abbrev mX12_comesTriangle : MethodName × ByteArray × Nat × Option FieldType := (yX12_comesTriangle, cX12_comesTriangle, 5, none)
abbrev mX12_areThree : MethodName × ByteArray × Nat × Option FieldType := (yX12_areThree, cX12_areThree, 4, (some Jvm.ClassFile.FieldType.boolean))
abbrev mX12_triangle : MethodName × ByteArray × Nat × Option FieldType := (yX12_triangle, cX12_triangle, 5, (some Jvm.ClassFile.FieldType.int))
abbrev mX12_isUnder : MethodName × ByteArray × Nat × Option FieldType := (yX12_isUnder, cX12_isUnder, 2, (some Jvm.ClassFile.FieldType.boolean))
abbrev mX12_tells : MethodName × ByteArray × Nat × Option FieldType := (yX12_tells, cX12_tells, 7, none)
abbrev mX12_over : MethodName × ByteArray × Nat × Option FieldType := (yX12_over, cX12_over, 3, (some Jvm.ClassFile.FieldType.long))
abbrev mX12_under : MethodName × ByteArray × Nat × Option FieldType := (yX12_under, cX12_under, 3, (some Jvm.ClassFile.FieldType.long))
abbrev mX12_more : MethodName × ByteArray × Nat × Option FieldType := (yX12_more, cX12_more, 4, (some Jvm.ClassFile.FieldType.long))
abbrev mX12_belowOf : MethodName × ByteArray × Nat × Option FieldType := (yX12_belowOf, cX12_belowOf, 4, (some Jvm.ClassFile.FieldType.long))
abbrev mX12_areaOf : MethodName × ByteArray × Nat × Option FieldType := (yX12_areaOf, cX12_areaOf, 9, none)
abbrev mX12_coloursOf : MethodName × ByteArray × Nat × Option FieldType := (yX12_coloursOf, cX12_coloursOf, 8, (some Jvm.ClassFile.FieldType.int))
abbrev mX12_areaValuation : MethodName × ByteArray × Nat × Option FieldType := (yX12_areaValuation, cX12_areaValuation, 2, (some Jvm.ClassFile.FieldType.int))
abbrev mX12_isTriangle : MethodName × ByteArray × Nat × Option FieldType := (yX12_isTriangle, cX12_isTriangle, 2, (some Jvm.ClassFile.FieldType.boolean))
abbrev mX12_tri : MethodName × ByteArray × Nat × Option FieldType := (yX12_tri, cX12_tri, 3, (some Jvm.ClassFile.FieldType.int))
abbrev mX12_area : MethodName × ByteArray × Nat × Option FieldType := (yX12_area, cX12_area, 3, (some Jvm.ClassFile.FieldType.long))
abbrev mX12_isSet : MethodName × ByteArray × Nat × Option FieldType := (yX12_isSet, cX12_isSet, 2, (some Jvm.ClassFile.FieldType.boolean))
abbrev mX12_isGreat : MethodName × ByteArray × Nat × Option FieldType := (yX12_isGreat, cX12_isGreat, 1, (some Jvm.ClassFile.FieldType.boolean))
abbrev mX12_sum : MethodName × ByteArray × Nat × Option FieldType := (yX12_sum, cX12_sum, 8, (some Jvm.ClassFile.FieldType.long))
abbrev mX12_evens : MethodName × ByteArray × Nat × Option FieldType := (yX12_evens, cX12_evens, 4, (some Jvm.ClassFile.FieldType.int))
abbrev mX12_rainbows : MethodName × ByteArray × Nat × Option FieldType := (yX12_rainbows, cX12_rainbows, 4, (some Jvm.ClassFile.FieldType.int))
abbrev mX12_isAlike : MethodName × ByteArray × Nat × Option FieldType := (yX12_isAlike, cX12_isAlike, 9, (some Jvm.ClassFile.FieldType.boolean))
abbrev mX12_even : MethodName × ByteArray × Nat × Option FieldType := (yX12_even, cX12_even, 3, (some Jvm.ClassFile.FieldType.int))
abbrev mX12_floatOf : MethodName × ByteArray × Nat × Option FieldType := (yX12_floatOf, cX12_floatOf, 2, (some Jvm.ClassFile.FieldType.float))
abbrev mX12_bits : MethodName × ByteArray × Nat × Option FieldType := (yX12_bits, cX12_bits, 2, (some Jvm.ClassFile.FieldType.int))
abbrev mX12_bitsOf : MethodName × ByteArray × Nat × Option FieldType := (yX12_bitsOf, cX12_bitsOf, 5, (some Jvm.ClassFile.FieldType.int))
abbrev mX12_longBits : MethodName × ByteArray × Nat × Option FieldType := (yX12_longBits, cX12_longBits, 5, (some Jvm.ClassFile.FieldType.long))
abbrev mX12_isRack : MethodName × ByteArray × Nat × Option FieldType := (yX12_isRack, cX12_isRack, 1, (some Jvm.ClassFile.FieldType.boolean))
abbrev mX12_rack : MethodName × ByteArray × Nat × Option FieldType := (yX12_rack, cX12_rack, 5, (some Jvm.ClassFile.FieldType.int))
abbrev mX12_racks : MethodName × ByteArray × Nat × Option FieldType := (yX12_racks, cX12_racks, 4, (some Jvm.ClassFile.FieldType.int))
abbrev mX12_racked : MethodName × ByteArray × Nat × Option FieldType := (yX12_racked, cX12_racked, 5, (some Jvm.ClassFile.FieldType.int))
abbrev mX12_like : MethodName × ByteArray × Nat × Option FieldType := (yX12_like, cX12_like, 4, (some Jvm.ClassFile.FieldType.int))
abbrev mX12_isList : MethodName × ByteArray × Nat × Option FieldType := (yX12_isList, cX12_isList, 1, (some Jvm.ClassFile.FieldType.boolean))
abbrev mX12_list : MethodName × ByteArray × Nat × Option FieldType := (yX12_list, cX12_list, 4, (some Jvm.ClassFile.FieldType.int))
abbrev mX12_put : MethodName × ByteArray × Nat × Option FieldType := (yX12_put, cX12_put, 4, (some Jvm.ClassFile.FieldType.int))
abbrev mX12_look : MethodName × ByteArray × Nat × Option FieldType := (yX12_look, cX12_look, 3, (some Jvm.ClassFile.FieldType.long))
abbrev mX12_judge : MethodName × ByteArray × Nat × Option FieldType := (yX12_judge, cX12_judge, 3, (some Jvm.ClassFile.FieldType.int))
abbrev mX12_letter : MethodName × ByteArray × Nat × Option FieldType := (yX12_letter, cX12_letter, 2, (some Jvm.ClassFile.FieldType.int))
abbrev mX12_numbersOf : MethodName × ByteArray × Nat × Option FieldType := (yX12_numbersOf, cX12_numbersOf, 1, (some Jvm.ClassFile.FieldType.int))
abbrev mX12_digitsOf : MethodName × ByteArray × Nat × Option FieldType := (yX12_digitsOf, cX12_digitsOf, 2, (some Jvm.ClassFile.FieldType.int))
abbrev mX12_statement : MethodName × ByteArray × Nat × Option FieldType := (yX12_statement, cX12_statement, 4, (some Jvm.ClassFile.FieldType.int))
abbrev mX12_isDone : MethodName × ByteArray × Nat × Option FieldType := (yX12_isDone, cX12_isDone, 2, (some Jvm.ClassFile.FieldType.boolean))
abbrev mX12_isRuled : MethodName × ByteArray × Nat × Option FieldType := (yX12_isRuled, cX12_isRuled, 3, (some Jvm.ClassFile.FieldType.boolean))
abbrev mX12_text : MethodName × ByteArray × Nat × Option FieldType := (yX12_text, cX12_text, 4, (some Jvm.ClassFile.FieldType.int))
abbrev mX12_done : MethodName × ByteArray × Nat × Option FieldType := (yX12_done, cX12_done, 10, (some Jvm.ClassFile.FieldType.int))
abbrev mX12_image : MethodName × ByteArray × Nat × Option FieldType := (yX12_image, cX12_image, 2, (some Jvm.ClassFile.FieldType.int))
abbrev mX12_on : MethodName × ByteArray × Nat × Option FieldType := (yX12_on, cX12_on, 2, (some Jvm.ClassFile.FieldType.int))
abbrev mX12_count : MethodName × ByteArray × Nat × Option FieldType := (yX12_count, cX12_count, 2, (some Jvm.ClassFile.FieldType.int))
abbrev mJxe99ae_isNaN_b9ae7 : MethodName × ByteArray × Nat × Option FieldType := (yJxe99ae_isNaN_b9ae7, cJxe99ae_isNaN_b9ae7, 2, (some Jvm.ClassFile.FieldType.boolean))
abbrev mJxe99ae_doubleToLongBits_ccdee : MethodName × ByteArray × Nat × Option FieldType := (yJxe99ae_doubleToLongBits_ccdee, cJxe99ae_doubleToLongBits_ccdee, 2, (some Jvm.ClassFile.FieldType.long))
abbrev mJxf58ca_isNaN_12338 : MethodName × ByteArray × Nat × Option FieldType := (yJxf58ca_isNaN_12338, cJxf58ca_isNaN_12338, 1, (some Jvm.ClassFile.FieldType.boolean))
abbrev mJxf58ca_floatToIntBits_5c35a : MethodName × ByteArray × Nat × Option FieldType := (yJxf58ca_floatToIntBits_5c35a, cJxf58ca_floatToIntBits_5c35a, 1, (some Jvm.ClassFile.FieldType.int))
abbrev mJ6_numberOfTrailingZeros_0f7a4 : MethodName × ByteArray × Nat × Option FieldType := (yJ6_numberOfTrailingZeros_0f7a4, cJ6_numberOfTrailingZeros_0f7a4, 2, (some Jvm.ClassFile.FieldType.int))
abbrev mJ13_numberOfTrailingZeros_95d88 : MethodName × ByteArray × Nat × Option FieldType := (yJ13_numberOfTrailingZeros_95d88, cJ13_numberOfTrailingZeros_95d88, 3, (some Jvm.ClassFile.FieldType.int))
abbrev mJ9_abs_067f4 : MethodName × ByteArray × Nat × Option FieldType := (yJ9_abs_067f4, cJ9_abs_067f4, 2, (some Jvm.ClassFile.FieldType.long))
abbrev mL_law : MethodName × ByteArray × Nat × Option FieldType := (yL_law, code, 4, some .boolean)
end
section
abbrev ab_MK : Type := MethodName × ByteArray × Nat × Option FieldType
abbrev ab_tys : Nat → Nat → FieldType := fun ci => match ci with
  | 0 => tyX0
  | 1 => tyX2
  | 2 => tyX3
  | 3 => tyX4
  | 4 => tyX5
  | 5 => tyX6
  | 6 => tyX7
  | 7 => tyX8
  | 8 => tyX9
  | 9 => tyX10
  | 10 => tyX11
  | _ => tyX12
def ab_C (ci : Nat) : String := match ci with
  | 0 => RX0
  | 1 => RX2
  | 2 => RX3
  | 3 => RX4
  | 4 => RX5
  | 5 => RX6
  | 6 => RX7
  | 7 => RX8
  | 8 => RX9
  | 9 => RX10
  | 10 => RX11
  | _ => RX12
def ab_T (ci : Nat) : u_T := match ci with
  | 0 => TX0
  | 1 => TX2
  | 2 => TX3
  | 3 => TX4
  | 4 => TX5
  | 5 => TX6
  | 6 => TX7
  | 7 => TX8
  | 8 => TX9
  | 9 => TX10
  | 10 => TX11
  | _ => TX12
def ab_N (ci : Nat) : Nat := match ci with
  | 0 => 11
  | 1 => 2
  | 2 => 6
  | 3 => 4
  | 4 => 2
  | 5 => 2
  | 6 => 3
  | 7 => 5
  | 8 => 4
  | 9 => 6
  | 10 => 8
  | _ => 43
/-- what the tables say of a method -/
def ab_mk (M : ab_MK) (n : Nat) : Prop := Cond.code M.1 M.2.1 M.2.2.1 M.2.2.2 ∈ lw_tbl ∧ Cond.initialized M.1.cls ∈ lw_tbl ∧ (M.1.cls ≠ "java/lang/invoke/MethodHandle" ∧ M.1.cls ≠ "java/lang/invoke/VarHandle" ∧ (parseMethodDescriptor M.1.desc).map (fun d => d.parameters.length) = some n) ∧ M.2.2.1 ≤ 60
def ab_kv (own : String) (i : Nat) (M : ab_MK) : Prop := Cond.methodLink own i M.1 ∈ lw_tbl ∧ Cond.instanceMethod M.1 ∈ lw_tbl ∧ Cond.selects M.1.cls M.1 M.1 ∈ lw_tbl
def ab_ks (own : String) (i : Nat) (M : ab_MK) : Prop := Cond.methodLink own i M.1 ∈ lw_tbl ∧ Cond.static M.1 ∈ lw_tbl
def ab_ki (own : String) (i : Nat) (M : ab_MK) : Prop := Cond.methodLink own i M.1 ∈ lw_tbl ∧ Cond.instanceMethod M.1 ∈ lw_tbl ∧ M.1.name = "<init>"
def ab_fl (own : String) (i ci k : Nat) : Prop := Cond.fieldLink own i (ab_C ci) (ab_T ci k).2.1 (ab_T ci k).2.2.1 ∈ lw_tbl
theorem it_L : Cond.initialized RL ∈ lw_tbl := List.mem_of_getElem? (i := 57) (by decide +kernel)
theorem it_X11 : Cond.initialized RX11 ∈ lw_tbl := List.mem_of_getElem? (i := 58) (by decide +kernel)
theorem it_X0 : Cond.initialized RX0 ∈ lw_tbl := List.mem_of_getElem? (i := 59) (by decide +kernel)
theorem it_X8 : Cond.initialized RX8 ∈ lw_tbl := List.mem_of_getElem? (i := 60) (by decide +kernel)
theorem it_X9 : Cond.initialized RX9 ∈ lw_tbl := List.mem_of_getElem? (i := 61) (by decide +kernel)
theorem it_X4 : Cond.initialized RX4 ∈ lw_tbl := List.mem_of_getElem? (i := 62) (by decide +kernel)
theorem it_X3 : Cond.initialized RX3 ∈ lw_tbl := List.mem_of_getElem? (i := 63) (by decide +kernel)
theorem it_X7 : Cond.initialized RX7 ∈ lw_tbl := List.mem_of_getElem? (i := 64) (by decide +kernel)
theorem it_X5 : Cond.initialized RX5 ∈ lw_tbl := List.mem_of_getElem? (i := 65) (by decide +kernel)
theorem it_X12 : Cond.initialized RX12 ∈ lw_tbl := List.mem_of_getElem? (i := 66) (by decide +kernel)
theorem it_X10 : Cond.initialized RX10 ∈ lw_tbl := List.mem_of_getElem? (i := 67) (by decide +kernel)
theorem it_X6 : Cond.initialized RX6 ∈ lw_tbl := List.mem_of_getElem? (i := 68) (by decide +kernel)
theorem it_X2 : Cond.initialized RX2 ∈ lw_tbl := List.mem_of_getElem? (i := 69) (by decide +kernel)
theorem it_J9 : Cond.initialized RJ9 ∈ lw_tbl := List.mem_of_getElem? (i := 70) (by decide +kernel)
theorem it_J10 : Cond.initialized RJ10 ∈ lw_tbl := List.mem_of_getElem? (i := 71) (by decide +kernel)
theorem it_J13 : Cond.initialized RJ13 ∈ lw_tbl := List.mem_of_getElem? (i := 72) (by decide +kernel)
theorem it_J6 : Cond.initialized RJ6 ∈ lw_tbl := List.mem_of_getElem? (i := 73) (by decide +kernel)
theorem it_X1 : Cond.initialized RX1 ∈ lw_tbl := List.mem_of_getElem? (i := 74) (by decide +kernel)
theorem it_Jxf58ca : Cond.initialized RJxf58ca ∈ lw_tbl := List.mem_of_getElem? (i := 75) (by decide +kernel)
theorem it_Jxe99ae : Cond.initialized RJxe99ae ∈ lw_tbl := List.mem_of_getElem? (i := 76) (by decide +kernel)
theorem cl_L_7 : Cond.classLink RL 7 RX11 ∈ lw_tbl := List.mem_of_getElem? (i := 77) (by decide +kernel)
theorem is_X11 : Cond.instantiable RX11 8 ∈ lw_tbl := List.mem_of_getElem? (i := 78) (by decide +kernel)
theorem cl_X11_7 : Cond.classLink RX11 7 RX0 ∈ lw_tbl := List.mem_of_getElem? (i := 85) (by decide +kernel)
theorem is_X0 : Cond.instantiable RX0 11 ∈ lw_tbl := List.mem_of_getElem? (i := 86) (by decide +kernel)
theorem fl_X3_23 : ab_fl RX3 23 0 0 := List.mem_of_getElem? (i := 91) (by decide +kernel)
theorem fl_X0_31 : ab_fl RX0 31 0 0 := List.mem_of_getElem? (i := 92) (by decide +kernel)
theorem fl_X11_348 : ab_fl RX11 348 0 0 := List.mem_of_getElem? (i := 93) (by decide +kernel)
theorem fl_X3_30 : ab_fl RX3 30 0 1 := List.mem_of_getElem? (i := 94) (by decide +kernel)
theorem fl_X0_38 : ab_fl RX0 38 0 1 := List.mem_of_getElem? (i := 95) (by decide +kernel)
theorem fl_X11_351 : ab_fl RX11 351 0 1 := List.mem_of_getElem? (i := 96) (by decide +kernel)
theorem fl_X3_34 : ab_fl RX3 34 0 2 := List.mem_of_getElem? (i := 97) (by decide +kernel)
theorem fl_X0_41 : ab_fl RX0 41 0 2 := List.mem_of_getElem? (i := 98) (by decide +kernel)
theorem fl_X11_354 : ab_fl RX11 354 0 2 := List.mem_of_getElem? (i := 99) (by decide +kernel)
theorem fl_X0_44 : ab_fl RX0 44 0 3 := List.mem_of_getElem? (i := 100) (by decide +kernel)
theorem fl_X11_102 : ab_fl RX11 102 0 3 := List.mem_of_getElem? (i := 101) (by decide +kernel)
theorem fl_X0_35 : ab_fl RX0 35 0 4 := List.mem_of_getElem? (i := 102) (by decide +kernel)
theorem fl_X0_11 : ab_fl RX0 11 0 5 := List.mem_of_getElem? (i := 103) (by decide +kernel)
theorem fl_X0_15 : ab_fl RX0 15 0 6 := List.mem_of_getElem? (i := 104) (by decide +kernel)
theorem fl_X0_18 : ab_fl RX0 18 0 7 := List.mem_of_getElem? (i := 105) (by decide +kernel)
theorem fl_X0_21 : ab_fl RX0 21 0 8 := List.mem_of_getElem? (i := 106) (by decide +kernel)
theorem fl_X0_24 : ab_fl RX0 24 0 9 := List.mem_of_getElem? (i := 107) (by decide +kernel)
theorem fl_X0_27 : ab_fl RX0 27 0 10 := List.mem_of_getElem? (i := 108) (by decide +kernel)
theorem ac_int : Cond.arrayClass FieldType.int ∈ lw_tbl := List.mem_of_getElem? (i := 132) (by decide +kernel)
theorem ac_boolean : Cond.arrayClass FieldType.boolean ∈ lw_tbl := List.mem_of_getElem? (i := 133) (by decide +kernel)
theorem cl_X11_16 : Cond.classLink RX11 16 RX8 ∈ lw_tbl := List.mem_of_getElem? (i := 134) (by decide +kernel)
theorem is_X8 : Cond.instantiable RX8 5 ∈ lw_tbl := List.mem_of_getElem? (i := 135) (by decide +kernel)
theorem fl_X8_11 : ab_fl RX8 11 7 0 := List.mem_of_getElem? (i := 140) (by decide +kernel)
theorem fl_X8_15 : ab_fl RX8 15 7 1 := List.mem_of_getElem? (i := 141) (by decide +kernel)
theorem fl_X8_19 : ab_fl RX8 19 7 2 := List.mem_of_getElem? (i := 142) (by decide +kernel)
theorem fl_X8_22 : ab_fl RX8 22 7 3 := List.mem_of_getElem? (i := 143) (by decide +kernel)
theorem fl_X8_25 : ab_fl RX8 25 7 4 := List.mem_of_getElem? (i := 144) (by decide +kernel)
theorem ac_long : Cond.arrayClass FieldType.long ∈ lw_tbl := List.mem_of_getElem? (i := 156) (by decide +kernel)
theorem cl_X11_23 : Cond.classLink RX11 23 RX9 ∈ lw_tbl := List.mem_of_getElem? (i := 157) (by decide +kernel)
theorem is_X9 : Cond.instantiable RX9 4 ∈ lw_tbl := List.mem_of_getElem? (i := 158) (by decide +kernel)
theorem cl_X9_9 : Cond.classLink RX9 9 RX6 ∈ lw_tbl := List.mem_of_getElem? (i := 163) (by decide +kernel)
theorem ao_Point : Cond.arrayOver (FieldType.object "CutInCopies$Point") ∈ lw_tbl := List.mem_of_getElem? (i := 164) (by decide +kernel)
theorem cl_X9_15 : Cond.classLink RX9 15 RX10 ∈ lw_tbl := List.mem_of_getElem? (i := 165) (by decide +kernel)
theorem ao_Triangle : Cond.arrayOver (FieldType.object "CutInCopies$Triangle") ∈ lw_tbl := List.mem_of_getElem? (i := 166) (by decide +kernel)
theorem fl_X9_11 : ab_fl RX9 11 8 0 := List.mem_of_getElem? (i := 167) (by decide +kernel)
theorem fl_X11_199 : ab_fl RX11 199 8 0 := List.mem_of_getElem? (i := 168) (by decide +kernel)
theorem fl_X9_17 : ab_fl RX9 17 8 1 := List.mem_of_getElem? (i := 169) (by decide +kernel)
theorem fl_X11_238 : ab_fl RX11 238 8 1 := List.mem_of_getElem? (i := 170) (by decide +kernel)
theorem fl_X9_21 : ab_fl RX9 21 8 2 := List.mem_of_getElem? (i := 171) (by decide +kernel)
theorem fl_X11_189 : ab_fl RX11 189 8 2 := List.mem_of_getElem? (i := 172) (by decide +kernel)
theorem fl_X9_25 : ab_fl RX9 25 8 3 := List.mem_of_getElem? (i := 173) (by decide +kernel)
theorem fl_X11_228 : ab_fl RX11 228 8 3 := List.mem_of_getElem? (i := 174) (by decide +kernel)
theorem cl_X11_30 : Cond.classLink RX11 30 RX4 ∈ lw_tbl := List.mem_of_getElem? (i := 184) (by decide +kernel)
theorem is_X4 : Cond.instantiable RX4 4 ∈ lw_tbl := List.mem_of_getElem? (i := 185) (by decide +kernel)
theorem fl_X4_19 : ab_fl RX4 19 3 0 := List.mem_of_getElem? (i := 190) (by decide +kernel)
theorem fl_X11_78 : ab_fl RX11 78 3 0 := List.mem_of_getElem? (i := 191) (by decide +kernel)
theorem fl_X11_86 : ab_fl RX11 86 3 1 := List.mem_of_getElem? (i := 192) (by decide +kernel)
theorem fl_X4_23 : ab_fl RX4 23 3 1 := List.mem_of_getElem? (i := 193) (by decide +kernel)
theorem fl_X4_11 : ab_fl RX4 11 3 2 := List.mem_of_getElem? (i := 194) (by decide +kernel)
theorem fl_X11_89 : ab_fl RX11 89 3 2 := List.mem_of_getElem? (i := 195) (by decide +kernel)
theorem fl_X4_15 : ab_fl RX4 15 3 3 := List.mem_of_getElem? (i := 196) (by decide +kernel)
theorem ac_char : Cond.arrayClass FieldType.char ∈ lw_tbl := List.mem_of_getElem? (i := 206) (by decide +kernel)
theorem cl_X11_37 : Cond.classLink RX11 37 RX3 ∈ lw_tbl := List.mem_of_getElem? (i := 207) (by decide +kernel)
theorem is_X3 : Cond.instantiable RX3 6 ∈ lw_tbl := List.mem_of_getElem? (i := 208) (by decide +kernel)
theorem cl_X3_7 : Cond.classLink RX3 7 RX8 ∈ lw_tbl := List.mem_of_getElem? (i := 213) (by decide +kernel)
theorem cl_X3_16 : Cond.classLink RX3 16 RX9 ∈ lw_tbl := List.mem_of_getElem? (i := 215) (by decide +kernel)
theorem fl_X3_45 : ab_fl RX3 45 2 0 := List.mem_of_getElem? (i := 217) (by decide +kernel)
theorem fl_X11_341 : ab_fl RX11 341 2 0 := List.mem_of_getElem? (i := 218) (by decide +kernel)
theorem fl_X3_29 : ab_fl RX3 29 2 1 := List.mem_of_getElem? (i := 219) (by decide +kernel)
theorem fl_X3_33 : ab_fl RX3 33 2 2 := List.mem_of_getElem? (i := 220) (by decide +kernel)
theorem fl_X3_37 : ab_fl RX3 37 2 3 := List.mem_of_getElem? (i := 221) (by decide +kernel)
theorem fl_X3_10 : ab_fl RX3 10 2 4 := List.mem_of_getElem? (i := 222) (by decide +kernel)
theorem fl_X3_19 : ab_fl RX3 19 2 5 := List.mem_of_getElem? (i := 223) (by decide +kernel)
theorem cl_X11_44 : Cond.classLink RX11 44 RX7 ∈ lw_tbl := List.mem_of_getElem? (i := 237) (by decide +kernel)
theorem ao_Rack : Cond.arrayOver (FieldType.object "CutInCopies$Rack") ∈ lw_tbl := List.mem_of_getElem? (i := 238) (by decide +kernel)
theorem cl_X11_50 : Cond.classLink RX11 50 RX5 ∈ lw_tbl := List.mem_of_getElem? (i := 239) (by decide +kernel)
theorem ao_Numbers : Cond.arrayOver (FieldType.object "CutInCopies$Numbers") ∈ lw_tbl := List.mem_of_getElem? (i := 240) (by decide +kernel)
theorem is_X7 : Cond.instantiable RX7 3 ∈ lw_tbl := List.mem_of_getElem? (i := 241) (by decide +kernel)
theorem cl_X7_9 : Cond.classLink RX7 9 RX10 ∈ lw_tbl := List.mem_of_getElem? (i := 246) (by decide +kernel)
theorem fl_X7_11 : ab_fl RX7 11 6 0 := List.mem_of_getElem? (i := 247) (by decide +kernel)
theorem fl_X11_317 : ab_fl RX11 317 6 0 := List.mem_of_getElem? (i := 248) (by decide +kernel)
theorem fl_X7_15 : ab_fl RX7 15 6 1 := List.mem_of_getElem? (i := 249) (by decide +kernel)
theorem fl_X11_324 : ab_fl RX11 324 6 1 := List.mem_of_getElem? (i := 250) (by decide +kernel)
theorem fl_X7_22 : ab_fl RX7 22 6 2 := List.mem_of_getElem? (i := 251) (by decide +kernel)
theorem is_X5 : Cond.instantiable RX5 2 ∈ lw_tbl := List.mem_of_getElem? (i := 259) (by decide +kernel)
theorem fl_X5_9 : ab_fl RX5 9 4 0 := List.mem_of_getElem? (i := 264) (by decide +kernel)
theorem fl_X11_330 : ab_fl RX11 330 4 0 := List.mem_of_getElem? (i := 265) (by decide +kernel)
theorem fl_X5_13 : ab_fl RX5 13 4 1 := List.mem_of_getElem? (i := 266) (by decide +kernel)
theorem fl_X11_336 : ab_fl RX11 336 4 1 := List.mem_of_getElem? (i := 267) (by decide +kernel)
theorem fl_X11_10 : ab_fl RX11 10 10 0 := List.mem_of_getElem? (i := 291) (by decide +kernel)
theorem fl_X11_19 : ab_fl RX11 19 10 1 := List.mem_of_getElem? (i := 292) (by decide +kernel)
theorem fl_X11_26 : ab_fl RX11 26 10 2 := List.mem_of_getElem? (i := 293) (by decide +kernel)
theorem fl_X11_33 : ab_fl RX11 33 10 3 := List.mem_of_getElem? (i := 294) (by decide +kernel)
theorem fl_X11_40 : ab_fl RX11 40 10 4 := List.mem_of_getElem? (i := 295) (by decide +kernel)
theorem fl_X11_46 : ab_fl RX11 46 10 5 := List.mem_of_getElem? (i := 296) (by decide +kernel)
theorem fl_X11_52 : ab_fl RX11 52 10 6 := List.mem_of_getElem? (i := 297) (by decide +kernel)
theorem fl_X11_56 : ab_fl RX11 56 10 7 := List.mem_of_getElem? (i := 298) (by decide +kernel)
theorem is_X6 : Cond.instantiable RX6 2 ∈ lw_tbl := List.mem_of_getElem? (i := 400) (by decide +kernel)
theorem cl_X2_8 : Cond.classLink RX2 8 RX2 ∈ lw_tbl := List.mem_of_getElem? (i := 413) (by decide +kernel)
theorem is_X2 : Cond.instantiable RX2 2 ∈ lw_tbl := List.mem_of_getElem? (i := 414) (by decide +kernel)
theorem fl_X2_7 : ab_fl RX2 7 1 0 := List.mem_of_getElem? (i := 419) (by decide +kernel)
theorem fl_X10_54 : ab_fl RX10 54 1 0 := List.mem_of_getElem? (i := 420) (by decide +kernel)
theorem fl_X2_13 : ab_fl RX2 13 1 1 := List.mem_of_getElem? (i := 421) (by decide +kernel)
theorem fl_X10_68 : ab_fl RX10 68 1 1 := List.mem_of_getElem? (i := 422) (by decide +kernel)
theorem fl_X6_7 : ab_fl RX6 7 5 0 := List.mem_of_getElem? (i := 432) (by decide +kernel)
theorem fl_X10_39 : ab_fl RX10 39 5 0 := List.mem_of_getElem? (i := 433) (by decide +kernel)
theorem fl_X11_209 : ab_fl RX11 209 5 0 := List.mem_of_getElem? (i := 434) (by decide +kernel)
theorem fl_X6_13 : ab_fl RX6 13 5 1 := List.mem_of_getElem? (i := 435) (by decide +kernel)
theorem fl_X10_48 : ab_fl RX10 48 5 1 := List.mem_of_getElem? (i := 436) (by decide +kernel)
theorem fl_X11_216 : ab_fl RX11 216 5 1 := List.mem_of_getElem? (i := 437) (by decide +kernel)
theorem fl_X10_87 : Cond.fieldLink RX10 87 "CutInCopies$Triangle" "KIND_ABOVE" "[I" ∈ lw_tbl := List.mem_of_getElem? (i := 455) (by decide +kernel)
theorem fl_X10_64 : Cond.fieldLink RX10 64 "CutInCopies$Triangle" "AREA_TIMES" "[I" ∈ lw_tbl := List.mem_of_getElem? (i := 478) (by decide +kernel)
theorem kc_X10_71 : Cond.constantLong RX10 71 (2 : Int64) ∈ lw_tbl := List.mem_of_getElem? (i := 480) (by decide +kernel)
theorem fl_X10_73 : Cond.fieldLink RX10 73 "CutInCopies$Triangle" "AREA_DIVIDED" "[I" ∈ lw_tbl := List.mem_of_getElem? (i := 481) (by decide +kernel)
theorem cl_X10_8 : Cond.classLink RX10 8 RX10 ∈ lw_tbl := List.mem_of_getElem? (i := 484) (by decide +kernel)
theorem is_X10 : Cond.instantiable RX10 6 ∈ lw_tbl := List.mem_of_getElem? (i := 485) (by decide +kernel)
theorem fl_X10_7 : ab_fl RX10 7 9 0 := List.mem_of_getElem? (i := 490) (by decide +kernel)
theorem fl_X7_19 : ab_fl RX7 19 9 0 := List.mem_of_getElem? (i := 491) (by decide +kernel)
theorem fl_X11_242 : ab_fl RX11 242 9 0 := List.mem_of_getElem? (i := 492) (by decide +kernel)
theorem fl_X10_13 : ab_fl RX10 13 9 1 := List.mem_of_getElem? (i := 493) (by decide +kernel)
theorem fl_X11_245 : ab_fl RX11 245 9 1 := List.mem_of_getElem? (i := 494) (by decide +kernel)
theorem fl_X10_16 : ab_fl RX10 16 9 2 := List.mem_of_getElem? (i := 495) (by decide +kernel)
theorem fl_X11_248 : ab_fl RX11 248 9 2 := List.mem_of_getElem? (i := 496) (by decide +kernel)
theorem fl_X10_19 : ab_fl RX10 19 9 3 := List.mem_of_getElem? (i := 497) (by decide +kernel)
theorem fl_X11_251 : ab_fl RX11 251 9 3 := List.mem_of_getElem? (i := 498) (by decide +kernel)
theorem fl_X10_22 : ab_fl RX10 22 9 4 := List.mem_of_getElem? (i := 499) (by decide +kernel)
theorem fl_X11_254 : ab_fl RX11 254 9 4 := List.mem_of_getElem? (i := 500) (by decide +kernel)
theorem fl_X10_25 : ab_fl RX10 25 9 5 := List.mem_of_getElem? (i := 501) (by decide +kernel)
theorem fl_X9_53 : ab_fl RX9 53 9 5 := List.mem_of_getElem? (i := 502) (by decide +kernel)
theorem fl_X11_260 : ab_fl RX11 260 9 5 := List.mem_of_getElem? (i := 503) (by decide +kernel)
theorem kc_X11_357 : Cond.constantLong RX11 357 (4000000000000000000 : Int64) ∈ lw_tbl := List.mem_of_getElem? (i := 604) (by decide +kernel)
theorem nt_arraycopy : Cond.native ⟨"java/lang/System", "arraycopy", "(Ljava/lang/Object;ILjava/lang/Object;II)V"⟩ ∈ lw_tbl := List.mem_of_getElem? (i := 642) (by decide +kernel)
theorem kc_X8_52 : Cond.constant RX8 52 (1664525 : Int32) ∈ lw_tbl := List.mem_of_getElem? (i := 691) (by decide +kernel)
theorem kc_X8_53 : Cond.constant RX8 53 (1013904223 : Int32) ∈ lw_tbl := List.mem_of_getElem? (i := 692) (by decide +kernel)
theorem kc_X8_54 : Cond.constant RX8 54 (2147483647 : Int32) ∈ lw_tbl := List.mem_of_getElem? (i := 693) (by decide +kernel)
theorem kc_X9_57 : Cond.constantLong RX9 57 (1000000000 : Int64) ∈ lw_tbl := List.mem_of_getElem? (i := 744) (by decide +kernel)
theorem kc_X1_9 : Cond.constantFloat RX1 9 (1056964608 : UInt32) ∈ lw_tbl := List.mem_of_getElem? (i := 786) (by decide +kernel)
theorem kc_X1_10 : Cond.constantFloat RX1 10 (1258291200 : UInt32) ∈ lw_tbl := List.mem_of_getElem? (i := 787) (by decide +kernel)
theorem kc_X11_292 : Cond.constantFloat RX11 292 (1148846080 : UInt32) ∈ lw_tbl := List.mem_of_getElem? (i := 797) (by decide +kernel)
theorem kc_X1_11 : Cond.constantLong RX1 11 (1023 : Int64) ∈ lw_tbl := List.mem_of_getElem? (i := 813) (by decide +kernel)
theorem kc_X1_13 : Cond.constantDouble RX1 13 (4611686018427387904 : UInt64) ∈ lw_tbl := List.mem_of_getElem? (i := 814) (by decide +kernel)
theorem kc_X1_15 : Cond.constantDouble RX1 15 (4602678819172646912 : UInt64) ∈ lw_tbl := List.mem_of_getElem? (i := 815) (by decide +kernel)
theorem kc_X1_17 : Cond.constantDouble RX1 17 (4841369599423283200 : UInt64) ∈ lw_tbl := List.mem_of_getElem? (i := 816) (by decide +kernel)
theorem kc_X11_332 : Cond.constantLong RX11 332 (4000000000000000011 : Int64) ∈ lw_tbl := List.mem_of_getElem? (i := 881) (by decide +kernel)
theorem kc_X11_334 : Cond.constantLong RX11 334 (4000000000000000013 : Int64) ∈ lw_tbl := List.mem_of_getElem? (i := 882) (by decide +kernel)
theorem cl_L_10 : Cond.classLink RL 10 RX12 ∈ lw_tbl := List.mem_of_getElem? (i := 916) (by decide +kernel)
theorem is_X12 : Cond.instantiable RX12 43 ∈ lw_tbl := List.mem_of_getElem? (i := 917) (by decide +kernel)
theorem fl_X12_1 : ab_fl RX12 1 11 0 := List.mem_of_getElem? (i := 938) (by decide +kernel)
theorem fl_X12_29 : ab_fl RX12 29 11 1 := List.mem_of_getElem? (i := 939) (by decide +kernel)
theorem fl_X12_127 : ab_fl RX12 127 11 2 := List.mem_of_getElem? (i := 940) (by decide +kernel)
theorem fl_X12_130 : ab_fl RX12 130 11 3 := List.mem_of_getElem? (i := 941) (by decide +kernel)
theorem fl_X12_133 : ab_fl RX12 133 11 4 := List.mem_of_getElem? (i := 942) (by decide +kernel)
theorem fl_X12_33 : ab_fl RX12 33 11 5 := List.mem_of_getElem? (i := 943) (by decide +kernel)
theorem fl_X12_36 : ab_fl RX12 36 11 6 := List.mem_of_getElem? (i := 944) (by decide +kernel)
theorem fl_X12_39 : ab_fl RX12 39 11 7 := List.mem_of_getElem? (i := 945) (by decide +kernel)
theorem fl_X12_42 : ab_fl RX12 42 11 8 := List.mem_of_getElem? (i := 946) (by decide +kernel)
theorem fl_X12_45 : ab_fl RX12 45 11 9 := List.mem_of_getElem? (i := 947) (by decide +kernel)
theorem fl_X12_48 : ab_fl RX12 48 11 10 := List.mem_of_getElem? (i := 948) (by decide +kernel)
theorem fl_X12_51 : ab_fl RX12 51 11 11 := List.mem_of_getElem? (i := 949) (by decide +kernel)
theorem fl_X12_55 : ab_fl RX12 55 11 12 := List.mem_of_getElem? (i := 950) (by decide +kernel)
theorem fl_X12_58 : ab_fl RX12 58 11 13 := List.mem_of_getElem? (i := 951) (by decide +kernel)
theorem fl_X12_61 : ab_fl RX12 61 11 14 := List.mem_of_getElem? (i := 952) (by decide +kernel)
theorem fl_X12_207 : ab_fl RX12 207 11 15 := List.mem_of_getElem? (i := 953) (by decide +kernel)
theorem fl_X12_64 : ab_fl RX12 64 11 16 := List.mem_of_getElem? (i := 954) (by decide +kernel)
theorem fl_X12_238 : ab_fl RX12 238 11 17 := List.mem_of_getElem? (i := 955) (by decide +kernel)
theorem fl_X12_67 : ab_fl RX12 67 11 18 := List.mem_of_getElem? (i := 956) (by decide +kernel)
theorem fl_X12_70 : ab_fl RX12 70 11 19 := List.mem_of_getElem? (i := 957) (by decide +kernel)
theorem fl_X12_250 : ab_fl RX12 250 11 20 := List.mem_of_getElem? (i := 958) (by decide +kernel)
theorem fl_X12_254 : ab_fl RX12 254 11 21 := List.mem_of_getElem? (i := 959) (by decide +kernel)
theorem fl_X12_73 : ab_fl RX12 73 11 22 := List.mem_of_getElem? (i := 960) (by decide +kernel)
theorem fl_X12_76 : ab_fl RX12 76 11 23 := List.mem_of_getElem? (i := 961) (by decide +kernel)
theorem fl_X12_79 : ab_fl RX12 79 11 24 := List.mem_of_getElem? (i := 962) (by decide +kernel)
theorem fl_X12_82 : ab_fl RX12 82 11 25 := List.mem_of_getElem? (i := 963) (by decide +kernel)
theorem fl_X12_85 : ab_fl RX12 85 11 26 := List.mem_of_getElem? (i := 964) (by decide +kernel)
theorem fl_X12_88 : ab_fl RX12 88 11 27 := List.mem_of_getElem? (i := 965) (by decide +kernel)
theorem fl_X12_91 : ab_fl RX12 91 11 28 := List.mem_of_getElem? (i := 966) (by decide +kernel)
theorem fl_X12_339 : ab_fl RX12 339 11 29 := List.mem_of_getElem? (i := 967) (by decide +kernel)
theorem fl_X12_342 : ab_fl RX12 342 11 30 := List.mem_of_getElem? (i := 968) (by decide +kernel)
theorem fl_X12_94 : ab_fl RX12 94 11 31 := List.mem_of_getElem? (i := 969) (by decide +kernel)
theorem fl_X12_97 : ab_fl RX12 97 11 32 := List.mem_of_getElem? (i := 970) (by decide +kernel)
theorem fl_X12_367 : ab_fl RX12 367 11 33 := List.mem_of_getElem? (i := 971) (by decide +kernel)
theorem fl_X12_371 : ab_fl RX12 371 11 34 := List.mem_of_getElem? (i := 972) (by decide +kernel)
theorem fl_X12_374 : ab_fl RX12 374 11 35 := List.mem_of_getElem? (i := 973) (by decide +kernel)
theorem fl_X12_377 : ab_fl RX12 377 11 36 := List.mem_of_getElem? (i := 974) (by decide +kernel)
theorem fl_X12_380 : ab_fl RX12 380 11 37 := List.mem_of_getElem? (i := 975) (by decide +kernel)
theorem fl_X12_383 : ab_fl RX12 383 11 38 := List.mem_of_getElem? (i := 976) (by decide +kernel)
theorem fl_X12_100 : ab_fl RX12 100 11 39 := List.mem_of_getElem? (i := 977) (by decide +kernel)
theorem fl_X12_103 : ab_fl RX12 103 11 40 := List.mem_of_getElem? (i := 978) (by decide +kernel)
theorem fl_X12_106 : ab_fl RX12 106 11 41 := List.mem_of_getElem? (i := 979) (by decide +kernel)
theorem fl_X12_109 : ab_fl RX12 109 11 42 := List.mem_of_getElem? (i := 980) (by decide +kernel)
theorem kc_X12_162 : Cond.constantLong RX12 162 (10 : Int64) ∈ lw_tbl := List.mem_of_getElem? (i := 1119) (by decide +kernel)
theorem kc_X12_164 : Cond.constantLong RX12 164 (13 : Int64) ∈ lw_tbl := List.mem_of_getElem? (i := 1120) (by decide +kernel)
theorem kc_X12_172 : Cond.constantLong RX12 172 (3 : Int64) ∈ lw_tbl := List.mem_of_getElem? (i := 1136) (by decide +kernel)
theorem kc_X12_7 : Cond.constantLong RX12 7 (4000000000000000000 : Int64) ∈ lw_tbl := List.mem_of_getElem? (i := 1141) (by decide +kernel)
theorem kc_X12_202 : Cond.constant RX12 202 (1664525 : Int32) ∈ lw_tbl := List.mem_of_getElem? (i := 1196) (by decide +kernel)
theorem kc_X12_203 : Cond.constant RX12 203 (1013904223 : Int32) ∈ lw_tbl := List.mem_of_getElem? (i := 1197) (by decide +kernel)
theorem kc_X12_206 : Cond.constant RX12 206 (2147483647 : Int32) ∈ lw_tbl := List.mem_of_getElem? (i := 1198) (by decide +kernel)
theorem kc_X12_230 : Cond.constantLong RX12 230 (2 : Int64) ∈ lw_tbl := List.mem_of_getElem? (i := 1215) (by decide +kernel)
theorem kc_J6_264 : Cond.constant RJ6 264 (65536 : Int32) ∈ lw_tbl := List.mem_of_getElem? (i := 1232) (by decide +kernel)
theorem kc_X12_241 : Cond.constantLong RX12 241 (5 : Int64) ∈ lw_tbl := List.mem_of_getElem? (i := 1240) (by decide +kernel)
theorem kc_X12_275 : Cond.constantLong RX12 275 (4 : Int64) ∈ lw_tbl := List.mem_of_getElem? (i := 1292) (by decide +kernel)
theorem kc_X12_277 : Cond.constantLong RX12 277 (8 : Int64) ∈ lw_tbl := List.mem_of_getElem? (i := 1293) (by decide +kernel)
theorem kc_X12_294 : Cond.constantLong RX12 294 (1000000000 : Int64) ∈ lw_tbl := List.mem_of_getElem? (i := 1310) (by decide +kernel)
theorem nt_floatToRawIntBits : Cond.native ⟨"java/lang/Float", "floatToRawIntBits", "(F)I"⟩ ∈ lw_tbl := List.mem_of_getElem? (i := 1343) (by decide +kernel)
theorem kc_Jxf58ca_77 : Cond.constant RJxf58ca 77 (2143289344 : Int32) ∈ lw_tbl := List.mem_of_getElem? (i := 1344) (by decide +kernel)
theorem kc_X12_322 : Cond.constantFloat RX12 322 (1148846080 : UInt32) ∈ lw_tbl := List.mem_of_getElem? (i := 1349) (by decide +kernel)
theorem nt_doubleToRawLongBits : Cond.native ⟨"java/lang/Double", "doubleToRawLongBits", "(D)J"⟩ ∈ lw_tbl := List.mem_of_getElem? (i := 1362) (by decide +kernel)
theorem kc_Jxe99ae_137 : Cond.constantLong RJxe99ae 137 (9221120237041090560 : Int64) ∈ lw_tbl := List.mem_of_getElem? (i := 1363) (by decide +kernel)
theorem kc_X12_335 : Cond.constantLong RX12 335 (4000000000000000011 : Int64) ∈ lw_tbl := List.mem_of_getElem? (i := 1398) (by decide +kernel)
theorem kc_X12_337 : Cond.constantLong RX12 337 (4000000000000000013 : Int64) ∈ lw_tbl := List.mem_of_getElem? (i := 1399) (by decide +kernel)
theorem kc_X12_351 : Cond.constantLong RX12 351 (48 : Int64) ∈ lw_tbl := List.mem_of_getElem? (i := 1422) (by decide +kernel)
theorem kc_X12_353 : Cond.constantLong RX12 353 (57 : Int64) ∈ lw_tbl := List.mem_of_getElem? (i := 1423) (by decide +kernel)
theorem kc_X12_386 : Cond.constantLong RX12 386 (11 : Int64) ∈ lw_tbl := List.mem_of_getElem? (i := 1448) (by decide +kernel)
theorem kc_X12_388 : Cond.constantLong RX12 388 (16 : Int64) ∈ lw_tbl := List.mem_of_getElem? (i := 1449) (by decide +kernel)
theorem mk_X0_init : ab_mk mX0_init 0 := ⟨List.mem_of_getElem? (i := 89) (by decide +kernel), it_X0, ⟨by decide +kernel, by decide +kernel, by decide +kernel⟩, Nat.le_of_ble_eq_true rfl⟩
theorem im_X0_init : Cond.instanceMethod mX0_init.1 ∈ lw_tbl := List.mem_of_getElem? (i := 88) (by decide +kernel)
theorem mk_X0_isCell : ab_mk mX0_isCell 3 := ⟨List.mem_of_getElem? (i := 290) (by decide +kernel), it_X0, ⟨by decide +kernel, by decide +kernel, by decide +kernel⟩, Nat.le_of_ble_eq_true rfl⟩
theorem st_X0_isCell : Cond.static mX0_isCell.1 ∈ lw_tbl := List.mem_of_getElem? (i := 289) (by decide +kernel)
theorem mk_X0_cutAnew : ab_mk mX0_cutAnew 3 := ⟨List.mem_of_getElem? (i := 276) (by decide +kernel), it_X0, ⟨by decide +kernel, by decide +kernel, by decide +kernel⟩, Nat.le_of_ble_eq_true rfl⟩
theorem im_X0_cutAnew : Cond.instanceMethod mX0_cutAnew.1 ∈ lw_tbl := List.mem_of_getElem? (i := 274) (by decide +kernel)
theorem se_X0_cutAnew : Cond.selects mX0_cutAnew.1.cls mX0_cutAnew.1 mX0_cutAnew.1 ∈ lw_tbl := List.mem_of_getElem? (i := 275) (by decide +kernel)
theorem mk_X0_cutBlock : ab_mk mX0_cutBlock 6 := ⟨List.mem_of_getElem? (i := 279) (by decide +kernel), it_X0, ⟨by decide +kernel, by decide +kernel, by decide +kernel⟩, Nat.le_of_ble_eq_true rfl⟩
theorem st_X0_cutBlock : Cond.static mX0_cutBlock.1 ∈ lw_tbl := List.mem_of_getElem? (i := 278) (by decide +kernel)
theorem mk_X0_lay : ab_mk mX0_lay 4 := ⟨List.mem_of_getElem? (i := 283) (by decide +kernel), it_X0, ⟨by decide +kernel, by decide +kernel, by decide +kernel⟩, Nat.le_of_ble_eq_true rfl⟩
theorem im_X0_lay : Cond.instanceMethod mX0_lay.1 ∈ lw_tbl := List.mem_of_getElem? (i := 282) (by decide +kernel)
theorem se_X0_lay : Cond.selects mX0_lay.1.cls mX0_lay.1 mX0_lay.1 ∈ lw_tbl := List.mem_of_getElem? (i := 0) (by decide +kernel)
theorem mk_X0_has : ab_mk mX0_has 2 := ⟨List.mem_of_getElem? (i := 287) (by decide +kernel), it_X0, ⟨by decide +kernel, by decide +kernel, by decide +kernel⟩, Nat.le_of_ble_eq_true rfl⟩
theorem im_X0_has : Cond.instanceMethod mX0_has.1 ∈ lw_tbl := List.mem_of_getElem? (i := 285) (by decide +kernel)
theorem se_X0_has : Cond.selects mX0_has.1.cls mX0_has.1 mX0_has.1 ∈ lw_tbl := List.mem_of_getElem? (i := 286) (by decide +kernel)
theorem mk_X0_hasPiece : ab_mk mX0_hasPiece 1 := ⟨List.mem_of_getElem? (i := 541) (by decide +kernel), it_X0, ⟨by decide +kernel, by decide +kernel, by decide +kernel⟩, Nat.le_of_ble_eq_true rfl⟩
theorem im_X0_hasPiece : Cond.instanceMethod mX0_hasPiece.1 ∈ lw_tbl := List.mem_of_getElem? (i := 539) (by decide +kernel)
theorem se_X0_hasPiece : Cond.selects mX0_hasPiece.1.cls mX0_hasPiece.1 mX0_hasPiece.1 ∈ lw_tbl := List.mem_of_getElem? (i := 540) (by decide +kernel)
theorem mk_X0_pieceAt : ab_mk mX0_pieceAt 2 := ⟨List.mem_of_getElem? (i := 533) (by decide +kernel), it_X0, ⟨by decide +kernel, by decide +kernel, by decide +kernel⟩, Nat.le_of_ble_eq_true rfl⟩
theorem im_X0_pieceAt : Cond.instanceMethod mX0_pieceAt.1 ∈ lw_tbl := List.mem_of_getElem? (i := 531) (by decide +kernel)
theorem se_X0_pieceAt : Cond.selects mX0_pieceAt.1.cls mX0_pieceAt.1 mX0_pieceAt.1 ∈ lw_tbl := List.mem_of_getElem? (i := 532) (by decide +kernel)
theorem mk_X0_wayOf : ab_mk mX0_wayOf 1 := ⟨List.mem_of_getElem? (i := 545) (by decide +kernel), it_X0, ⟨by decide +kernel, by decide +kernel, by decide +kernel⟩, Nat.le_of_ble_eq_true rfl⟩
theorem im_X0_wayOf : Cond.instanceMethod mX0_wayOf.1 ∈ lw_tbl := List.mem_of_getElem? (i := 543) (by decide +kernel)
theorem se_X0_wayOf : Cond.selects mX0_wayOf.1.cls mX0_wayOf.1 mX0_wayOf.1 ∈ lw_tbl := List.mem_of_getElem? (i := 544) (by decide +kernel)
theorem mk_X0_sizeOf : ab_mk mX0_sizeOf 1 := ⟨List.mem_of_getElem? (i := 549) (by decide +kernel), it_X0, ⟨by decide +kernel, by decide +kernel, by decide +kernel⟩, Nat.le_of_ble_eq_true rfl⟩
theorem im_X0_sizeOf : Cond.instanceMethod mX0_sizeOf.1 ∈ lw_tbl := List.mem_of_getElem? (i := 547) (by decide +kernel)
theorem se_X0_sizeOf : Cond.selects mX0_sizeOf.1.cls mX0_sizeOf.1 mX0_sizeOf.1 ∈ lw_tbl := List.mem_of_getElem? (i := 548) (by decide +kernel)
theorem mk_X0_cornerX : ab_mk mX0_cornerX 1 := ⟨List.mem_of_getElem? (i := 553) (by decide +kernel), it_X0, ⟨by decide +kernel, by decide +kernel, by decide +kernel⟩, Nat.le_of_ble_eq_true rfl⟩
theorem im_X0_cornerX : Cond.instanceMethod mX0_cornerX.1 ∈ lw_tbl := List.mem_of_getElem? (i := 551) (by decide +kernel)
theorem se_X0_cornerX : Cond.selects mX0_cornerX.1.cls mX0_cornerX.1 mX0_cornerX.1 ∈ lw_tbl := List.mem_of_getElem? (i := 552) (by decide +kernel)
theorem mk_X0_cornerY : ab_mk mX0_cornerY 1 := ⟨List.mem_of_getElem? (i := 557) (by decide +kernel), it_X0, ⟨by decide +kernel, by decide +kernel, by decide +kernel⟩, Nat.le_of_ble_eq_true rfl⟩
theorem im_X0_cornerY : Cond.instanceMethod mX0_cornerY.1 ∈ lw_tbl := List.mem_of_getElem? (i := 555) (by decide +kernel)
theorem se_X0_cornerY : Cond.selects mX0_cornerY.1.cls mX0_cornerY.1 mX0_cornerY.1 ∈ lw_tbl := List.mem_of_getElem? (i := 556) (by decide +kernel)
theorem mk_X0_touching : ab_mk mX0_touching 1 := ⟨List.mem_of_getElem? (i := 561) (by decide +kernel), it_X0, ⟨by decide +kernel, by decide +kernel, by decide +kernel⟩, Nat.le_of_ble_eq_true rfl⟩
theorem im_X0_touching : Cond.instanceMethod mX0_touching.1 ∈ lw_tbl := List.mem_of_getElem? (i := 559) (by decide +kernel)
theorem se_X0_touching : Cond.selects mX0_touching.1.cls mX0_touching.1 mX0_touching.1 ∈ lw_tbl := List.mem_of_getElem? (i := 560) (by decide +kernel)
theorem mk_X0_touchAround : ab_mk mX0_touchAround 2 := ⟨List.mem_of_getElem? (i := 565) (by decide +kernel), it_X0, ⟨by decide +kernel, by decide +kernel, by decide +kernel⟩, Nat.le_of_ble_eq_true rfl⟩
theorem im_X0_touchAround : Cond.instanceMethod mX0_touchAround.1 ∈ lw_tbl := List.mem_of_getElem? (i := 564) (by decide +kernel)
theorem se_X0_touchAround : Cond.selects mX0_touchAround.1.cls mX0_touchAround.1 mX0_touchAround.1 ∈ lw_tbl := List.mem_of_getElem? (i := 7) (by decide +kernel)
theorem mk_X0_touch : ab_mk mX0_touch 2 := ⟨List.mem_of_getElem? (i := 569) (by decide +kernel), it_X0, ⟨by decide +kernel, by decide +kernel, by decide +kernel⟩, Nat.le_of_ble_eq_true rfl⟩
theorem im_X0_touch : Cond.instanceMethod mX0_touch.1 ∈ lw_tbl := List.mem_of_getElem? (i := 568) (by decide +kernel)
theorem se_X0_touch : Cond.selects mX0_touch.1.cls mX0_touch.1 mX0_touch.1 ∈ lw_tbl := List.mem_of_getElem? (i := 8) (by decide +kernel)
theorem mk_X0_inWindow : ab_mk mX0_inWindow 4 := ⟨List.mem_of_getElem? (i := 579) (by decide +kernel), it_X0, ⟨by decide +kernel, by decide +kernel, by decide +kernel⟩, Nat.le_of_ble_eq_true rfl⟩
theorem im_X0_inWindow : Cond.instanceMethod mX0_inWindow.1 ∈ lw_tbl := List.mem_of_getElem? (i := 577) (by decide +kernel)
theorem se_X0_inWindow : Cond.selects mX0_inWindow.1.cls mX0_inWindow.1 mX0_inWindow.1 ∈ lw_tbl := List.mem_of_getElem? (i := 578) (by decide +kernel)
theorem mk_X0_atBorder : ab_mk mX0_atBorder 0 := ⟨List.mem_of_getElem? (i := 587) (by decide +kernel), it_X0, ⟨by decide +kernel, by decide +kernel, by decide +kernel⟩, Nat.le_of_ble_eq_true rfl⟩
theorem im_X0_atBorder : Cond.instanceMethod mX0_atBorder.1 ∈ lw_tbl := List.mem_of_getElem? (i := 585) (by decide +kernel)
theorem se_X0_atBorder : Cond.selects mX0_atBorder.1.cls mX0_atBorder.1 mX0_atBorder.1 ∈ lw_tbl := List.mem_of_getElem? (i := 586) (by decide +kernel)
theorem mk_X0_lyingIn : ab_mk mX0_lyingIn 1 := ⟨List.mem_of_getElem? (i := 592) (by decide +kernel), it_X0, ⟨by decide +kernel, by decide +kernel, by decide +kernel⟩, Nat.le_of_ble_eq_true rfl⟩
theorem im_X0_lyingIn : Cond.instanceMethod mX0_lyingIn.1 ∈ lw_tbl := List.mem_of_getElem? (i := 590) (by decide +kernel)
theorem se_X0_lyingIn : Cond.selects mX0_lyingIn.1.cls mX0_lyingIn.1 mX0_lyingIn.1 ∈ lw_tbl := List.mem_of_getElem? (i := 591) (by decide +kernel)
theorem mk_X0_likelihood : ab_mk mX0_likelihood 1 := ⟨List.mem_of_getElem? (i := 608) (by decide +kernel), it_X0, ⟨by decide +kernel, by decide +kernel, by decide +kernel⟩, Nat.le_of_ble_eq_true rfl⟩
theorem im_X0_likelihood : Cond.instanceMethod mX0_likelihood.1 ∈ lw_tbl := List.mem_of_getElem? (i := 606) (by decide +kernel)
theorem se_X0_likelihood : Cond.selects mX0_likelihood.1.cls mX0_likelihood.1 mX0_likelihood.1 ∈ lw_tbl := List.mem_of_getElem? (i := 607) (by decide +kernel)
theorem mk_X1_intBits : ab_mk mX1_intBits 1 := ⟨List.mem_of_getElem? (i := 785) (by decide +kernel), it_X1, ⟨by decide +kernel, by decide +kernel, by decide +kernel⟩, Nat.le_of_ble_eq_true rfl⟩
theorem st_X1_intBits : Cond.static mX1_intBits.1 ∈ lw_tbl := List.mem_of_getElem? (i := 784) (by decide +kernel)
theorem mk_X1_longBitsOfDouble : ab_mk mX1_longBitsOfDouble 1 := ⟨List.mem_of_getElem? (i := 812) (by decide +kernel), it_X1, ⟨by decide +kernel, by decide +kernel, by decide +kernel⟩, Nat.le_of_ble_eq_true rfl⟩
theorem st_X1_longBitsOfDouble : Cond.static mX1_longBitsOfDouble.1 ∈ lw_tbl := List.mem_of_getElem? (i := 811) (by decide +kernel)
theorem mk_X2_init : ab_mk mX2_init 2 := ⟨List.mem_of_getElem? (i := 417) (by decide +kernel), it_X2, ⟨by decide +kernel, by decide +kernel, by decide +kernel⟩, Nat.le_of_ble_eq_true rfl⟩
theorem im_X2_init : Cond.instanceMethod mX2_init.1 ∈ lw_tbl := List.mem_of_getElem? (i := 416) (by decide +kernel)
theorem mk_X2_inLeastTerms : ab_mk mX2_inLeastTerms 2 := ⟨List.mem_of_getElem? (i := 406) (by decide +kernel), it_X2, ⟨by decide +kernel, by decide +kernel, by decide +kernel⟩, Nat.le_of_ble_eq_true rfl⟩
theorem st_X2_inLeastTerms : Cond.static mX2_inLeastTerms.1 ∈ lw_tbl := List.mem_of_getElem? (i := 405) (by decide +kernel)
theorem mk_X2_greatestDivisor : ab_mk mX2_greatestDivisor 2 := ⟨List.mem_of_getElem? (i := 412) (by decide +kernel), it_X2, ⟨by decide +kernel, by decide +kernel, by decide +kernel⟩, Nat.le_of_ble_eq_true rfl⟩
theorem st_X2_greatestDivisor : Cond.static mX2_greatestDivisor.1 ∈ lw_tbl := List.mem_of_getElem? (i := 411) (by decide +kernel)
theorem mk_X2_plus : ab_mk mX2_plus 1 := ⟨List.mem_of_getElem? (i := 752) (by decide +kernel), it_X2, ⟨by decide +kernel, by decide +kernel, by decide +kernel⟩, Nat.le_of_ble_eq_true rfl⟩
theorem im_X2_plus : Cond.instanceMethod mX2_plus.1 ∈ lw_tbl := List.mem_of_getElem? (i := 750) (by decide +kernel)
theorem se_X2_plus : Cond.selects mX2_plus.1.cls mX2_plus.1 mX2_plus.1 ∈ lw_tbl := List.mem_of_getElem? (i := 751) (by decide +kernel)
theorem mk_X2_minus : ab_mk mX2_minus 1 := ⟨List.mem_of_getElem? (i := 471) (by decide +kernel), it_X2, ⟨by decide +kernel, by decide +kernel, by decide +kernel⟩, Nat.le_of_ble_eq_true rfl⟩
theorem im_X2_minus : Cond.instanceMethod mX2_minus.1 ∈ lw_tbl := List.mem_of_getElem? (i := 469) (by decide +kernel)
theorem se_X2_minus : Cond.selects mX2_minus.1.cls mX2_minus.1 mX2_minus.1 ∈ lw_tbl := List.mem_of_getElem? (i := 470) (by decide +kernel)
theorem mk_X2_times : ab_mk mX2_times 1 := ⟨List.mem_of_getElem? (i := 476) (by decide +kernel), it_X2, ⟨by decide +kernel, by decide +kernel, by decide +kernel⟩, Nat.le_of_ble_eq_true rfl⟩
theorem im_X2_times : Cond.instanceMethod mX2_times.1 ∈ lw_tbl := List.mem_of_getElem? (i := 474) (by decide +kernel)
theorem se_X2_times : Cond.selects mX2_times.1.cls mX2_times.1 mX2_times.1 ∈ lw_tbl := List.mem_of_getElem? (i := 475) (by decide +kernel)
theorem mk_X2_equalTo : ab_mk mX2_equalTo 1 := ⟨List.mem_of_getElem? (i := 774) (by decide +kernel), it_X2, ⟨by decide +kernel, by decide +kernel, by decide +kernel⟩, Nat.le_of_ble_eq_true rfl⟩
theorem im_X2_equalTo : Cond.instanceMethod mX2_equalTo.1 ∈ lw_tbl := List.mem_of_getElem? (i := 772) (by decide +kernel)
theorem se_X2_equalTo : Cond.selects mX2_equalTo.1.cls mX2_equalTo.1 mX2_equalTo.1 ∈ lw_tbl := List.mem_of_getElem? (i := 773) (by decide +kernel)
theorem mk_X2_isAbove : ab_mk mX2_isAbove 1 := ⟨List.mem_of_getElem? (i := 748) (by decide +kernel), it_X2, ⟨by decide +kernel, by decide +kernel, by decide +kernel⟩, Nat.le_of_ble_eq_true rfl⟩
theorem im_X2_isAbove : Cond.instanceMethod mX2_isAbove.1 ∈ lw_tbl := List.mem_of_getElem? (i := 746) (by decide +kernel)
theorem se_X2_isAbove : Cond.selects mX2_isAbove.1.cls mX2_isAbove.1 mX2_isAbove.1 ∈ lw_tbl := List.mem_of_getElem? (i := 747) (by decide +kernel)
theorem mk_X2_valuation : ab_mk mX2_valuation 0 := ⟨List.mem_of_getElem? (i := 464) (by decide +kernel), it_X2, ⟨by decide +kernel, by decide +kernel, by decide +kernel⟩, Nat.le_of_ble_eq_true rfl⟩
theorem im_X2_valuation : Cond.instanceMethod mX2_valuation.1 ∈ lw_tbl := List.mem_of_getElem? (i := 462) (by decide +kernel)
theorem se_X2_valuation : Cond.selects mX2_valuation.1.cls mX2_valuation.1 mX2_valuation.1 ∈ lw_tbl := List.mem_of_getElem? (i := 463) (by decide +kernel)
theorem mk_X2_twosIn : ab_mk mX2_twosIn 1 := ⟨List.mem_of_getElem? (i := 467) (by decide +kernel), it_X2, ⟨by decide +kernel, by decide +kernel, by decide +kernel⟩, Nat.le_of_ble_eq_true rfl⟩
theorem st_X2_twosIn : Cond.static mX2_twosIn.1 ∈ lw_tbl := List.mem_of_getElem? (i := 466) (by decide +kernel)
theorem mk_X2_told : ab_mk mX2_told 1 := ⟨List.mem_of_getElem? (i := 614) (by decide +kernel), it_X2, ⟨by decide +kernel, by decide +kernel, by decide +kernel⟩, Nat.le_of_ble_eq_true rfl⟩
theorem im_X2_told : Cond.instanceMethod mX2_told.1 ∈ lw_tbl := List.mem_of_getElem? (i := 612) (by decide +kernel)
theorem se_X2_told : Cond.selects mX2_told.1.cls mX2_told.1 mX2_told.1 ∈ lw_tbl := List.mem_of_getElem? (i := 613) (by decide +kernel)
theorem mk_X2_asFloat : ab_mk mX2_asFloat 0 := ⟨List.mem_of_getElem? (i := 782) (by decide +kernel), it_X2, ⟨by decide +kernel, by decide +kernel, by decide +kernel⟩, Nat.le_of_ble_eq_true rfl⟩
theorem im_X2_asFloat : Cond.instanceMethod mX2_asFloat.1 ∈ lw_tbl := List.mem_of_getElem? (i := 780) (by decide +kernel)
theorem se_X2_asFloat : Cond.selects mX2_asFloat.1.cls mX2_asFloat.1 mX2_asFloat.1 ∈ lw_tbl := List.mem_of_getElem? (i := 781) (by decide +kernel)
theorem mk_X2_asDouble : ab_mk mX2_asDouble 0 := ⟨List.mem_of_getElem? (i := 809) (by decide +kernel), it_X2, ⟨by decide +kernel, by decide +kernel, by decide +kernel⟩, Nat.le_of_ble_eq_true rfl⟩
theorem im_X2_asDouble : Cond.instanceMethod mX2_asDouble.1 ∈ lw_tbl := List.mem_of_getElem? (i := 807) (by decide +kernel)
theorem se_X2_asDouble : Cond.selects mX2_asDouble.1.cls mX2_asDouble.1 mX2_asDouble.1 ∈ lw_tbl := List.mem_of_getElem? (i := 808) (by decide +kernel)
theorem mk_X3_init : ab_mk mX3_init 0 := ⟨List.mem_of_getElem? (i := 211) (by decide +kernel), it_X3, ⟨by decide +kernel, by decide +kernel, by decide +kernel⟩, Nat.le_of_ble_eq_true rfl⟩
theorem im_X3_init : Cond.instanceMethod mX3_init.1 ∈ lw_tbl := List.mem_of_getElem? (i := 210) (by decide +kernel)
theorem mk_X3_take : ab_mk mX3_take 3 := ⟨List.mem_of_getElem? (i := 894) (by decide +kernel), it_X3, ⟨by decide +kernel, by decide +kernel, by decide +kernel⟩, Nat.le_of_ble_eq_true rfl⟩
theorem im_X3_take : Cond.instanceMethod mX3_take.1 ∈ lw_tbl := List.mem_of_getElem? (i := 892) (by decide +kernel)
theorem se_X3_take : Cond.selects mX3_take.1.cls mX3_take.1 mX3_take.1 ∈ lw_tbl := List.mem_of_getElem? (i := 893) (by decide +kernel)
theorem mk_X3_giveBack : ab_mk mX3_giveBack 3 := ⟨List.mem_of_getElem? (i := 910) (by decide +kernel), it_X3, ⟨by decide +kernel, by decide +kernel, by decide +kernel⟩, Nat.le_of_ble_eq_true rfl⟩
theorem im_X3_giveBack : Cond.instanceMethod mX3_giveBack.1 ∈ lw_tbl := List.mem_of_getElem? (i := 908) (by decide +kernel)
theorem se_X3_giveBack : Cond.selects mX3_giveBack.1.cls mX3_giveBack.1 mX3_giveBack.1 ∈ lw_tbl := List.mem_of_getElem? (i := 909) (by decide +kernel)
theorem mk_X4_init : ab_mk mX4_init 0 := ⟨List.mem_of_getElem? (i := 188) (by decide +kernel), it_X4, ⟨by decide +kernel, by decide +kernel, by decide +kernel⟩, Nat.le_of_ble_eq_true rfl⟩
theorem im_X4_init : Cond.instanceMethod mX4_init.1 ∈ lw_tbl := List.mem_of_getElem? (i := 187) (by decide +kernel)
theorem mk_X4_isFull : ab_mk mX4_isFull 0 := ⟨List.mem_of_getElem? (i := 327) (by decide +kernel), it_X4, ⟨by decide +kernel, by decide +kernel, by decide +kernel⟩, Nat.le_of_ble_eq_true rfl⟩
theorem im_X4_isFull : Cond.instanceMethod mX4_isFull.1 ∈ lw_tbl := List.mem_of_getElem? (i := 325) (by decide +kernel)
theorem se_X4_isFull : Cond.selects mX4_isFull.1.cls mX4_isFull.1 mX4_isFull.1 ∈ lw_tbl := List.mem_of_getElem? (i := 326) (by decide +kernel)
theorem mk_X4_append : ab_mk mX4_append 1 := ⟨List.mem_of_getElem? (i := 331) (by decide +kernel), it_X4, ⟨by decide +kernel, by decide +kernel, by decide +kernel⟩, Nat.le_of_ble_eq_true rfl⟩
theorem im_X4_append : Cond.instanceMethod mX4_append.1 ∈ lw_tbl := List.mem_of_getElem? (i := 329) (by decide +kernel)
theorem se_X4_append : Cond.selects mX4_append.1.cls mX4_append.1 mX4_append.1 ∈ lw_tbl := List.mem_of_getElem? (i := 330) (by decide +kernel)
theorem mk_X4_clear : ab_mk mX4_clear 0 := ⟨List.mem_of_getElem? (i := 520) (by decide +kernel), it_X4, ⟨by decide +kernel, by decide +kernel, by decide +kernel⟩, Nat.le_of_ble_eq_true rfl⟩
theorem im_X4_clear : Cond.instanceMethod mX4_clear.1 ∈ lw_tbl := List.mem_of_getElem? (i := 518) (by decide +kernel)
theorem se_X4_clear : Cond.selects mX4_clear.1.cls mX4_clear.1 mX4_clear.1 ∈ lw_tbl := List.mem_of_getElem? (i := 519) (by decide +kernel)
theorem mk_X4_letterAt : ab_mk mX4_letterAt 1 := ⟨List.mem_of_getElem? (i := 351) (by decide +kernel), it_X4, ⟨by decide +kernel, by decide +kernel, by decide +kernel⟩, Nat.le_of_ble_eq_true rfl⟩
theorem im_X4_letterAt : Cond.instanceMethod mX4_letterAt.1 ∈ lw_tbl := List.mem_of_getElem? (i := 349) (by decide +kernel)
theorem se_X4_letterAt : Cond.selects mX4_letterAt.1.cls mX4_letterAt.1 mX4_letterAt.1 ∈ lw_tbl := List.mem_of_getElem? (i := 350) (by decide +kernel)
theorem mk_X4_digitsBehind : ab_mk mX4_digitsBehind 1 := ⟨List.mem_of_getElem? (i := 354) (by decide +kernel), it_X4, ⟨by decide +kernel, by decide +kernel, by decide +kernel⟩, Nat.le_of_ble_eq_true rfl⟩
theorem st_X4_digitsBehind : Cond.static mX4_digitsBehind.1 ∈ lw_tbl := List.mem_of_getElem? (i := 353) (by decide +kernel)
theorem mk_X4_read : ab_mk mX4_read 0 := ⟨List.mem_of_getElem? (i := 343) (by decide +kernel), it_X4, ⟨by decide +kernel, by decide +kernel, by decide +kernel⟩, Nat.le_of_ble_eq_true rfl⟩
theorem im_X4_read : Cond.instanceMethod mX4_read.1 ∈ lw_tbl := List.mem_of_getElem? (i := 341) (by decide +kernel)
theorem se_X4_read : Cond.selects mX4_read.1.cls mX4_read.1 mX4_read.1 ∈ lw_tbl := List.mem_of_getElem? (i := 342) (by decide +kernel)
theorem mk_X4_firstWrongFrom : ab_mk mX4_firstWrongFrom 1 := ⟨List.mem_of_getElem? (i := 347) (by decide +kernel), it_X4, ⟨by decide +kernel, by decide +kernel, by decide +kernel⟩, Nat.le_of_ble_eq_true rfl⟩
theorem im_X4_firstWrongFrom : Cond.instanceMethod mX4_firstWrongFrom.1 ∈ lw_tbl := List.mem_of_getElem? (i := 346) (by decide +kernel)
theorem se_X4_firstWrongFrom : Cond.selects mX4_firstWrongFrom.1.cls mX4_firstWrongFrom.1 mX4_firstWrongFrom.1 ∈ lw_tbl := List.mem_of_getElem? (i := 3) (by decide +kernel)
theorem mk_X4_digit : ab_mk mX4_digit 1 := ⟨List.mem_of_getElem? (i := 363) (by decide +kernel), it_X4, ⟨by decide +kernel, by decide +kernel, by decide +kernel⟩, Nat.le_of_ble_eq_true rfl⟩
theorem im_X4_digit : Cond.instanceMethod mX4_digit.1 ∈ lw_tbl := List.mem_of_getElem? (i := 361) (by decide +kernel)
theorem se_X4_digit : Cond.selects mX4_digit.1.cls mX4_digit.1 mX4_digit.1 ∈ lw_tbl := List.mem_of_getElem? (i := 362) (by decide +kernel)
theorem mk_X4_twoDigits : ab_mk mX4_twoDigits 1 := ⟨List.mem_of_getElem? (i := 367) (by decide +kernel), it_X4, ⟨by decide +kernel, by decide +kernel, by decide +kernel⟩, Nat.le_of_ble_eq_true rfl⟩
theorem im_X4_twoDigits : Cond.instanceMethod mX4_twoDigits.1 ∈ lw_tbl := List.mem_of_getElem? (i := 365) (by decide +kernel)
theorem se_X4_twoDigits : Cond.selects mX4_twoDigits.1.cls mX4_twoDigits.1 mX4_twoDigits.1 ∈ lw_tbl := List.mem_of_getElem? (i := 366) (by decide +kernel)
theorem mk_X4_fourDigits : ab_mk mX4_fourDigits 1 := ⟨List.mem_of_getElem? (i := 394) (by decide +kernel), it_X4, ⟨by decide +kernel, by decide +kernel, by decide +kernel⟩, Nat.le_of_ble_eq_true rfl⟩
theorem im_X4_fourDigits : Cond.instanceMethod mX4_fourDigits.1 ∈ lw_tbl := List.mem_of_getElem? (i := 392) (by decide +kernel)
theorem se_X4_fourDigits : Cond.selects mX4_fourDigits.1.cls mX4_fourDigits.1 mX4_fourDigits.1 ∈ lw_tbl := List.mem_of_getElem? (i := 393) (by decide +kernel)
theorem mk_X5_init : ab_mk mX5_init 0 := ⟨List.mem_of_getElem? (i := 262) (by decide +kernel), it_X5, ⟨by decide +kernel, by decide +kernel, by decide +kernel⟩, Nat.le_of_ble_eq_true rfl⟩
theorem im_X5_init : Cond.instanceMethod mX5_init.1 ∈ lw_tbl := List.mem_of_getElem? (i := 261) (by decide +kernel)
theorem mk_X5_isMissing : ab_mk mX5_isMissing 0 := ⟨List.mem_of_getElem? (i := 872) (by decide +kernel), it_X5, ⟨by decide +kernel, by decide +kernel, by decide +kernel⟩, Nat.le_of_ble_eq_true rfl⟩
theorem im_X5_isMissing : Cond.instanceMethod mX5_isMissing.1 ∈ lw_tbl := List.mem_of_getElem? (i := 870) (by decide +kernel)
theorem se_X5_isMissing : Cond.selects mX5_isMissing.1.cls mX5_isMissing.1 mX5_isMissing.1 ∈ lw_tbl := List.mem_of_getElem? (i := 871) (by decide +kernel)
theorem mk_X5_hasPlace : ab_mk mX5_hasPlace 1 := ⟨List.mem_of_getElem? (i := 876) (by decide +kernel), it_X5, ⟨by decide +kernel, by decide +kernel, by decide +kernel⟩, Nat.le_of_ble_eq_true rfl⟩
theorem im_X5_hasPlace : Cond.instanceMethod mX5_hasPlace.1 ∈ lw_tbl := List.mem_of_getElem? (i := 874) (by decide +kernel)
theorem se_X5_hasPlace : Cond.selects mX5_hasPlace.1.cls mX5_hasPlace.1 mX5_hasPlace.1 ∈ lw_tbl := List.mem_of_getElem? (i := 875) (by decide +kernel)
theorem mk_X5_makeZeros : ab_mk mX5_makeZeros 1 := ⟨List.mem_of_getElem? (i := 864) (by decide +kernel), it_X5, ⟨by decide +kernel, by decide +kernel, by decide +kernel⟩, Nat.le_of_ble_eq_true rfl⟩
theorem im_X5_makeZeros : Cond.instanceMethod mX5_makeZeros.1 ∈ lw_tbl := List.mem_of_getElem? (i := 862) (by decide +kernel)
theorem se_X5_makeZeros : Cond.selects mX5_makeZeros.1.cls mX5_makeZeros.1 mX5_makeZeros.1 ∈ lw_tbl := List.mem_of_getElem? (i := 863) (by decide +kernel)
theorem mk_X6_init : ab_mk mX6_init 2 := ⟨List.mem_of_getElem? (i := 430) (by decide +kernel), it_X6, ⟨by decide +kernel, by decide +kernel, by decide +kernel⟩, Nat.le_of_ble_eq_true rfl⟩
theorem im_X6_init : Cond.instanceMethod mX6_init.1 ∈ lw_tbl := List.mem_of_getElem? (i := 429) (by decide +kernel)
theorem mk_X6_shade : ab_mk mX6_shade 1 := ⟨List.mem_of_getElem? (i := 460) (by decide +kernel), it_X6, ⟨by decide +kernel, by decide +kernel, by decide +kernel⟩, Nat.le_of_ble_eq_true rfl⟩
theorem im_X6_shade : Cond.instanceMethod mX6_shade.1 ∈ lw_tbl := List.mem_of_getElem? (i := 458) (by decide +kernel)
theorem se_X6_shade : Cond.selects mX6_shade.1.cls mX6_shade.1 mX6_shade.1 ∈ lw_tbl := List.mem_of_getElem? (i := 459) (by decide +kernel)
theorem mk_X7_init : ab_mk mX7_init 0 := ⟨List.mem_of_getElem? (i := 244) (by decide +kernel), it_X7, ⟨by decide +kernel, by decide +kernel, by decide +kernel⟩, Nat.le_of_ble_eq_true rfl⟩
theorem im_X7_init : Cond.instanceMethod mX7_init.1 ∈ lw_tbl := List.mem_of_getElem? (i := 243) (by decide +kernel)
theorem mk_X7_isMissing : ab_mk mX7_isMissing 0 := ⟨List.mem_of_getElem? (i := 835) (by decide +kernel), it_X7, ⟨by decide +kernel, by decide +kernel, by decide +kernel⟩, Nat.le_of_ble_eq_true rfl⟩
theorem im_X7_isMissing : Cond.instanceMethod mX7_isMissing.1 ∈ lw_tbl := List.mem_of_getElem? (i := 833) (by decide +kernel)
theorem se_X7_isMissing : Cond.selects mX7_isMissing.1.cls mX7_isMissing.1 mX7_isMissing.1 ∈ lw_tbl := List.mem_of_getElem? (i := 834) (by decide +kernel)
theorem mk_X7_hasPlace : ab_mk mX7_hasPlace 1 := ⟨List.mem_of_getElem? (i := 839) (by decide +kernel), it_X7, ⟨by decide +kernel, by decide +kernel, by decide +kernel⟩, Nat.le_of_ble_eq_true rfl⟩
theorem im_X7_hasPlace : Cond.instanceMethod mX7_hasPlace.1 ∈ lw_tbl := List.mem_of_getElem? (i := 837) (by decide +kernel)
theorem se_X7_hasPlace : Cond.selects mX7_hasPlace.1.cls mX7_hasPlace.1 mX7_hasPlace.1 ∈ lw_tbl := List.mem_of_getElem? (i := 838) (by decide +kernel)
theorem mk_X7_takes : ab_mk mX7_takes 1 := ⟨List.mem_of_getElem? (i := 843) (by decide +kernel), it_X7, ⟨by decide +kernel, by decide +kernel, by decide +kernel⟩, Nat.le_of_ble_eq_true rfl⟩
theorem im_X7_takes : Cond.instanceMethod mX7_takes.1 ∈ lw_tbl := List.mem_of_getElem? (i := 841) (by decide +kernel)
theorem se_X7_takes : Cond.selects mX7_takes.1.cls mX7_takes.1 mX7_takes.1 ∈ lw_tbl := List.mem_of_getElem? (i := 842) (by decide +kernel)
theorem mk_X7_makeFor : ab_mk mX7_makeFor 2 := ⟨List.mem_of_getElem? (i := 827) (by decide +kernel), it_X7, ⟨by decide +kernel, by decide +kernel, by decide +kernel⟩, Nat.le_of_ble_eq_true rfl⟩
theorem im_X7_makeFor : Cond.instanceMethod mX7_makeFor.1 ∈ lw_tbl := List.mem_of_getElem? (i := 825) (by decide +kernel)
theorem se_X7_makeFor : Cond.selects mX7_makeFor.1.cls mX7_makeFor.1 mX7_makeFor.1 ∈ lw_tbl := List.mem_of_getElem? (i := 826) (by decide +kernel)
theorem mk_X7_copyFrom : ab_mk mX7_copyFrom 1 := ⟨List.mem_of_getElem? (i := 856) (by decide +kernel), it_X7, ⟨by decide +kernel, by decide +kernel, by decide +kernel⟩, Nat.le_of_ble_eq_true rfl⟩
theorem im_X7_copyFrom : Cond.instanceMethod mX7_copyFrom.1 ∈ lw_tbl := List.mem_of_getElem? (i := 854) (by decide +kernel)
theorem se_X7_copyFrom : Cond.selects mX7_copyFrom.1.cls mX7_copyFrom.1 mX7_copyFrom.1 ∈ lw_tbl := List.mem_of_getElem? (i := 855) (by decide +kernel)
theorem mk_X8_init : ab_mk mX8_init 0 := ⟨List.mem_of_getElem? (i := 138) (by decide +kernel), it_X8, ⟨by decide +kernel, by decide +kernel, by decide +kernel⟩, Nat.le_of_ble_eq_true rfl⟩
theorem im_X8_init : Cond.instanceMethod mX8_init.1 ∈ lw_tbl := List.mem_of_getElem? (i := 137) (by decide +kernel)
theorem mk_X8_copyFrom : ab_mk mX8_copyFrom 1 := ⟨List.mem_of_getElem? (i := 898) (by decide +kernel), it_X8, ⟨by decide +kernel, by decide +kernel, by decide +kernel⟩, Nat.le_of_ble_eq_true rfl⟩
theorem im_X8_copyFrom : Cond.instanceMethod mX8_copyFrom.1 ∈ lw_tbl := List.mem_of_getElem? (i := 896) (by decide +kernel)
theorem se_X8_copyFrom : Cond.selects mX8_copyFrom.1.cls mX8_copyFrom.1 mX8_copyFrom.1 ∈ lw_tbl := List.mem_of_getElem? (i := 897) (by decide +kernel)
theorem mk_X8_wayOfPart : ab_mk mX8_wayOfPart 2 := ⟨List.mem_of_getElem? (i := 622) (by decide +kernel), it_X8, ⟨by decide +kernel, by decide +kernel, by decide +kernel⟩, Nat.le_of_ble_eq_true rfl⟩
theorem im_X8_wayOfPart : Cond.instanceMethod mX8_wayOfPart.1 ∈ lw_tbl := List.mem_of_getElem? (i := 620) (by decide +kernel)
theorem se_X8_wayOfPart : Cond.selects mX8_wayOfPart.1.cls mX8_wayOfPart.1 mX8_wayOfPart.1 ∈ lw_tbl := List.mem_of_getElem? (i := 621) (by decide +kernel)
theorem mk_X8_become : ab_mk mX8_become 3 := ⟨List.mem_of_getElem? (i := 390) (by decide +kernel), it_X8, ⟨by decide +kernel, by decide +kernel, by decide +kernel⟩, Nat.le_of_ble_eq_true rfl⟩
theorem im_X8_become : Cond.instanceMethod mX8_become.1 ∈ lw_tbl := List.mem_of_getElem? (i := 388) (by decide +kernel)
theorem se_X8_become : Cond.selects mX8_become.1.cls mX8_become.1 mX8_become.1 ∈ lw_tbl := List.mem_of_getElem? (i := 389) (by decide +kernel)
theorem mk_X8_lyingBehind : ab_mk mX8_lyingBehind 3 := ⟨List.mem_of_getElem? (i := 630) (by decide +kernel), it_X8, ⟨by decide +kernel, by decide +kernel, by decide +kernel⟩, Nat.le_of_ble_eq_true rfl⟩
theorem im_X8_lyingBehind : Cond.instanceMethod mX8_lyingBehind.1 ∈ lw_tbl := List.mem_of_getElem? (i := 628) (by decide +kernel)
theorem se_X8_lyingBehind : Cond.selects mX8_lyingBehind.1.cls mX8_lyingBehind.1 mX8_lyingBehind.1 ∈ lw_tbl := List.mem_of_getElem? (i := 629) (by decide +kernel)
theorem mk_X8_startWith : ab_mk mX8_startWith 1 := ⟨List.mem_of_getElem? (i := 634) (by decide +kernel), it_X8, ⟨by decide +kernel, by decide +kernel, by decide +kernel⟩, Nat.le_of_ble_eq_true rfl⟩
theorem im_X8_startWith : Cond.instanceMethod mX8_startWith.1 ∈ lw_tbl := List.mem_of_getElem? (i := 633) (by decide +kernel)
theorem se_X8_startWith : Cond.selects mX8_startWith.1.cls mX8_startWith.1 mX8_startWith.1 ∈ lw_tbl := List.mem_of_getElem? (i := 10) (by decide +kernel)
theorem mk_X8_cutOnce : ab_mk mX8_cutOnce 0 := ⟨List.mem_of_getElem? (i := 638) (by decide +kernel), it_X8, ⟨by decide +kernel, by decide +kernel, by decide +kernel⟩, Nat.le_of_ble_eq_true rfl⟩
theorem im_X8_cutOnce : Cond.instanceMethod mX8_cutOnce.1 ∈ lw_tbl := List.mem_of_getElem? (i := 637) (by decide +kernel)
theorem se_X8_cutOnce : Cond.selects mX8_cutOnce.1.cls mX8_cutOnce.1 mX8_cutOnce.1 ∈ lw_tbl := List.mem_of_getElem? (i := 11) (by decide +kernel)
theorem mk_X8_cutsToAlike : ab_mk mX8_cutsToAlike 1 := ⟨List.mem_of_getElem? (i := 682) (by decide +kernel), it_X8, ⟨by decide +kernel, by decide +kernel, by decide +kernel⟩, Nat.le_of_ble_eq_true rfl⟩
theorem im_X8_cutsToAlike : Cond.instanceMethod mX8_cutsToAlike.1 ∈ lw_tbl := List.mem_of_getElem? (i := 680) (by decide +kernel)
theorem se_X8_cutsToAlike : Cond.selects mX8_cutsToAlike.1.cls mX8_cutsToAlike.1 mX8_cutsToAlike.1 ∈ lw_tbl := List.mem_of_getElem? (i := 681) (by decide +kernel)
theorem mk_X8_wayAt : ab_mk mX8_wayAt 3 := ⟨List.mem_of_getElem? (i := 650) (by decide +kernel), it_X8, ⟨by decide +kernel, by decide +kernel, by decide +kernel⟩, Nat.le_of_ble_eq_true rfl⟩
theorem im_X8_wayAt : Cond.instanceMethod mX8_wayAt.1 ∈ lw_tbl := List.mem_of_getElem? (i := 648) (by decide +kernel)
theorem se_X8_wayAt : Cond.selects mX8_wayAt.1.cls mX8_wayAt.1 mX8_wayAt.1 ∈ lw_tbl := List.mem_of_getElem? (i := 649) (by decide +kernel)
theorem mk_X8_meeting : ab_mk mX8_meeting 3 := ⟨List.mem_of_getElem? (i := 658) (by decide +kernel), it_X8, ⟨by decide +kernel, by decide +kernel, by decide +kernel⟩, Nat.le_of_ble_eq_true rfl⟩
theorem im_X8_meeting : Cond.instanceMethod mX8_meeting.1 ∈ lw_tbl := List.mem_of_getElem? (i := 656) (by decide +kernel)
theorem se_X8_meeting : Cond.selects mX8_meeting.1.cls mX8_meeting.1 mX8_meeting.1 ∈ lw_tbl := List.mem_of_getElem? (i := 657) (by decide +kernel)
theorem mk_X8_addFirstDigit : ab_mk mX8_addFirstDigit 0 := ⟨List.mem_of_getElem? (i := 662) (by decide +kernel), it_X8, ⟨by decide +kernel, by decide +kernel, by decide +kernel⟩, Nat.le_of_ble_eq_true rfl⟩
theorem im_X8_addFirstDigit : Cond.instanceMethod mX8_addFirstDigit.1 ∈ lw_tbl := List.mem_of_getElem? (i := 661) (by decide +kernel)
theorem se_X8_addFirstDigit : Cond.selects mX8_addFirstDigit.1.cls mX8_addFirstDigit.1 mX8_addFirstDigit.1 ∈ lw_tbl := List.mem_of_getElem? (i := 12) (by decide +kernel)
theorem mk_X8_steadyWays : ab_mk mX8_steadyWays 1 := ⟨List.mem_of_getElem? (i := 670) (by decide +kernel), it_X8, ⟨by decide +kernel, by decide +kernel, by decide +kernel⟩, Nat.le_of_ble_eq_true rfl⟩
theorem im_X8_steadyWays : Cond.instanceMethod mX8_steadyWays.1 ∈ lw_tbl := List.mem_of_getElem? (i := 668) (by decide +kernel)
theorem se_X8_steadyWays : Cond.selects mX8_steadyWays.1.cls mX8_steadyWays.1 mX8_steadyWays.1 ∈ lw_tbl := List.mem_of_getElem? (i := 669) (by decide +kernel)
theorem mk_X8_waysBehind : ab_mk mX8_waysBehind 1 := ⟨List.mem_of_getElem? (i := 674) (by decide +kernel), it_X8, ⟨by decide +kernel, by decide +kernel, by decide +kernel⟩, Nat.le_of_ble_eq_true rfl⟩
theorem im_X8_waysBehind : Cond.instanceMethod mX8_waysBehind.1 ∈ lw_tbl := List.mem_of_getElem? (i := 673) (by decide +kernel)
theorem se_X8_waysBehind : Cond.selects mX8_waysBehind.1.cls mX8_waysBehind.1 mX8_waysBehind.1 ∈ lw_tbl := List.mem_of_getElem? (i := 13) (by decide +kernel)
theorem mk_X8_drawLots : ab_mk mX8_drawLots 4 := ⟨List.mem_of_getElem? (i := 690) (by decide +kernel), it_X8, ⟨by decide +kernel, by decide +kernel, by decide +kernel⟩, Nat.le_of_ble_eq_true rfl⟩
theorem im_X8_drawLots : Cond.instanceMethod mX8_drawLots.1 ∈ lw_tbl := List.mem_of_getElem? (i := 688) (by decide +kernel)
theorem se_X8_drawLots : Cond.selects mX8_drawLots.1.cls mX8_drawLots.1 mX8_drawLots.1 ∈ lw_tbl := List.mem_of_getElem? (i := 689) (by decide +kernel)
theorem mk_X9_init : ab_mk mX9_init 0 := ⟨List.mem_of_getElem? (i := 161) (by decide +kernel), it_X9, ⟨by decide +kernel, by decide +kernel, by decide +kernel⟩, Nat.le_of_ble_eq_true rfl⟩
theorem im_X9_init : Cond.instanceMethod mX9_init.1 ∈ lw_tbl := List.mem_of_getElem? (i := 160) (by decide +kernel)
theorem mk_X9_copyFrom : ab_mk mX9_copyFrom 1 := ⟨List.mem_of_getElem? (i := 902) (by decide +kernel), it_X9, ⟨by decide +kernel, by decide +kernel, by decide +kernel⟩, Nat.le_of_ble_eq_true rfl⟩
theorem im_X9_copyFrom : Cond.instanceMethod mX9_copyFrom.1 ∈ lw_tbl := List.mem_of_getElem? (i := 900) (by decide +kernel)
theorem se_X9_copyFrom : Cond.selects mX9_copyFrom.1.cls mX9_copyFrom.1 mX9_copyFrom.1 ∈ lw_tbl := List.mem_of_getElem? (i := 901) (by decide +kernel)
theorem mk_X9_hasPoint : ab_mk mX9_hasPoint 1 := ⟨List.mem_of_getElem? (i := 705) (by decide +kernel), it_X9, ⟨by decide +kernel, by decide +kernel, by decide +kernel⟩, Nat.le_of_ble_eq_true rfl⟩
theorem im_X9_hasPoint : Cond.instanceMethod mX9_hasPoint.1 ∈ lw_tbl := List.mem_of_getElem? (i := 703) (by decide +kernel)
theorem se_X9_hasPoint : Cond.selects mX9_hasPoint.1.cls mX9_hasPoint.1 mX9_hasPoint.1 ∈ lw_tbl := List.mem_of_getElem? (i := 704) (by decide +kernel)
theorem mk_X9_hasTriangle : ab_mk mX9_hasTriangle 1 := ⟨List.mem_of_getElem? (i := 719) (by decide +kernel), it_X9, ⟨by decide +kernel, by decide +kernel, by decide +kernel⟩, Nat.le_of_ble_eq_true rfl⟩
theorem im_X9_hasTriangle : Cond.instanceMethod mX9_hasTriangle.1 ∈ lw_tbl := List.mem_of_getElem? (i := 717) (by decide +kernel)
theorem se_X9_hasTriangle : Cond.selects mX9_hasTriangle.1.cls mX9_hasTriangle.1 mX9_hasTriangle.1 ∈ lw_tbl := List.mem_of_getElem? (i := 718) (by decide +kernel)
theorem mk_X9_hasSet : ab_mk mX9_hasSet 1 := ⟨List.mem_of_getElem? (i := 735) (by decide +kernel), it_X9, ⟨by decide +kernel, by decide +kernel, by decide +kernel⟩, Nat.le_of_ble_eq_true rfl⟩
theorem im_X9_hasSet : Cond.instanceMethod mX9_hasSet.1 ∈ lw_tbl := List.mem_of_getElem? (i := 733) (by decide +kernel)
theorem se_X9_hasSet : Cond.selects mX9_hasSet.1.cls mX9_hasSet.1 mX9_hasSet.1 ∈ lw_tbl := List.mem_of_getElem? (i := 734) (by decide +kernel)
theorem mk_X9_areThree : ab_mk mX9_areThree 4 := ⟨List.mem_of_getElem? (i := 382) (by decide +kernel), it_X9, ⟨by decide +kernel, by decide +kernel, by decide +kernel⟩, Nat.le_of_ble_eq_true rfl⟩
theorem st_X9_areThree : Cond.static mX9_areThree.1 ∈ lw_tbl := List.mem_of_getElem? (i := 381) (by decide +kernel)
theorem mk_X9_addPoint : ab_mk mX9_addPoint 2 := ⟨List.mem_of_getElem? (i := 399) (by decide +kernel), it_X9, ⟨by decide +kernel, by decide +kernel, by decide +kernel⟩, Nat.le_of_ble_eq_true rfl⟩
theorem im_X9_addPoint : Cond.instanceMethod mX9_addPoint.1 ∈ lw_tbl := List.mem_of_getElem? (i := 397) (by decide +kernel)
theorem se_X9_addPoint : Cond.selects mX9_addPoint.1.cls mX9_addPoint.1 mX9_addPoint.1 ∈ lw_tbl := List.mem_of_getElem? (i := 398) (by decide +kernel)
theorem mk_X9_fractionOf : ab_mk mX9_fractionOf 1 := ⟨List.mem_of_getElem? (i := 403) (by decide +kernel), it_X9, ⟨by decide +kernel, by decide +kernel, by decide +kernel⟩, Nat.le_of_ble_eq_true rfl⟩
theorem st_X9_fractionOf : Cond.static mX9_fractionOf.1 ∈ lw_tbl := List.mem_of_getElem? (i := 402) (by decide +kernel)
theorem mk_X9_addTriangle : ab_mk mX9_addTriangle 4 := ⟨List.mem_of_getElem? (i := 446) (by decide +kernel), it_X9, ⟨by decide +kernel, by decide +kernel, by decide +kernel⟩, Nat.le_of_ble_eq_true rfl⟩
theorem im_X9_addTriangle : Cond.instanceMethod mX9_addTriangle.1 ∈ lw_tbl := List.mem_of_getElem? (i := 444) (by decide +kernel)
theorem se_X9_addTriangle : Cond.selects mX9_addTriangle.1.cls mX9_addTriangle.1 mX9_addTriangle.1 ∈ lw_tbl := List.mem_of_getElem? (i := 445) (by decide +kernel)
theorem mk_X9_isIn : ab_mk mX9_isIn 2 := ⟨List.mem_of_getElem? (i := 743) (by decide +kernel), it_X9, ⟨by decide +kernel, by decide +kernel, by decide +kernel⟩, Nat.le_of_ble_eq_true rfl⟩
theorem im_X9_isIn : Cond.instanceMethod mX9_isIn.1 ∈ lw_tbl := List.mem_of_getElem? (i := 742) (by decide +kernel)
theorem se_X9_isIn : Cond.selects mX9_isIn.1.cls mX9_isIn.1 mX9_isIn.1 ∈ lw_tbl := List.mem_of_getElem? (i := 14) (by decide +kernel)
theorem mk_X9_exactSum : ab_mk mX9_exactSum 1 := ⟨List.mem_of_getElem? (i := 739) (by decide +kernel), it_X9, ⟨by decide +kernel, by decide +kernel, by decide +kernel⟩, Nat.le_of_ble_eq_true rfl⟩
theorem im_X9_exactSum : Cond.instanceMethod mX9_exactSum.1 ∈ lw_tbl := List.mem_of_getElem? (i := 737) (by decide +kernel)
theorem se_X9_exactSum : Cond.selects mX9_exactSum.1.cls mX9_exactSum.1 mX9_exactSum.1 ∈ lw_tbl := List.mem_of_getElem? (i := 738) (by decide +kernel)
theorem mk_X9_evenOnes : ab_mk mX9_evenOnes 1 := ⟨List.mem_of_getElem? (i := 760) (by decide +kernel), it_X9, ⟨by decide +kernel, by decide +kernel, by decide +kernel⟩, Nat.le_of_ble_eq_true rfl⟩
theorem im_X9_evenOnes : Cond.instanceMethod mX9_evenOnes.1 ∈ lw_tbl := List.mem_of_getElem? (i := 758) (by decide +kernel)
theorem se_X9_evenOnes : Cond.selects mX9_evenOnes.1.cls mX9_evenOnes.1 mX9_evenOnes.1 ∈ lw_tbl := List.mem_of_getElem? (i := 759) (by decide +kernel)
theorem mk_X9_rainbows : ab_mk mX9_rainbows 1 := ⟨List.mem_of_getElem? (i := 765) (by decide +kernel), it_X9, ⟨by decide +kernel, by decide +kernel, by decide +kernel⟩, Nat.le_of_ble_eq_true rfl⟩
theorem im_X9_rainbows : Cond.instanceMethod mX9_rainbows.1 ∈ lw_tbl := List.mem_of_getElem? (i := 763) (by decide +kernel)
theorem se_X9_rainbows : Cond.selects mX9_rainbows.1.cls mX9_rainbows.1 mX9_rainbows.1 ∈ lw_tbl := List.mem_of_getElem? (i := 764) (by decide +kernel)
theorem mk_X9_areAlike : ab_mk mX9_areAlike 1 := ⟨List.mem_of_getElem? (i := 770) (by decide +kernel), it_X9, ⟨by decide +kernel, by decide +kernel, by decide +kernel⟩, Nat.le_of_ble_eq_true rfl⟩
theorem im_X9_areAlike : Cond.instanceMethod mX9_areAlike.1 ∈ lw_tbl := List.mem_of_getElem? (i := 768) (by decide +kernel)
theorem se_X9_areAlike : Cond.selects mX9_areAlike.1.cls mX9_areAlike.1 mX9_areAlike.1 ∈ lw_tbl := List.mem_of_getElem? (i := 769) (by decide +kernel)
theorem mk_X9_floatSum : ab_mk mX9_floatSum 1 := ⟨List.mem_of_getElem? (i := 795) (by decide +kernel), it_X9, ⟨by decide +kernel, by decide +kernel, by decide +kernel⟩, Nat.le_of_ble_eq_true rfl⟩
theorem im_X9_floatSum : Cond.instanceMethod mX9_floatSum.1 ∈ lw_tbl := List.mem_of_getElem? (i := 793) (by decide +kernel)
theorem se_X9_floatSum : Cond.selects mX9_floatSum.1.cls mX9_floatSum.1 mX9_floatSum.1 ∈ lw_tbl := List.mem_of_getElem? (i := 794) (by decide +kernel)
theorem mk_X9_doubleSum : ab_mk mX9_doubleSum 1 := ⟨List.mem_of_getElem? (i := 805) (by decide +kernel), it_X9, ⟨by decide +kernel, by decide +kernel, by decide +kernel⟩, Nat.le_of_ble_eq_true rfl⟩
theorem im_X9_doubleSum : Cond.instanceMethod mX9_doubleSum.1 ∈ lw_tbl := List.mem_of_getElem? (i := 803) (by decide +kernel)
theorem se_X9_doubleSum : Cond.selects mX9_doubleSum.1.cls mX9_doubleSum.1 mX9_doubleSum.1 ∈ lw_tbl := List.mem_of_getElem? (i := 804) (by decide +kernel)
theorem mk_X10_init : ab_mk mX10_init 6 := ⟨List.mem_of_getElem? (i := 488) (by decide +kernel), it_X10, ⟨by decide +kernel, by decide +kernel, by decide +kernel⟩, Nat.le_of_ble_eq_true rfl⟩
theorem im_X10_init : Cond.instanceMethod mX10_init.1 ∈ lw_tbl := List.mem_of_getElem? (i := 487) (by decide +kernel)
theorem mk_X10_lyingOn : ab_mk mX10_lyingOn 5 := ⟨List.mem_of_getElem? (i := 450) (by decide +kernel), it_X10, ⟨by decide +kernel, by decide +kernel, by decide +kernel⟩, Nat.le_of_ble_eq_true rfl⟩
theorem st_X10_lyingOn : Cond.static mX10_lyingOn.1 ∈ lw_tbl := List.mem_of_getElem? (i := 449) (by decide +kernel)
theorem mk_X10_isKind : ab_mk mX10_isKind 1 := ⟨List.mem_of_getElem? (i := 379) (by decide +kernel), it_X10, ⟨by decide +kernel, by decide +kernel, by decide +kernel⟩, Nat.le_of_ble_eq_true rfl⟩
theorem st_X10_isKind : Cond.static mX10_isKind.1 ∈ lw_tbl := List.mem_of_getElem? (i := 378) (by decide +kernel)
theorem mk_X10_isUnder : ab_mk mX10_isUnder 2 := ⟨List.mem_of_getElem? (i := 453) (by decide +kernel), it_X10, ⟨by decide +kernel, by decide +kernel, by decide +kernel⟩, Nat.le_of_ble_eq_true rfl⟩
theorem st_X10_isUnder : Cond.static mX10_isUnder.1 ∈ lw_tbl := List.mem_of_getElem? (i := 452) (by decide +kernel)
theorem mk_X10_isRainbow : ab_mk mX10_isRainbow 0 := ⟨List.mem_of_getElem? (i := 723) (by decide +kernel), it_X10, ⟨by decide +kernel, by decide +kernel, by decide +kernel⟩, Nat.le_of_ble_eq_true rfl⟩
theorem im_X10_isRainbow : Cond.instanceMethod mX10_isRainbow.1 ∈ lw_tbl := List.mem_of_getElem? (i := 721) (by decide +kernel)
theorem se_X10_isRainbow : Cond.selects mX10_isRainbow.1.cls mX10_isRainbow.1 mX10_isRainbow.1 ∈ lw_tbl := List.mem_of_getElem? (i := 722) (by decide +kernel)
theorem mk_X11_init : ab_mk mX11_init 0 := ⟨List.mem_of_getElem? (i := 81) (by decide +kernel), it_X11, ⟨by decide +kernel, by decide +kernel, by decide +kernel⟩, Nat.le_of_ble_eq_true rfl⟩
theorem im_X11_init : Cond.instanceMethod mX11_init.1 ∈ lw_tbl := List.mem_of_getElem? (i := 80) (by decide +kernel)
theorem mk_X11_letter : ab_mk mX11_letter 1 := ⟨List.mem_of_getElem? (i := 319) (by decide +kernel), it_X11, ⟨by decide +kernel, by decide +kernel, by decide +kernel⟩, Nat.le_of_ble_eq_true rfl⟩
theorem im_X11_letter : Cond.instanceMethod mX11_letter.1 ∈ lw_tbl := List.mem_of_getElem? (i := 317) (by decide +kernel)
theorem se_X11_letter : Cond.selects mX11_letter.1.cls mX11_letter.1 mX11_letter.1 ∈ lw_tbl := List.mem_of_getElem? (i := 318) (by decide +kernel)
theorem mk_X11_text : ab_mk mX11_text 0 := ⟨List.mem_of_getElem? (i := 335) (by decide +kernel), it_X11, ⟨by decide +kernel, by decide +kernel, by decide +kernel⟩, Nat.le_of_ble_eq_true rfl⟩
theorem im_X11_text : Cond.instanceMethod mX11_text.1 ∈ lw_tbl := List.mem_of_getElem? (i := 333) (by decide +kernel)
theorem se_X11_text : Cond.selects mX11_text.1.cls mX11_text.1 mX11_text.1 ∈ lw_tbl := List.mem_of_getElem? (i := 334) (by decide +kernel)
theorem mk_X11_board : ab_mk mX11_board 3 := ⟨List.mem_of_getElem? (i := 524) (by decide +kernel), it_X11, ⟨by decide +kernel, by decide +kernel, by decide +kernel⟩, Nat.le_of_ble_eq_true rfl⟩
theorem im_X11_board : Cond.instanceMethod mX11_board.1 ∈ lw_tbl := List.mem_of_getElem? (i := 522) (by decide +kernel)
theorem se_X11_board : Cond.selects mX11_board.1.cls mX11_board.1 mX11_board.1 ∈ lw_tbl := List.mem_of_getElem? (i := 523) (by decide +kernel)
theorem mk_X11_piece : ab_mk mX11_piece 2 := ⟨List.mem_of_getElem? (i := 528) (by decide +kernel), it_X11, ⟨by decide +kernel, by decide +kernel, by decide +kernel⟩, Nat.le_of_ble_eq_true rfl⟩
theorem im_X11_piece : Cond.instanceMethod mX11_piece.1 ∈ lw_tbl := List.mem_of_getElem? (i := 526) (by decide +kernel)
theorem se_X11_piece : Cond.selects mX11_piece.1.cls mX11_piece.1 mX11_piece.1 ∈ lw_tbl := List.mem_of_getElem? (i := 527) (by decide +kernel)
theorem mk_X11_of : ab_mk mX11_of 2 := ⟨List.mem_of_getElem? (i := 537) (by decide +kernel), it_X11, ⟨by decide +kernel, by decide +kernel, by decide +kernel⟩, Nat.le_of_ble_eq_true rfl⟩
theorem im_X11_of : Cond.instanceMethod mX11_of.1 ∈ lw_tbl := List.mem_of_getElem? (i := 535) (by decide +kernel)
theorem se_X11_of : Cond.selects mX11_of.1.cls mX11_of.1 mX11_of.1 ∈ lw_tbl := List.mem_of_getElem? (i := 536) (by decide +kernel)
theorem mk_X11_within : ab_mk mX11_within 4 := ⟨List.mem_of_getElem? (i := 575) (by decide +kernel), it_X11, ⟨by decide +kernel, by decide +kernel, by decide +kernel⟩, Nat.le_of_ble_eq_true rfl⟩
theorem im_X11_within : Cond.instanceMethod mX11_within.1 ∈ lw_tbl := List.mem_of_getElem? (i := 573) (by decide +kernel)
theorem se_X11_within : Cond.selects mX11_within.1.cls mX11_within.1 mX11_within.1 ∈ lw_tbl := List.mem_of_getElem? (i := 574) (by decide +kernel)
theorem mk_X11_pieces : ab_mk mX11_pieces 1 := ⟨List.mem_of_getElem? (i := 583) (by decide +kernel), it_X11, ⟨by decide +kernel, by decide +kernel, by decide +kernel⟩, Nat.le_of_ble_eq_true rfl⟩
theorem im_X11_pieces : Cond.instanceMethod mX11_pieces.1 ∈ lw_tbl := List.mem_of_getElem? (i := 581) (by decide +kernel)
theorem se_X11_pieces : Cond.selects mX11_pieces.1.cls mX11_pieces.1 mX11_pieces.1 ∈ lw_tbl := List.mem_of_getElem? (i := 582) (by decide +kernel)
theorem mk_X11_odds : ab_mk mX11_odds 2 := ⟨List.mem_of_getElem? (i := 596) (by decide +kernel), it_X11, ⟨by decide +kernel, by decide +kernel, by decide +kernel⟩, Nat.le_of_ble_eq_true rfl⟩
theorem im_X11_odds : Cond.instanceMethod mX11_odds.1 ∈ lw_tbl := List.mem_of_getElem? (i := 594) (by decide +kernel)
theorem se_X11_odds : Cond.selects mX11_odds.1.cls mX11_odds.1 mX11_odds.1 ∈ lw_tbl := List.mem_of_getElem? (i := 595) (by decide +kernel)
theorem mk_X11_rule : ab_mk mX11_rule 3 := ⟨List.mem_of_getElem? (i := 618) (by decide +kernel), it_X11, ⟨by decide +kernel, by decide +kernel, by decide +kernel⟩, Nat.le_of_ble_eq_true rfl⟩
theorem im_X11_rule : Cond.instanceMethod mX11_rule.1 ∈ lw_tbl := List.mem_of_getElem? (i := 616) (by decide +kernel)
theorem se_X11_rule : Cond.selects mX11_rule.1.cls mX11_rule.1 mX11_rule.1 ∈ lw_tbl := List.mem_of_getElem? (i := 617) (by decide +kernel)
theorem mk_X11_behind : ab_mk mX11_behind 3 := ⟨List.mem_of_getElem? (i := 626) (by decide +kernel), it_X11, ⟨by decide +kernel, by decide +kernel, by decide +kernel⟩, Nat.le_of_ble_eq_true rfl⟩
theorem im_X11_behind : Cond.instanceMethod mX11_behind.1 ∈ lw_tbl := List.mem_of_getElem? (i := 624) (by decide +kernel)
theorem se_X11_behind : Cond.selects mX11_behind.1.cls mX11_behind.1 mX11_behind.1 ∈ lw_tbl := List.mem_of_getElem? (i := 625) (by decide +kernel)
theorem mk_X11_address : ab_mk mX11_address 3 := ⟨List.mem_of_getElem? (i := 646) (by decide +kernel), it_X11, ⟨by decide +kernel, by decide +kernel, by decide +kernel⟩, Nat.le_of_ble_eq_true rfl⟩
theorem im_X11_address : Cond.instanceMethod mX11_address.1 ∈ lw_tbl := List.mem_of_getElem? (i := 644) (by decide +kernel)
theorem se_X11_address : Cond.selects mX11_address.1.cls mX11_address.1 mX11_address.1 ∈ lw_tbl := List.mem_of_getElem? (i := 645) (by decide +kernel)
theorem mk_X11_meet : ab_mk mX11_meet 3 := ⟨List.mem_of_getElem? (i := 654) (by decide +kernel), it_X11, ⟨by decide +kernel, by decide +kernel, by decide +kernel⟩, Nat.le_of_ble_eq_true rfl⟩
theorem im_X11_meet : Cond.instanceMethod mX11_meet.1 ∈ lw_tbl := List.mem_of_getElem? (i := 652) (by decide +kernel)
theorem se_X11_meet : Cond.selects mX11_meet.1.cls mX11_meet.1 mX11_meet.1 ∈ lw_tbl := List.mem_of_getElem? (i := 653) (by decide +kernel)
theorem mk_X11_steady : ab_mk mX11_steady 1 := ⟨List.mem_of_getElem? (i := 666) (by decide +kernel), it_X11, ⟨by decide +kernel, by decide +kernel, by decide +kernel⟩, Nat.le_of_ble_eq_true rfl⟩
theorem im_X11_steady : Cond.instanceMethod mX11_steady.1 ∈ lw_tbl := List.mem_of_getElem? (i := 664) (by decide +kernel)
theorem se_X11_steady : Cond.selects mX11_steady.1.cls mX11_steady.1 mX11_steady.1 ∈ lw_tbl := List.mem_of_getElem? (i := 665) (by decide +kernel)
theorem mk_X11_falls : ab_mk mX11_falls 1 := ⟨List.mem_of_getElem? (i := 678) (by decide +kernel), it_X11, ⟨by decide +kernel, by decide +kernel, by decide +kernel⟩, Nat.le_of_ble_eq_true rfl⟩
theorem im_X11_falls : Cond.instanceMethod mX11_falls.1 ∈ lw_tbl := List.mem_of_getElem? (i := 676) (by decide +kernel)
theorem se_X11_falls : Cond.selects mX11_falls.1.cls mX11_falls.1 mX11_falls.1 ∈ lw_tbl := List.mem_of_getElem? (i := 677) (by decide +kernel)
theorem mk_X11_lots : ab_mk mX11_lots 4 := ⟨List.mem_of_getElem? (i := 686) (by decide +kernel), it_X11, ⟨by decide +kernel, by decide +kernel, by decide +kernel⟩, Nat.le_of_ble_eq_true rfl⟩
theorem im_X11_lots : Cond.instanceMethod mX11_lots.1 ∈ lw_tbl := List.mem_of_getElem? (i := 684) (by decide +kernel)
theorem se_X11_lots : Cond.selects mX11_lots.1.cls mX11_lots.1 mX11_lots.1 ∈ lw_tbl := List.mem_of_getElem? (i := 685) (by decide +kernel)
theorem mk_X11_point : ab_mk mX11_point 2 := ⟨List.mem_of_getElem? (i := 697) (by decide +kernel), it_X11, ⟨by decide +kernel, by decide +kernel, by decide +kernel⟩, Nat.le_of_ble_eq_true rfl⟩
theorem im_X11_point : Cond.instanceMethod mX11_point.1 ∈ lw_tbl := List.mem_of_getElem? (i := 695) (by decide +kernel)
theorem se_X11_point : Cond.selects mX11_point.1.cls mX11_point.1 mX11_point.1 ∈ lw_tbl := List.mem_of_getElem? (i := 696) (by decide +kernel)
theorem mk_X11_colour : ab_mk mX11_colour 2 := ⟨List.mem_of_getElem? (i := 701) (by decide +kernel), it_X11, ⟨by decide +kernel, by decide +kernel, by decide +kernel⟩, Nat.le_of_ble_eq_true rfl⟩
theorem im_X11_colour : Cond.instanceMethod mX11_colour.1 ∈ lw_tbl := List.mem_of_getElem? (i := 699) (by decide +kernel)
theorem se_X11_colour : Cond.selects mX11_colour.1.cls mX11_colour.1 mX11_colour.1 ∈ lw_tbl := List.mem_of_getElem? (i := 700) (by decide +kernel)
theorem mk_X11_triangle : ab_mk mX11_triangle 4 := ⟨List.mem_of_getElem? (i := 711) (by decide +kernel), it_X11, ⟨by decide +kernel, by decide +kernel, by decide +kernel⟩, Nat.le_of_ble_eq_true rfl⟩
theorem im_X11_triangle : Cond.instanceMethod mX11_triangle.1 ∈ lw_tbl := List.mem_of_getElem? (i := 709) (by decide +kernel)
theorem se_X11_triangle : Cond.selects mX11_triangle.1.cls mX11_triangle.1 mX11_triangle.1 ∈ lw_tbl := List.mem_of_getElem? (i := 710) (by decide +kernel)
theorem mk_X11_tri : ab_mk mX11_tri 2 := ⟨List.mem_of_getElem? (i := 715) (by decide +kernel), it_X11, ⟨by decide +kernel, by decide +kernel, by decide +kernel⟩, Nat.le_of_ble_eq_true rfl⟩
theorem im_X11_tri : Cond.instanceMethod mX11_tri.1 ∈ lw_tbl := List.mem_of_getElem? (i := 713) (by decide +kernel)
theorem se_X11_tri : Cond.selects mX11_tri.1.cls mX11_tri.1 mX11_tri.1 ∈ lw_tbl := List.mem_of_getElem? (i := 714) (by decide +kernel)
theorem mk_X11_area : ab_mk mX11_area 2 := ⟨List.mem_of_getElem? (i := 727) (by decide +kernel), it_X11, ⟨by decide +kernel, by decide +kernel, by decide +kernel⟩, Nat.le_of_ble_eq_true rfl⟩
theorem im_X11_area : Cond.instanceMethod mX11_area.1 ∈ lw_tbl := List.mem_of_getElem? (i := 725) (by decide +kernel)
theorem se_X11_area : Cond.selects mX11_area.1.cls mX11_area.1 mX11_area.1 ∈ lw_tbl := List.mem_of_getElem? (i := 726) (by decide +kernel)
theorem mk_X11_sum : ab_mk mX11_sum 2 := ⟨List.mem_of_getElem? (i := 731) (by decide +kernel), it_X11, ⟨by decide +kernel, by decide +kernel, by decide +kernel⟩, Nat.le_of_ble_eq_true rfl⟩
theorem im_X11_sum : Cond.instanceMethod mX11_sum.1 ∈ lw_tbl := List.mem_of_getElem? (i := 729) (by decide +kernel)
theorem se_X11_sum : Cond.selects mX11_sum.1.cls mX11_sum.1 mX11_sum.1 ∈ lw_tbl := List.mem_of_getElem? (i := 730) (by decide +kernel)
theorem mk_X11_even : ab_mk mX11_even 2 := ⟨List.mem_of_getElem? (i := 756) (by decide +kernel), it_X11, ⟨by decide +kernel, by decide +kernel, by decide +kernel⟩, Nat.le_of_ble_eq_true rfl⟩
theorem im_X11_even : Cond.instanceMethod mX11_even.1 ∈ lw_tbl := List.mem_of_getElem? (i := 754) (by decide +kernel)
theorem se_X11_even : Cond.selects mX11_even.1.cls mX11_even.1 mX11_even.1 ∈ lw_tbl := List.mem_of_getElem? (i := 755) (by decide +kernel)
theorem mk_X11_bits : ab_mk mX11_bits 1 := ⟨List.mem_of_getElem? (i := 778) (by decide +kernel), it_X11, ⟨by decide +kernel, by decide +kernel, by decide +kernel⟩, Nat.le_of_ble_eq_true rfl⟩
theorem im_X11_bits : Cond.instanceMethod mX11_bits.1 ∈ lw_tbl := List.mem_of_getElem? (i := 776) (by decide +kernel)
theorem se_X11_bits : Cond.selects mX11_bits.1.cls mX11_bits.1 mX11_bits.1 ∈ lw_tbl := List.mem_of_getElem? (i := 777) (by decide +kernel)
theorem mk_X11_bitsOf : ab_mk mX11_bitsOf 2 := ⟨List.mem_of_getElem? (i := 791) (by decide +kernel), it_X11, ⟨by decide +kernel, by decide +kernel, by decide +kernel⟩, Nat.le_of_ble_eq_true rfl⟩
theorem im_X11_bitsOf : Cond.instanceMethod mX11_bitsOf.1 ∈ lw_tbl := List.mem_of_getElem? (i := 789) (by decide +kernel)
theorem se_X11_bitsOf : Cond.selects mX11_bitsOf.1.cls mX11_bitsOf.1 mX11_bitsOf.1 ∈ lw_tbl := List.mem_of_getElem? (i := 790) (by decide +kernel)
theorem mk_X11_longBits : ab_mk mX11_longBits 1 := ⟨List.mem_of_getElem? (i := 801) (by decide +kernel), it_X11, ⟨by decide +kernel, by decide +kernel, by decide +kernel⟩, Nat.le_of_ble_eq_true rfl⟩
theorem im_X11_longBits : Cond.instanceMethod mX11_longBits.1 ∈ lw_tbl := List.mem_of_getElem? (i := 799) (by decide +kernel)
theorem se_X11_longBits : Cond.selects mX11_longBits.1.cls mX11_longBits.1 mX11_longBits.1 ∈ lw_tbl := List.mem_of_getElem? (i := 800) (by decide +kernel)
theorem mk_X11_rack : ab_mk mX11_rack 3 := ⟨List.mem_of_getElem? (i := 820) (by decide +kernel), it_X11, ⟨by decide +kernel, by decide +kernel, by decide +kernel⟩, Nat.le_of_ble_eq_true rfl⟩
theorem im_X11_rack : Cond.instanceMethod mX11_rack.1 ∈ lw_tbl := List.mem_of_getElem? (i := 818) (by decide +kernel)
theorem se_X11_rack : Cond.selects mX11_rack.1.cls mX11_rack.1 mX11_rack.1 ∈ lw_tbl := List.mem_of_getElem? (i := 819) (by decide +kernel)
theorem mk_X11_racks : ab_mk mX11_racks 3 := ⟨List.mem_of_getElem? (i := 831) (by decide +kernel), it_X11, ⟨by decide +kernel, by decide +kernel, by decide +kernel⟩, Nat.le_of_ble_eq_true rfl⟩
theorem im_X11_racks : Cond.instanceMethod mX11_racks.1 ∈ lw_tbl := List.mem_of_getElem? (i := 829) (by decide +kernel)
theorem se_X11_racks : Cond.selects mX11_racks.1.cls mX11_racks.1 mX11_racks.1 ∈ lw_tbl := List.mem_of_getElem? (i := 830) (by decide +kernel)
theorem mk_X11_racked : ab_mk mX11_racked 3 := ⟨List.mem_of_getElem? (i := 848) (by decide +kernel), it_X11, ⟨by decide +kernel, by decide +kernel, by decide +kernel⟩, Nat.le_of_ble_eq_true rfl⟩
theorem im_X11_racked : Cond.instanceMethod mX11_racked.1 ∈ lw_tbl := List.mem_of_getElem? (i := 846) (by decide +kernel)
theorem se_X11_racked : Cond.selects mX11_racked.1.cls mX11_racked.1 mX11_racked.1 ∈ lw_tbl := List.mem_of_getElem? (i := 847) (by decide +kernel)
theorem mk_X11_like : ab_mk mX11_like 2 := ⟨List.mem_of_getElem? (i := 852) (by decide +kernel), it_X11, ⟨by decide +kernel, by decide +kernel, by decide +kernel⟩, Nat.le_of_ble_eq_true rfl⟩
theorem im_X11_like : Cond.instanceMethod mX11_like.1 ∈ lw_tbl := List.mem_of_getElem? (i := 850) (by decide +kernel)
theorem se_X11_like : Cond.selects mX11_like.1.cls mX11_like.1 mX11_like.1 ∈ lw_tbl := List.mem_of_getElem? (i := 851) (by decide +kernel)
theorem mk_X11_list : ab_mk mX11_list 2 := ⟨List.mem_of_getElem? (i := 860) (by decide +kernel), it_X11, ⟨by decide +kernel, by decide +kernel, by decide +kernel⟩, Nat.le_of_ble_eq_true rfl⟩
theorem im_X11_list : Cond.instanceMethod mX11_list.1 ∈ lw_tbl := List.mem_of_getElem? (i := 858) (by decide +kernel)
theorem se_X11_list : Cond.selects mX11_list.1.cls mX11_list.1 mX11_list.1 ∈ lw_tbl := List.mem_of_getElem? (i := 859) (by decide +kernel)
theorem mk_X11_put : ab_mk mX11_put 3 := ⟨List.mem_of_getElem? (i := 868) (by decide +kernel), it_X11, ⟨by decide +kernel, by decide +kernel, by decide +kernel⟩, Nat.le_of_ble_eq_true rfl⟩
theorem im_X11_put : Cond.instanceMethod mX11_put.1 ∈ lw_tbl := List.mem_of_getElem? (i := 866) (by decide +kernel)
theorem se_X11_put : Cond.selects mX11_put.1.cls mX11_put.1 mX11_put.1 ∈ lw_tbl := List.mem_of_getElem? (i := 867) (by decide +kernel)
theorem mk_X11_look : ab_mk mX11_look 2 := ⟨List.mem_of_getElem? (i := 880) (by decide +kernel), it_X11, ⟨by decide +kernel, by decide +kernel, by decide +kernel⟩, Nat.le_of_ble_eq_true rfl⟩
theorem im_X11_look : Cond.instanceMethod mX11_look.1 ∈ lw_tbl := List.mem_of_getElem? (i := 878) (by decide +kernel)
theorem se_X11_look : Cond.selects mX11_look.1.cls mX11_look.1 mX11_look.1 ∈ lw_tbl := List.mem_of_getElem? (i := 879) (by decide +kernel)
theorem mk_X11_judge : ab_mk mX11_judge 1 := ⟨List.mem_of_getElem? (i := 886) (by decide +kernel), it_X11, ⟨by decide +kernel, by decide +kernel, by decide +kernel⟩, Nat.le_of_ble_eq_true rfl⟩
theorem im_X11_judge : Cond.instanceMethod mX11_judge.1 ∈ lw_tbl := List.mem_of_getElem? (i := 884) (by decide +kernel)
theorem se_X11_judge : Cond.selects mX11_judge.1.cls mX11_judge.1 mX11_judge.1 ∈ lw_tbl := List.mem_of_getElem? (i := 885) (by decide +kernel)
theorem mk_X11_image : ab_mk mX11_image 0 := ⟨List.mem_of_getElem? (i := 890) (by decide +kernel), it_X11, ⟨by decide +kernel, by decide +kernel, by decide +kernel⟩, Nat.le_of_ble_eq_true rfl⟩
theorem im_X11_image : Cond.instanceMethod mX11_image.1 ∈ lw_tbl := List.mem_of_getElem? (i := 888) (by decide +kernel)
theorem se_X11_image : Cond.selects mX11_image.1.cls mX11_image.1 mX11_image.1 ∈ lw_tbl := List.mem_of_getElem? (i := 889) (by decide +kernel)
theorem mk_X11_on : ab_mk mX11_on 0 := ⟨List.mem_of_getElem? (i := 906) (by decide +kernel), it_X11, ⟨by decide +kernel, by decide +kernel, by decide +kernel⟩, Nat.le_of_ble_eq_true rfl⟩
theorem im_X11_on : Cond.instanceMethod mX11_on.1 ∈ lw_tbl := List.mem_of_getElem? (i := 904) (by decide +kernel)
theorem se_X11_on : Cond.selects mX11_on.1.cls mX11_on.1 mX11_on.1 ∈ lw_tbl := List.mem_of_getElem? (i := 905) (by decide +kernel)
theorem mk_X11_count : ab_mk mX11_count 1 := ⟨List.mem_of_getElem? (i := 915) (by decide +kernel), it_X11, ⟨by decide +kernel, by decide +kernel, by decide +kernel⟩, Nat.le_of_ble_eq_true rfl⟩
theorem im_X11_count : Cond.instanceMethod mX11_count.1 ∈ lw_tbl := List.mem_of_getElem? (i := 913) (by decide +kernel)
theorem se_X11_count : Cond.selects mX11_count.1.cls mX11_count.1 mX11_count.1 ∈ lw_tbl := List.mem_of_getElem? (i := 914) (by decide +kernel)
theorem mk_X11_refuse : ab_mk mX11_refuse 1 := ⟨List.mem_of_getElem? (i := 323) (by decide +kernel), it_X11, ⟨by decide +kernel, by decide +kernel, by decide +kernel⟩, Nat.le_of_ble_eq_true rfl⟩
theorem im_X11_refuse : Cond.instanceMethod mX11_refuse.1 ∈ lw_tbl := List.mem_of_getElem? (i := 322) (by decide +kernel)
theorem se_X11_refuse : Cond.selects mX11_refuse.1.cls mX11_refuse.1 mX11_refuse.1 ∈ lw_tbl := List.mem_of_getElem? (i := 1) (by decide +kernel)
theorem mk_X11_refuseFar : ab_mk mX11_refuseFar 1 := ⟨List.mem_of_getElem? (i := 603) (by decide +kernel), it_X11, ⟨by decide +kernel, by decide +kernel, by decide +kernel⟩, Nat.le_of_ble_eq_true rfl⟩
theorem im_X11_refuseFar : Cond.instanceMethod mX11_refuseFar.1 ∈ lw_tbl := List.mem_of_getElem? (i := 602) (by decide +kernel)
theorem se_X11_refuseFar : Cond.selects mX11_refuseFar.1.cls mX11_refuseFar.1 mX11_refuseFar.1 ∈ lw_tbl := List.mem_of_getElem? (i := 9) (by decide +kernel)
theorem mk_X11_isWay : ab_mk mX11_isWay 1 := ⟨List.mem_of_getElem? (i := 376) (by decide +kernel), it_X11, ⟨by decide +kernel, by decide +kernel, by decide +kernel⟩, Nat.le_of_ble_eq_true rfl⟩
theorem st_X11_isWay : Cond.static mX11_isWay.1 ∈ lw_tbl := List.mem_of_getElem? (i := 375) (by decide +kernel)
theorem mk_X11_isPartOfFraction : ab_mk mX11_isPartOfFraction 1 := ⟨List.mem_of_getElem? (i := 599) (by decide +kernel), it_X11, ⟨by decide +kernel, by decide +kernel, by decide +kernel⟩, Nat.le_of_ble_eq_true rfl⟩
theorem st_X11_isPartOfFraction : Cond.static mX11_isPartOfFraction.1 ∈ lw_tbl := List.mem_of_getElem? (i := 598) (by decide +kernel)
theorem mk_X11_isRow : ab_mk mX11_isRow 1 := ⟨List.mem_of_getElem? (i := 823) (by decide +kernel), it_X11, ⟨by decide +kernel, by decide +kernel, by decide +kernel⟩, Nat.le_of_ble_eq_true rfl⟩
theorem st_X11_isRow : Cond.static mX11_isRow.1 ∈ lw_tbl := List.mem_of_getElem? (i := 822) (by decide +kernel)
theorem mk_X11_faultOfLetters : ab_mk mX11_faultOfLetters 0 := ⟨List.mem_of_getElem? (i := 339) (by decide +kernel), it_X11, ⟨by decide +kernel, by decide +kernel, by decide +kernel⟩, Nat.le_of_ble_eq_true rfl⟩
theorem im_X11_faultOfLetters : Cond.instanceMethod mX11_faultOfLetters.1 ∈ lw_tbl := List.mem_of_getElem? (i := 338) (by decide +kernel)
theorem se_X11_faultOfLetters : Cond.selects mX11_faultOfLetters.1.cls mX11_faultOfLetters.1 mX11_faultOfLetters.1 ∈ lw_tbl := List.mem_of_getElem? (i := 2) (by decide +kernel)
theorem mk_X11_canBe : ab_mk mX11_canBe 3 := ⟨List.mem_of_getElem? (i := 358) (by decide +kernel), it_X11, ⟨by decide +kernel, by decide +kernel, by decide +kernel⟩, Nat.le_of_ble_eq_true rfl⟩
theorem im_X11_canBe : Cond.instanceMethod mX11_canBe.1 ∈ lw_tbl := List.mem_of_getElem? (i := 357) (by decide +kernel)
theorem se_X11_canBe : Cond.selects mX11_canBe.1.cls mX11_canBe.1 mX11_canBe.1 ∈ lw_tbl := List.mem_of_getElem? (i := 4) (by decide +kernel)
theorem mk_X11_areWays : ab_mk mX11_areWays 2 := ⟨List.mem_of_getElem? (i := 373) (by decide +kernel), it_X11, ⟨by decide +kernel, by decide +kernel, by decide +kernel⟩, Nat.le_of_ble_eq_true rfl⟩
theorem im_X11_areWays : Cond.instanceMethod mX11_areWays.1 ∈ lw_tbl := List.mem_of_getElem? (i := 372) (by decide +kernel)
theorem se_X11_areWays : Cond.selects mX11_areWays.1.cls mX11_areWays.1 mX11_areWays.1 ∈ lw_tbl := List.mem_of_getElem? (i := 5) (by decide +kernel)
theorem mk_X11_runStatement : ab_mk mX11_runStatement 1 := ⟨List.mem_of_getElem? (i := 386) (by decide +kernel), it_X11, ⟨by decide +kernel, by decide +kernel, by decide +kernel⟩, Nat.le_of_ble_eq_true rfl⟩
theorem im_X11_runStatement : Cond.instanceMethod mX11_runStatement.1 ∈ lw_tbl := List.mem_of_getElem? (i := 385) (by decide +kernel)
theorem se_X11_runStatement : Cond.selects mX11_runStatement.1.cls mX11_runStatement.1 mX11_runStatement.1 ∈ lw_tbl := List.mem_of_getElem? (i := 6) (by decide +kernel)
theorem mk_X12_refused : ab_mk mX12_refused 1 := ⟨List.mem_of_getElem? (i := 1075) (by decide +kernel), it_X12, ⟨by decide +kernel, by decide +kernel, by decide +kernel⟩, Nat.le_of_ble_eq_true rfl⟩
theorem im_X12_refused : Cond.instanceMethod mX12_refused.1 ∈ lw_tbl := List.mem_of_getElem? (i := 1074) (by decide +kernel)
theorem se_X12_refused : Cond.selects mX12_refused.1.cls mX12_refused.1 mX12_refused.1 ∈ lw_tbl := List.mem_of_getElem? (i := 19) (by decide +kernel)
theorem mk_X12_refusedFar : ab_mk mX12_refusedFar 1 := ⟨List.mem_of_getElem? (i := 1140) (by decide +kernel), it_X12, ⟨by decide +kernel, by decide +kernel, by decide +kernel⟩, Nat.le_of_ble_eq_true rfl⟩
theorem im_X12_refusedFar : Cond.instanceMethod mX12_refusedFar.1 ∈ lw_tbl := List.mem_of_getElem? (i := 1139) (by decide +kernel)
theorem se_X12_refusedFar : Cond.selects mX12_refusedFar.1.cls mX12_refusedFar.1 mX12_refusedFar.1 ∈ lw_tbl := List.mem_of_getElem? (i := 28) (by decide +kernel)
theorem mk_X12_isIn : ab_mk mX12_isIn 3 := ⟨List.mem_of_getElem? (i := 1078) (by decide +kernel), it_X12, ⟨by decide +kernel, by decide +kernel, by decide +kernel⟩, Nat.le_of_ble_eq_true rfl⟩
theorem st_X12_isIn : Cond.static mX12_isIn.1 ∈ lw_tbl := List.mem_of_getElem? (i := 1077) (by decide +kernel)
theorem mk_X12_has : ab_mk mX12_has 2 := ⟨List.mem_of_getElem? (i := 1187) (by decide +kernel), it_X12, ⟨by decide +kernel, by decide +kernel, by decide +kernel⟩, Nat.le_of_ble_eq_true rfl⟩
theorem st_X12_has : Cond.static mX12_has.1 ∈ lw_tbl := List.mem_of_getElem? (i := 1186) (by decide +kernel)
theorem mk_X12_divisor : ab_mk mX12_divisor 2 := ⟨List.mem_of_getElem? (i := 1147) (by decide +kernel), it_X12, ⟨by decide +kernel, by decide +kernel, by decide +kernel⟩, Nat.le_of_ble_eq_true rfl⟩
theorem st_X12_divisor : Cond.static mX12_divisor.1 ∈ lw_tbl := List.mem_of_getElem? (i := 1146) (by decide +kernel)
theorem mk_X12_part : ab_mk mX12_part 3 := ⟨List.mem_of_getElem? (i := 1144) (by decide +kernel), it_X12, ⟨by decide +kernel, by decide +kernel, by decide +kernel⟩, Nat.le_of_ble_eq_true rfl⟩
theorem st_X12_part : Cond.static mX12_part.1 ∈ lw_tbl := List.mem_of_getElem? (i := 1143) (by decide +kernel)
theorem mk_X12_init : ab_mk mX12_init 0 := ⟨List.mem_of_getElem? (i := 920) (by decide +kernel), it_X12, ⟨by decide +kernel, by decide +kernel, by decide +kernel⟩, Nat.le_of_ble_eq_true rfl⟩
theorem im_X12_init : Cond.instanceMethod mX12_init.1 ∈ lw_tbl := List.mem_of_getElem? (i := 919) (by decide +kernel)
theorem mk_X12_side : ab_mk mX12_side 0 := ⟨List.mem_of_getElem? (i := 929) (by decide +kernel), it_X12, ⟨by decide +kernel, by decide +kernel, by decide +kernel⟩, Nat.le_of_ble_eq_true rfl⟩
theorem im_X12_side : Cond.instanceMethod mX12_side.1 ∈ lw_tbl := List.mem_of_getElem? (i := 928) (by decide +kernel)
theorem se_X12_side : Cond.selects mX12_side.1.cls mX12_side.1 mX12_side.1 ∈ lw_tbl := List.mem_of_getElem? (i := 16) (by decide +kernel)
theorem mk_X12_isCell : ab_mk mX12_isCell 2 := ⟨List.mem_of_getElem? (i := 1086) (by decide +kernel), it_X12, ⟨by decide +kernel, by decide +kernel, by decide +kernel⟩, Nat.le_of_ble_eq_true rfl⟩
theorem im_X12_isCell : Cond.instanceMethod mX12_isCell.1 ∈ lw_tbl := List.mem_of_getElem? (i := 1085) (by decide +kernel)
theorem se_X12_isCell : Cond.selects mX12_isCell.1.cls mX12_isCell.1 mX12_isCell.1 ∈ lw_tbl := List.mem_of_getElem? (i := 20) (by decide +kernel)
theorem mk_X12_lays : ab_mk mX12_lays 3 := ⟨List.mem_of_getElem? (i := 925) (by decide +kernel), it_X12, ⟨by decide +kernel, by decide +kernel, by decide +kernel⟩, Nat.le_of_ble_eq_true rfl⟩
theorem im_X12_lays : Cond.instanceMethod mX12_lays.1 ∈ lw_tbl := List.mem_of_getElem? (i := 924) (by decide +kernel)
theorem se_X12_lays : Cond.selects mX12_lays.1.cls mX12_lays.1 mX12_lays.1 ∈ lw_tbl := List.mem_of_getElem? (i := 15) (by decide +kernel)
theorem mk_X12_cuts : ab_mk mX12_cuts 5 := ⟨List.mem_of_getElem? (i := 933) (by decide +kernel), it_X12, ⟨by decide +kernel, by decide +kernel, by decide +kernel⟩, Nat.le_of_ble_eq_true rfl⟩
theorem im_X12_cuts : Cond.instanceMethod mX12_cuts.1 ∈ lw_tbl := List.mem_of_getElem? (i := 932) (by decide +kernel)
theorem se_X12_cuts : Cond.selects mX12_cuts.1.cls mX12_cuts.1 mX12_cuts.1 ∈ lw_tbl := List.mem_of_getElem? (i := 17) (by decide +kernel)
theorem mk_X12_cell : ab_mk mX12_cell 2 := ⟨List.mem_of_getElem? (i := 1090) (by decide +kernel), it_X12, ⟨by decide +kernel, by decide +kernel, by decide +kernel⟩, Nat.le_of_ble_eq_true rfl⟩
theorem im_X12_cell : Cond.instanceMethod mX12_cell.1 ∈ lw_tbl := List.mem_of_getElem? (i := 1089) (by decide +kernel)
theorem se_X12_cell : Cond.selects mX12_cell.1.cls mX12_cell.1 mX12_cell.1 ∈ lw_tbl := List.mem_of_getElem? (i := 21) (by decide +kernel)
theorem mk_X12_board : ab_mk mX12_board 3 := ⟨List.mem_of_getElem? (i := 1071) (by decide +kernel), it_X12, ⟨by decide +kernel, by decide +kernel, by decide +kernel⟩, Nat.le_of_ble_eq_true rfl⟩
theorem im_X12_board : Cond.instanceMethod mX12_board.1 ∈ lw_tbl := List.mem_of_getElem? (i := 1069) (by decide +kernel)
theorem se_X12_board : Cond.selects mX12_board.1.cls mX12_board.1 mX12_board.1 ∈ lw_tbl := List.mem_of_getElem? (i := 1070) (by decide +kernel)
theorem mk_X12_piece : ab_mk mX12_piece 2 := ⟨List.mem_of_getElem? (i := 1082) (by decide +kernel), it_X12, ⟨by decide +kernel, by decide +kernel, by decide +kernel⟩, Nat.le_of_ble_eq_true rfl⟩
theorem im_X12_piece : Cond.instanceMethod mX12_piece.1 ∈ lw_tbl := List.mem_of_getElem? (i := 1080) (by decide +kernel)
theorem se_X12_piece : Cond.selects mX12_piece.1.cls mX12_piece.1 mX12_piece.1 ∈ lw_tbl := List.mem_of_getElem? (i := 1081) (by decide +kernel)
theorem mk_X12_areBeside : ab_mk mX12_areBeside 6 := ⟨List.mem_of_getElem? (i := 1106) (by decide +kernel), it_X12, ⟨by decide +kernel, by decide +kernel, by decide +kernel⟩, Nat.le_of_ble_eq_true rfl⟩
theorem im_X12_areBeside : Cond.instanceMethod mX12_areBeside.1 ∈ lw_tbl := List.mem_of_getElem? (i := 1105) (by decide +kernel)
theorem se_X12_areBeside : Cond.selects mX12_areBeside.1.cls mX12_areBeside.1 mX12_areBeside.1 ∈ lw_tbl := List.mem_of_getElem? (i := 24) (by decide +kernel)
theorem mk_X12_isTouching : ab_mk mX12_isTouching 2 := ⟨List.mem_of_getElem? (i := 1102) (by decide +kernel), it_X12, ⟨by decide +kernel, by decide +kernel, by decide +kernel⟩, Nat.le_of_ble_eq_true rfl⟩
theorem im_X12_isTouching : Cond.instanceMethod mX12_isTouching.1 ∈ lw_tbl := List.mem_of_getElem? (i := 1101) (by decide +kernel)
theorem se_X12_isTouching : Cond.selects mX12_isTouching.1.cls mX12_isTouching.1 mX12_isTouching.1 ∈ lw_tbl := List.mem_of_getElem? (i := 23) (by decide +kernel)
theorem mk_X12_touching : ab_mk mX12_touching 1 := ⟨List.mem_of_getElem? (i := 1098) (by decide +kernel), it_X12, ⟨by decide +kernel, by decide +kernel, by decide +kernel⟩, Nat.le_of_ble_eq_true rfl⟩
theorem im_X12_touching : Cond.instanceMethod mX12_touching.1 ∈ lw_tbl := List.mem_of_getElem? (i := 1097) (by decide +kernel)
theorem se_X12_touching : Cond.selects mX12_touching.1.cls mX12_touching.1 mX12_touching.1 ∈ lw_tbl := List.mem_of_getElem? (i := 22) (by decide +kernel)
theorem mk_X12_of : ab_mk mX12_of 2 := ⟨List.mem_of_getElem? (i := 1094) (by decide +kernel), it_X12, ⟨by decide +kernel, by decide +kernel, by decide +kernel⟩, Nat.le_of_ble_eq_true rfl⟩
theorem im_X12_of : Cond.instanceMethod mX12_of.1 ∈ lw_tbl := List.mem_of_getElem? (i := 1092) (by decide +kernel)
theorem se_X12_of : Cond.selects mX12_of.1.cls mX12_of.1 mX12_of.1 ∈ lw_tbl := List.mem_of_getElem? (i := 1093) (by decide +kernel)
theorem mk_X12_isWithin : ab_mk mX12_isWithin 5 := ⟨List.mem_of_getElem? (i := 1114) (by decide +kernel), it_X12, ⟨by decide +kernel, by decide +kernel, by decide +kernel⟩, Nat.le_of_ble_eq_true rfl⟩
theorem im_X12_isWithin : Cond.instanceMethod mX12_isWithin.1 ∈ lw_tbl := List.mem_of_getElem? (i := 1113) (by decide +kernel)
theorem se_X12_isWithin : Cond.selects mX12_isWithin.1.cls mX12_isWithin.1 mX12_isWithin.1 ∈ lw_tbl := List.mem_of_getElem? (i := 25) (by decide +kernel)
theorem mk_X12_within : ab_mk mX12_within 4 := ⟨List.mem_of_getElem? (i := 1110) (by decide +kernel), it_X12, ⟨by decide +kernel, by decide +kernel, by decide +kernel⟩, Nat.le_of_ble_eq_true rfl⟩
theorem im_X12_within : Cond.instanceMethod mX12_within.1 ∈ lw_tbl := List.mem_of_getElem? (i := 1108) (by decide +kernel)
theorem se_X12_within : Cond.selects mX12_within.1.cls mX12_within.1 mX12_within.1 ∈ lw_tbl := List.mem_of_getElem? (i := 1109) (by decide +kernel)
theorem mk_X12_edge : ab_mk mX12_edge 0 := ⟨List.mem_of_getElem? (i := 1128) (by decide +kernel), it_X12, ⟨by decide +kernel, by decide +kernel, by decide +kernel⟩, Nat.le_of_ble_eq_true rfl⟩
theorem im_X12_edge : Cond.instanceMethod mX12_edge.1 ∈ lw_tbl := List.mem_of_getElem? (i := 1127) (by decide +kernel)
theorem se_X12_edge : Cond.selects mX12_edge.1.cls mX12_edge.1 mX12_edge.1 ∈ lw_tbl := List.mem_of_getElem? (i := 27) (by decide +kernel)
theorem mk_X12_inWay : ab_mk mX12_inWay 1 := ⟨List.mem_of_getElem? (i := 1124) (by decide +kernel), it_X12, ⟨by decide +kernel, by decide +kernel, by decide +kernel⟩, Nat.le_of_ble_eq_true rfl⟩
theorem im_X12_inWay : Cond.instanceMethod mX12_inWay.1 ∈ lw_tbl := List.mem_of_getElem? (i := 1123) (by decide +kernel)
theorem se_X12_inWay : Cond.selects mX12_inWay.1.cls mX12_inWay.1 mX12_inWay.1 ∈ lw_tbl := List.mem_of_getElem? (i := 26) (by decide +kernel)
theorem mk_X12_pieces : ab_mk mX12_pieces 1 := ⟨List.mem_of_getElem? (i := 1118) (by decide +kernel), it_X12, ⟨by decide +kernel, by decide +kernel, by decide +kernel⟩, Nat.le_of_ble_eq_true rfl⟩
theorem im_X12_pieces : Cond.instanceMethod mX12_pieces.1 ∈ lw_tbl := List.mem_of_getElem? (i := 1116) (by decide +kernel)
theorem se_X12_pieces : Cond.selects mX12_pieces.1.cls mX12_pieces.1 mX12_pieces.1 ∈ lw_tbl := List.mem_of_getElem? (i := 1117) (by decide +kernel)
theorem mk_X12_isWay : ab_mk mX12_isWay 1 := ⟨List.mem_of_getElem? (i := 1135) (by decide +kernel), it_X12, ⟨by decide +kernel, by decide +kernel, by decide +kernel⟩, Nat.le_of_ble_eq_true rfl⟩
theorem st_X12_isWay : Cond.static mX12_isWay.1 ∈ lw_tbl := List.mem_of_getElem? (i := 1134) (by decide +kernel)
theorem mk_X12_odds : ab_mk mX12_odds 2 := ⟨List.mem_of_getElem? (i := 1132) (by decide +kernel), it_X12, ⟨by decide +kernel, by decide +kernel, by decide +kernel⟩, Nat.le_of_ble_eq_true rfl⟩
theorem im_X12_odds : Cond.instanceMethod mX12_odds.1 ∈ lw_tbl := List.mem_of_getElem? (i := 1130) (by decide +kernel)
theorem se_X12_odds : Cond.selects mX12_odds.1.cls mX12_odds.1 mX12_odds.1 ∈ lw_tbl := List.mem_of_getElem? (i := 1131) (by decide +kernel)
theorem mk_X12_rulesAtFirst : ab_mk mX12_rulesAtFirst 0 := ⟨List.mem_of_getElem? (i := 937) (by decide +kernel), it_X12, ⟨by decide +kernel, by decide +kernel, by decide +kernel⟩, Nat.le_of_ble_eq_true rfl⟩
theorem im_X12_rulesAtFirst : Cond.instanceMethod mX12_rulesAtFirst.1 ∈ lw_tbl := List.mem_of_getElem? (i := 936) (by decide +kernel)
theorem se_X12_rulesAtFirst : Cond.selects mX12_rulesAtFirst.1.cls mX12_rulesAtFirst.1 mX12_rulesAtFirst.1 ∈ lw_tbl := List.mem_of_getElem? (i := 18) (by decide +kernel)
theorem mk_X12_rule : ab_mk mX12_rule 3 := ⟨List.mem_of_getElem? (i := 1152) (by decide +kernel), it_X12, ⟨by decide +kernel, by decide +kernel, by decide +kernel⟩, Nat.le_of_ble_eq_true rfl⟩
theorem im_X12_rule : Cond.instanceMethod mX12_rule.1 ∈ lw_tbl := List.mem_of_getElem? (i := 1150) (by decide +kernel)
theorem se_X12_rule : Cond.selects mX12_rule.1.cls mX12_rule.1 mX12_rule.1 ∈ lw_tbl := List.mem_of_getElem? (i := 1151) (by decide +kernel)
theorem mk_X12_begins : ab_mk mX12_begins 1 := ⟨List.mem_of_getElem? (i := 1160) (by decide +kernel), it_X12, ⟨by decide +kernel, by decide +kernel, by decide +kernel⟩, Nat.le_of_ble_eq_true rfl⟩
theorem im_X12_begins : Cond.instanceMethod mX12_begins.1 ∈ lw_tbl := List.mem_of_getElem? (i := 1159) (by decide +kernel)
theorem se_X12_begins : Cond.selects mX12_begins.1.cls mX12_begins.1 mX12_begins.1 ∈ lw_tbl := List.mem_of_getElem? (i := 29) (by decide +kernel)
theorem mk_X12_fallsAll : ab_mk mX12_fallsAll 0 := ⟨List.mem_of_getElem? (i := 1164) (by decide +kernel), it_X12, ⟨by decide +kernel, by decide +kernel, by decide +kernel⟩, Nat.le_of_ble_eq_true rfl⟩
theorem im_X12_fallsAll : Cond.instanceMethod mX12_fallsAll.1 ∈ lw_tbl := List.mem_of_getElem? (i := 1163) (by decide +kernel)
theorem se_X12_fallsAll : Cond.selects mX12_fallsAll.1.cls mX12_fallsAll.1 mX12_fallsAll.1 ∈ lw_tbl := List.mem_of_getElem? (i := 30) (by decide +kernel)
theorem mk_X12_behind : ab_mk mX12_behind 3 := ⟨List.mem_of_getElem? (i := 1156) (by decide +kernel), it_X12, ⟨by decide +kernel, by decide +kernel, by decide +kernel⟩, Nat.le_of_ble_eq_true rfl⟩
theorem im_X12_behind : Cond.instanceMethod mX12_behind.1 ∈ lw_tbl := List.mem_of_getElem? (i := 1154) (by decide +kernel)
theorem se_X12_behind : Cond.selects mX12_behind.1.cls mX12_behind.1 mX12_behind.1 ∈ lw_tbl := List.mem_of_getElem? (i := 1155) (by decide +kernel)
theorem mk_X12_address : ab_mk mX12_address 3 := ⟨List.mem_of_getElem? (i := 1168) (by decide +kernel), it_X12, ⟨by decide +kernel, by decide +kernel, by decide +kernel⟩, Nat.le_of_ble_eq_true rfl⟩
theorem im_X12_address : Cond.instanceMethod mX12_address.1 ∈ lw_tbl := List.mem_of_getElem? (i := 1166) (by decide +kernel)
theorem se_X12_address : Cond.selects mX12_address.1.cls mX12_address.1 mX12_address.1 ∈ lw_tbl := List.mem_of_getElem? (i := 1167) (by decide +kernel)
theorem mk_X12_leads : ab_mk mX12_leads 1 := ⟨List.mem_of_getElem? (i := 1180) (by decide +kernel), it_X12, ⟨by decide +kernel, by decide +kernel, by decide +kernel⟩, Nat.le_of_ble_eq_true rfl⟩
theorem im_X12_leads : Cond.instanceMethod mX12_leads.1 ∈ lw_tbl := List.mem_of_getElem? (i := 1179) (by decide +kernel)
theorem se_X12_leads : Cond.selects mX12_leads.1.cls mX12_leads.1 mX12_leads.1 ∈ lw_tbl := List.mem_of_getElem? (i := 32) (by decide +kernel)
theorem mk_X12_leastAlike : ab_mk mX12_leastAlike 0 := ⟨List.mem_of_getElem? (i := 1176) (by decide +kernel), it_X12, ⟨by decide +kernel, by decide +kernel, by decide +kernel⟩, Nat.le_of_ble_eq_true rfl⟩
theorem im_X12_leastAlike : Cond.instanceMethod mX12_leastAlike.1 ∈ lw_tbl := List.mem_of_getElem? (i := 1175) (by decide +kernel)
theorem se_X12_leastAlike : Cond.selects mX12_leastAlike.1.cls mX12_leastAlike.1 mX12_leastAlike.1 ∈ lw_tbl := List.mem_of_getElem? (i := 31) (by decide +kernel)
theorem mk_X12_meet : ab_mk mX12_meet 3 := ⟨List.mem_of_getElem? (i := 1172) (by decide +kernel), it_X12, ⟨by decide +kernel, by decide +kernel, by decide +kernel⟩, Nat.le_of_ble_eq_true rfl⟩
theorem im_X12_meet : Cond.instanceMethod mX12_meet.1 ∈ lw_tbl := List.mem_of_getElem? (i := 1170) (by decide +kernel)
theorem se_X12_meet : Cond.selects mX12_meet.1.cls mX12_meet.1 mX12_meet.1 ∈ lw_tbl := List.mem_of_getElem? (i := 1171) (by decide +kernel)
theorem mk_X12_steady : ab_mk mX12_steady 1 := ⟨List.mem_of_getElem? (i := 1184) (by decide +kernel), it_X12, ⟨by decide +kernel, by decide +kernel, by decide +kernel⟩, Nat.le_of_ble_eq_true rfl⟩
theorem im_X12_steady : Cond.instanceMethod mX12_steady.1 ∈ lw_tbl := List.mem_of_getElem? (i := 1182) (by decide +kernel)
theorem se_X12_steady : Cond.selects mX12_steady.1.cls mX12_steady.1 mX12_steady.1 ∈ lw_tbl := List.mem_of_getElem? (i := 1183) (by decide +kernel)
theorem mk_X12_falls : ab_mk mX12_falls 1 := ⟨List.mem_of_getElem? (i := 1191) (by decide +kernel), it_X12, ⟨by decide +kernel, by decide +kernel, by decide +kernel⟩, Nat.le_of_ble_eq_true rfl⟩
theorem im_X12_falls : Cond.instanceMethod mX12_falls.1 ∈ lw_tbl := List.mem_of_getElem? (i := 1189) (by decide +kernel)
theorem se_X12_falls : Cond.selects mX12_falls.1.cls mX12_falls.1 mX12_falls.1 ∈ lw_tbl := List.mem_of_getElem? (i := 1190) (by decide +kernel)
theorem mk_X12_lots : ab_mk mX12_lots 4 := ⟨List.mem_of_getElem? (i := 1195) (by decide +kernel), it_X12, ⟨by decide +kernel, by decide +kernel, by decide +kernel⟩, Nat.le_of_ble_eq_true rfl⟩
theorem im_X12_lots : Cond.instanceMethod mX12_lots.1 ∈ lw_tbl := List.mem_of_getElem? (i := 1193) (by decide +kernel)
theorem se_X12_lots : Cond.selects mX12_lots.1.cls mX12_lots.1 mX12_lots.1 ∈ lw_tbl := List.mem_of_getElem? (i := 1194) (by decide +kernel)
theorem mk_X12_comesPoint : ab_mk mX12_comesPoint 4 := ⟨List.mem_of_getElem? (i := 1206) (by decide +kernel), it_X12, ⟨by decide +kernel, by decide +kernel, by decide +kernel⟩, Nat.le_of_ble_eq_true rfl⟩
theorem im_X12_comesPoint : Cond.instanceMethod mX12_comesPoint.1 ∈ lw_tbl := List.mem_of_getElem? (i := 1205) (by decide +kernel)
theorem se_X12_comesPoint : Cond.selects mX12_comesPoint.1.cls mX12_comesPoint.1 mX12_comesPoint.1 ∈ lw_tbl := List.mem_of_getElem? (i := 33) (by decide +kernel)
theorem mk_X12_point : ab_mk mX12_point 2 := ⟨List.mem_of_getElem? (i := 1202) (by decide +kernel), it_X12, ⟨by decide +kernel, by decide +kernel, by decide +kernel⟩, Nat.le_of_ble_eq_true rfl⟩
theorem im_X12_point : Cond.instanceMethod mX12_point.1 ∈ lw_tbl := List.mem_of_getElem? (i := 1200) (by decide +kernel)
theorem se_X12_point : Cond.selects mX12_point.1.cls mX12_point.1 mX12_point.1 ∈ lw_tbl := List.mem_of_getElem? (i := 1201) (by decide +kernel)
theorem mk_X12_twos : ab_mk mX12_twos 1 := ⟨List.mem_of_getElem? (i := 1225) (by decide +kernel), it_X12, ⟨by decide +kernel, by decide +kernel, by decide +kernel⟩, Nat.le_of_ble_eq_true rfl⟩
theorem st_X12_twos : Cond.static mX12_twos.1 ∈ lw_tbl := List.mem_of_getElem? (i := 1224) (by decide +kernel)
theorem mk_X12_valuation : ab_mk mX12_valuation 2 := ⟨List.mem_of_getElem? (i := 1222) (by decide +kernel), it_X12, ⟨by decide +kernel, by decide +kernel, by decide +kernel⟩, Nat.le_of_ble_eq_true rfl⟩
theorem st_X12_valuation : Cond.static mX12_valuation.1 ∈ lw_tbl := List.mem_of_getElem? (i := 1221) (by decide +kernel)
theorem mk_X12_valuationOf : ab_mk mX12_valuationOf 2 := ⟨List.mem_of_getElem? (i := 1219) (by decide +kernel), it_X12, ⟨by decide +kernel, by decide +kernel, by decide +kernel⟩, Nat.le_of_ble_eq_true rfl⟩
theorem im_X12_valuationOf : Cond.instanceMethod mX12_valuationOf.1 ∈ lw_tbl := List.mem_of_getElem? (i := 1218) (by decide +kernel)
theorem se_X12_valuationOf : Cond.selects mX12_valuationOf.1.cls mX12_valuationOf.1 mX12_valuationOf.1 ∈ lw_tbl := List.mem_of_getElem? (i := 35) (by decide +kernel)
theorem mk_X12_colourBy : ab_mk mX12_colourBy 2 := ⟨List.mem_of_getElem? (i := 1235) (by decide +kernel), it_X12, ⟨by decide +kernel, by decide +kernel, by decide +kernel⟩, Nat.le_of_ble_eq_true rfl⟩
theorem st_X12_colourBy : Cond.static mX12_colourBy.1 ∈ lw_tbl := List.mem_of_getElem? (i := 1234) (by decide +kernel)
theorem mk_X12_isPoint : ab_mk mX12_isPoint 1 := ⟨List.mem_of_getElem? (i := 1214) (by decide +kernel), it_X12, ⟨by decide +kernel, by decide +kernel, by decide +kernel⟩, Nat.le_of_ble_eq_true rfl⟩
theorem im_X12_isPoint : Cond.instanceMethod mX12_isPoint.1 ∈ lw_tbl := List.mem_of_getElem? (i := 1213) (by decide +kernel)
theorem se_X12_isPoint : Cond.selects mX12_isPoint.1.cls mX12_isPoint.1 mX12_isPoint.1 ∈ lw_tbl := List.mem_of_getElem? (i := 34) (by decide +kernel)
theorem mk_X12_colour : ab_mk mX12_colour 2 := ⟨List.mem_of_getElem? (i := 1210) (by decide +kernel), it_X12, ⟨by decide +kernel, by decide +kernel, by decide +kernel⟩, Nat.le_of_ble_eq_true rfl⟩
theorem im_X12_colour : Cond.instanceMethod mX12_colour.1 ∈ lw_tbl := List.mem_of_getElem? (i := 1208) (by decide +kernel)
theorem se_X12_colour : Cond.selects mX12_colour.1.cls mX12_colour.1 mX12_colour.1 ∈ lw_tbl := List.mem_of_getElem? (i := 1209) (by decide +kernel)
theorem mk_X12_comesTriangle : ab_mk mX12_comesTriangle 4 := ⟨List.mem_of_getElem? (i := 1248) (by decide +kernel), it_X12, ⟨by decide +kernel, by decide +kernel, by decide +kernel⟩, Nat.le_of_ble_eq_true rfl⟩
theorem im_X12_comesTriangle : Cond.instanceMethod mX12_comesTriangle.1 ∈ lw_tbl := List.mem_of_getElem? (i := 1247) (by decide +kernel)
theorem se_X12_comesTriangle : Cond.selects mX12_comesTriangle.1.cls mX12_comesTriangle.1 mX12_comesTriangle.1 ∈ lw_tbl := List.mem_of_getElem? (i := 37) (by decide +kernel)
theorem mk_X12_areThree : ab_mk mX12_areThree 3 := ⟨List.mem_of_getElem? (i := 1244) (by decide +kernel), it_X12, ⟨by decide +kernel, by decide +kernel, by decide +kernel⟩, Nat.le_of_ble_eq_true rfl⟩
theorem im_X12_areThree : Cond.instanceMethod mX12_areThree.1 ∈ lw_tbl := List.mem_of_getElem? (i := 1243) (by decide +kernel)
theorem se_X12_areThree : Cond.selects mX12_areThree.1.cls mX12_areThree.1 mX12_areThree.1 ∈ lw_tbl := List.mem_of_getElem? (i := 36) (by decide +kernel)
theorem mk_X12_triangle : ab_mk mX12_triangle 4 := ⟨List.mem_of_getElem? (i := 1239) (by decide +kernel), it_X12, ⟨by decide +kernel, by decide +kernel, by decide +kernel⟩, Nat.le_of_ble_eq_true rfl⟩
theorem im_X12_triangle : Cond.instanceMethod mX12_triangle.1 ∈ lw_tbl := List.mem_of_getElem? (i := 1237) (by decide +kernel)
theorem se_X12_triangle : Cond.selects mX12_triangle.1.cls mX12_triangle.1 mX12_triangle.1 ∈ lw_tbl := List.mem_of_getElem? (i := 1238) (by decide +kernel)
theorem mk_X12_isUnder : ab_mk mX12_isUnder 2 := ⟨List.mem_of_getElem? (i := 1263) (by decide +kernel), it_X12, ⟨by decide +kernel, by decide +kernel, by decide +kernel⟩, Nat.le_of_ble_eq_true rfl⟩
theorem st_X12_isUnder : Cond.static mX12_isUnder.1 ∈ lw_tbl := List.mem_of_getElem? (i := 1262) (by decide +kernel)
theorem mk_X12_tells : ab_mk mX12_tells 2 := ⟨List.mem_of_getElem? (i := 1291) (by decide +kernel), it_X12, ⟨by decide +kernel, by decide +kernel, by decide +kernel⟩, Nat.le_of_ble_eq_true rfl⟩
theorem im_X12_tells : Cond.instanceMethod mX12_tells.1 ∈ lw_tbl := List.mem_of_getElem? (i := 1290) (by decide +kernel)
theorem se_X12_tells : Cond.selects mX12_tells.1.cls mX12_tells.1 mX12_tells.1 ∈ lw_tbl := List.mem_of_getElem? (i := 46) (by decide +kernel)
theorem mk_X12_over : ab_mk mX12_over 2 := ⟨List.mem_of_getElem? (i := 1279) (by decide +kernel), it_X12, ⟨by decide +kernel, by decide +kernel, by decide +kernel⟩, Nat.le_of_ble_eq_true rfl⟩
theorem im_X12_over : Cond.instanceMethod mX12_over.1 ∈ lw_tbl := List.mem_of_getElem? (i := 1278) (by decide +kernel)
theorem se_X12_over : Cond.selects mX12_over.1.cls mX12_over.1 mX12_over.1 ∈ lw_tbl := List.mem_of_getElem? (i := 43) (by decide +kernel)
theorem mk_X12_under : ab_mk mX12_under 2 := ⟨List.mem_of_getElem? (i := 1283) (by decide +kernel), it_X12, ⟨by decide +kernel, by decide +kernel, by decide +kernel⟩, Nat.le_of_ble_eq_true rfl⟩
theorem im_X12_under : Cond.instanceMethod mX12_under.1 ∈ lw_tbl := List.mem_of_getElem? (i := 1282) (by decide +kernel)
theorem se_X12_under : Cond.selects mX12_under.1.cls mX12_under.1 mX12_under.1 ∈ lw_tbl := List.mem_of_getElem? (i := 44) (by decide +kernel)
theorem mk_X12_more : ab_mk mX12_more 3 := ⟨List.mem_of_getElem? (i := 1275) (by decide +kernel), it_X12, ⟨by decide +kernel, by decide +kernel, by decide +kernel⟩, Nat.le_of_ble_eq_true rfl⟩
theorem im_X12_more : Cond.instanceMethod mX12_more.1 ∈ lw_tbl := List.mem_of_getElem? (i := 1274) (by decide +kernel)
theorem se_X12_more : Cond.selects mX12_more.1.cls mX12_more.1 mX12_more.1 ∈ lw_tbl := List.mem_of_getElem? (i := 42) (by decide +kernel)
theorem mk_X12_belowOf : ab_mk mX12_belowOf 3 := ⟨List.mem_of_getElem? (i := 1287) (by decide +kernel), it_X12, ⟨by decide +kernel, by decide +kernel, by decide +kernel⟩, Nat.le_of_ble_eq_true rfl⟩
theorem im_X12_belowOf : Cond.instanceMethod mX12_belowOf.1 ∈ lw_tbl := List.mem_of_getElem? (i := 1286) (by decide +kernel)
theorem se_X12_belowOf : Cond.selects mX12_belowOf.1.cls mX12_belowOf.1 mX12_belowOf.1 ∈ lw_tbl := List.mem_of_getElem? (i := 45) (by decide +kernel)
theorem mk_X12_areaOf : ab_mk mX12_areaOf 1 := ⟨List.mem_of_getElem? (i := 1271) (by decide +kernel), it_X12, ⟨by decide +kernel, by decide +kernel, by decide +kernel⟩, Nat.le_of_ble_eq_true rfl⟩
theorem im_X12_areaOf : Cond.instanceMethod mX12_areaOf.1 ∈ lw_tbl := List.mem_of_getElem? (i := 1270) (by decide +kernel)
theorem se_X12_areaOf : Cond.selects mX12_areaOf.1.cls mX12_areaOf.1 mX12_areaOf.1 ∈ lw_tbl := List.mem_of_getElem? (i := 41) (by decide +kernel)
theorem mk_X12_coloursOf : ab_mk mX12_coloursOf 1 := ⟨List.mem_of_getElem? (i := 1260) (by decide +kernel), it_X12, ⟨by decide +kernel, by decide +kernel, by decide +kernel⟩, Nat.le_of_ble_eq_true rfl⟩
theorem im_X12_coloursOf : Cond.instanceMethod mX12_coloursOf.1 ∈ lw_tbl := List.mem_of_getElem? (i := 1259) (by decide +kernel)
theorem se_X12_coloursOf : Cond.selects mX12_coloursOf.1.cls mX12_coloursOf.1 mX12_coloursOf.1 ∈ lw_tbl := List.mem_of_getElem? (i := 39) (by decide +kernel)
theorem mk_X12_areaValuation : ab_mk mX12_areaValuation 1 := ⟨List.mem_of_getElem? (i := 1267) (by decide +kernel), it_X12, ⟨by decide +kernel, by decide +kernel, by decide +kernel⟩, Nat.le_of_ble_eq_true rfl⟩
theorem im_X12_areaValuation : Cond.instanceMethod mX12_areaValuation.1 ∈ lw_tbl := List.mem_of_getElem? (i := 1266) (by decide +kernel)
theorem se_X12_areaValuation : Cond.selects mX12_areaValuation.1.cls mX12_areaValuation.1 mX12_areaValuation.1 ∈ lw_tbl := List.mem_of_getElem? (i := 40) (by decide +kernel)
theorem mk_X12_isTriangle : ab_mk mX12_isTriangle 1 := ⟨List.mem_of_getElem? (i := 1256) (by decide +kernel), it_X12, ⟨by decide +kernel, by decide +kernel, by decide +kernel⟩, Nat.le_of_ble_eq_true rfl⟩
theorem im_X12_isTriangle : Cond.instanceMethod mX12_isTriangle.1 ∈ lw_tbl := List.mem_of_getElem? (i := 1255) (by decide +kernel)
theorem se_X12_isTriangle : Cond.selects mX12_isTriangle.1.cls mX12_isTriangle.1 mX12_isTriangle.1 ∈ lw_tbl := List.mem_of_getElem? (i := 38) (by decide +kernel)
theorem mk_X12_tri : ab_mk mX12_tri 2 := ⟨List.mem_of_getElem? (i := 1252) (by decide +kernel), it_X12, ⟨by decide +kernel, by decide +kernel, by decide +kernel⟩, Nat.le_of_ble_eq_true rfl⟩
theorem im_X12_tri : Cond.instanceMethod mX12_tri.1 ∈ lw_tbl := List.mem_of_getElem? (i := 1250) (by decide +kernel)
theorem se_X12_tri : Cond.selects mX12_tri.1.cls mX12_tri.1 mX12_tri.1 ∈ lw_tbl := List.mem_of_getElem? (i := 1251) (by decide +kernel)
theorem mk_X12_area : ab_mk mX12_area 2 := ⟨List.mem_of_getElem? (i := 1297) (by decide +kernel), it_X12, ⟨by decide +kernel, by decide +kernel, by decide +kernel⟩, Nat.le_of_ble_eq_true rfl⟩
theorem im_X12_area : Cond.instanceMethod mX12_area.1 ∈ lw_tbl := List.mem_of_getElem? (i := 1295) (by decide +kernel)
theorem se_X12_area : Cond.selects mX12_area.1.cls mX12_area.1 mX12_area.1 ∈ lw_tbl := List.mem_of_getElem? (i := 1296) (by decide +kernel)
theorem mk_X12_isSet : ab_mk mX12_isSet 1 := ⟨List.mem_of_getElem? (i := 1305) (by decide +kernel), it_X12, ⟨by decide +kernel, by decide +kernel, by decide +kernel⟩, Nat.le_of_ble_eq_true rfl⟩
theorem im_X12_isSet : Cond.instanceMethod mX12_isSet.1 ∈ lw_tbl := List.mem_of_getElem? (i := 1304) (by decide +kernel)
theorem se_X12_isSet : Cond.selects mX12_isSet.1.cls mX12_isSet.1 mX12_isSet.1 ∈ lw_tbl := List.mem_of_getElem? (i := 47) (by decide +kernel)
theorem mk_X12_isGreat : ab_mk mX12_isGreat 0 := ⟨List.mem_of_getElem? (i := 1309) (by decide +kernel), it_X12, ⟨by decide +kernel, by decide +kernel, by decide +kernel⟩, Nat.le_of_ble_eq_true rfl⟩
theorem im_X12_isGreat : Cond.instanceMethod mX12_isGreat.1 ∈ lw_tbl := List.mem_of_getElem? (i := 1308) (by decide +kernel)
theorem se_X12_isGreat : Cond.selects mX12_isGreat.1.cls mX12_isGreat.1 mX12_isGreat.1 ∈ lw_tbl := List.mem_of_getElem? (i := 48) (by decide +kernel)
theorem mk_X12_sum : ab_mk mX12_sum 2 := ⟨List.mem_of_getElem? (i := 1301) (by decide +kernel), it_X12, ⟨by decide +kernel, by decide +kernel, by decide +kernel⟩, Nat.le_of_ble_eq_true rfl⟩
theorem im_X12_sum : Cond.instanceMethod mX12_sum.1 ∈ lw_tbl := List.mem_of_getElem? (i := 1299) (by decide +kernel)
theorem se_X12_sum : Cond.selects mX12_sum.1.cls mX12_sum.1 mX12_sum.1 ∈ lw_tbl := List.mem_of_getElem? (i := 1300) (by decide +kernel)
theorem mk_X12_evens : ab_mk mX12_evens 1 := ⟨List.mem_of_getElem? (i := 1318) (by decide +kernel), it_X12, ⟨by decide +kernel, by decide +kernel, by decide +kernel⟩, Nat.le_of_ble_eq_true rfl⟩
theorem im_X12_evens : Cond.instanceMethod mX12_evens.1 ∈ lw_tbl := List.mem_of_getElem? (i := 1317) (by decide +kernel)
theorem se_X12_evens : Cond.selects mX12_evens.1.cls mX12_evens.1 mX12_evens.1 ∈ lw_tbl := List.mem_of_getElem? (i := 49) (by decide +kernel)
theorem mk_X12_rainbows : ab_mk mX12_rainbows 1 := ⟨List.mem_of_getElem? (i := 1322) (by decide +kernel), it_X12, ⟨by decide +kernel, by decide +kernel, by decide +kernel⟩, Nat.le_of_ble_eq_true rfl⟩
theorem im_X12_rainbows : Cond.instanceMethod mX12_rainbows.1 ∈ lw_tbl := List.mem_of_getElem? (i := 1321) (by decide +kernel)
theorem se_X12_rainbows : Cond.selects mX12_rainbows.1.cls mX12_rainbows.1 mX12_rainbows.1 ∈ lw_tbl := List.mem_of_getElem? (i := 50) (by decide +kernel)
theorem mk_X12_isAlike : ab_mk mX12_isAlike 1 := ⟨List.mem_of_getElem? (i := 1326) (by decide +kernel), it_X12, ⟨by decide +kernel, by decide +kernel, by decide +kernel⟩, Nat.le_of_ble_eq_true rfl⟩
theorem im_X12_isAlike : Cond.instanceMethod mX12_isAlike.1 ∈ lw_tbl := List.mem_of_getElem? (i := 1325) (by decide +kernel)
theorem se_X12_isAlike : Cond.selects mX12_isAlike.1.cls mX12_isAlike.1 mX12_isAlike.1 ∈ lw_tbl := List.mem_of_getElem? (i := 51) (by decide +kernel)
theorem mk_X12_even : ab_mk mX12_even 2 := ⟨List.mem_of_getElem? (i := 1314) (by decide +kernel), it_X12, ⟨by decide +kernel, by decide +kernel, by decide +kernel⟩, Nat.le_of_ble_eq_true rfl⟩
theorem im_X12_even : Cond.instanceMethod mX12_even.1 ∈ lw_tbl := List.mem_of_getElem? (i := 1312) (by decide +kernel)
theorem se_X12_even : Cond.selects mX12_even.1.cls mX12_even.1 mX12_even.1 ∈ lw_tbl := List.mem_of_getElem? (i := 1313) (by decide +kernel)
theorem mk_X12_floatOf : ab_mk mX12_floatOf 1 := ⟨List.mem_of_getElem? (i := 1334) (by decide +kernel), it_X12, ⟨by decide +kernel, by decide +kernel, by decide +kernel⟩, Nat.le_of_ble_eq_true rfl⟩
theorem im_X12_floatOf : Cond.instanceMethod mX12_floatOf.1 ∈ lw_tbl := List.mem_of_getElem? (i := 1333) (by decide +kernel)
theorem se_X12_floatOf : Cond.selects mX12_floatOf.1.cls mX12_floatOf.1 mX12_floatOf.1 ∈ lw_tbl := List.mem_of_getElem? (i := 52) (by decide +kernel)
theorem mk_X12_bits : ab_mk mX12_bits 1 := ⟨List.mem_of_getElem? (i := 1330) (by decide +kernel), it_X12, ⟨by decide +kernel, by decide +kernel, by decide +kernel⟩, Nat.le_of_ble_eq_true rfl⟩
theorem im_X12_bits : Cond.instanceMethod mX12_bits.1 ∈ lw_tbl := List.mem_of_getElem? (i := 1328) (by decide +kernel)
theorem se_X12_bits : Cond.selects mX12_bits.1.cls mX12_bits.1 mX12_bits.1 ∈ lw_tbl := List.mem_of_getElem? (i := 1329) (by decide +kernel)
theorem mk_X12_bitsOf : ab_mk mX12_bitsOf 2 := ⟨List.mem_of_getElem? (i := 1348) (by decide +kernel), it_X12, ⟨by decide +kernel, by decide +kernel, by decide +kernel⟩, Nat.le_of_ble_eq_true rfl⟩
theorem im_X12_bitsOf : Cond.instanceMethod mX12_bitsOf.1 ∈ lw_tbl := List.mem_of_getElem? (i := 1346) (by decide +kernel)
theorem se_X12_bitsOf : Cond.selects mX12_bitsOf.1.cls mX12_bitsOf.1 mX12_bitsOf.1 ∈ lw_tbl := List.mem_of_getElem? (i := 1347) (by decide +kernel)
theorem mk_X12_longBits : ab_mk mX12_longBits 1 := ⟨List.mem_of_getElem? (i := 1353) (by decide +kernel), it_X12, ⟨by decide +kernel, by decide +kernel, by decide +kernel⟩, Nat.le_of_ble_eq_true rfl⟩
theorem im_X12_longBits : Cond.instanceMethod mX12_longBits.1 ∈ lw_tbl := List.mem_of_getElem? (i := 1351) (by decide +kernel)
theorem se_X12_longBits : Cond.selects mX12_longBits.1.cls mX12_longBits.1 mX12_longBits.1 ∈ lw_tbl := List.mem_of_getElem? (i := 1352) (by decide +kernel)
theorem mk_X12_isRack : ab_mk mX12_isRack 1 := ⟨List.mem_of_getElem? (i := 1370) (by decide +kernel), it_X12, ⟨by decide +kernel, by decide +kernel, by decide +kernel⟩, Nat.le_of_ble_eq_true rfl⟩
theorem st_X12_isRack : Cond.static mX12_isRack.1 ∈ lw_tbl := List.mem_of_getElem? (i := 1369) (by decide +kernel)
theorem mk_X12_rack : ab_mk mX12_rack 3 := ⟨List.mem_of_getElem? (i := 1367) (by decide +kernel), it_X12, ⟨by decide +kernel, by decide +kernel, by decide +kernel⟩, Nat.le_of_ble_eq_true rfl⟩
theorem im_X12_rack : Cond.instanceMethod mX12_rack.1 ∈ lw_tbl := List.mem_of_getElem? (i := 1365) (by decide +kernel)
theorem se_X12_rack : Cond.selects mX12_rack.1.cls mX12_rack.1 mX12_rack.1 ∈ lw_tbl := List.mem_of_getElem? (i := 1366) (by decide +kernel)
theorem mk_X12_racks : ab_mk mX12_racks 3 := ⟨List.mem_of_getElem? (i := 1374) (by decide +kernel), it_X12, ⟨by decide +kernel, by decide +kernel, by decide +kernel⟩, Nat.le_of_ble_eq_true rfl⟩
theorem im_X12_racks : Cond.instanceMethod mX12_racks.1 ∈ lw_tbl := List.mem_of_getElem? (i := 1372) (by decide +kernel)
theorem se_X12_racks : Cond.selects mX12_racks.1.cls mX12_racks.1 mX12_racks.1 ∈ lw_tbl := List.mem_of_getElem? (i := 1373) (by decide +kernel)
theorem mk_X12_racked : ab_mk mX12_racked 3 := ⟨List.mem_of_getElem? (i := 1378) (by decide +kernel), it_X12, ⟨by decide +kernel, by decide +kernel, by decide +kernel⟩, Nat.le_of_ble_eq_true rfl⟩
theorem im_X12_racked : Cond.instanceMethod mX12_racked.1 ∈ lw_tbl := List.mem_of_getElem? (i := 1376) (by decide +kernel)
theorem se_X12_racked : Cond.selects mX12_racked.1.cls mX12_racked.1 mX12_racked.1 ∈ lw_tbl := List.mem_of_getElem? (i := 1377) (by decide +kernel)
theorem mk_X12_like : ab_mk mX12_like 2 := ⟨List.mem_of_getElem? (i := 1382) (by decide +kernel), it_X12, ⟨by decide +kernel, by decide +kernel, by decide +kernel⟩, Nat.le_of_ble_eq_true rfl⟩
theorem im_X12_like : Cond.instanceMethod mX12_like.1 ∈ lw_tbl := List.mem_of_getElem? (i := 1380) (by decide +kernel)
theorem se_X12_like : Cond.selects mX12_like.1.cls mX12_like.1 mX12_like.1 ∈ lw_tbl := List.mem_of_getElem? (i := 1381) (by decide +kernel)
theorem mk_X12_isList : ab_mk mX12_isList 1 := ⟨List.mem_of_getElem? (i := 1389) (by decide +kernel), it_X12, ⟨by decide +kernel, by decide +kernel, by decide +kernel⟩, Nat.le_of_ble_eq_true rfl⟩
theorem st_X12_isList : Cond.static mX12_isList.1 ∈ lw_tbl := List.mem_of_getElem? (i := 1388) (by decide +kernel)
theorem mk_X12_list : ab_mk mX12_list 2 := ⟨List.mem_of_getElem? (i := 1386) (by decide +kernel), it_X12, ⟨by decide +kernel, by decide +kernel, by decide +kernel⟩, Nat.le_of_ble_eq_true rfl⟩
theorem im_X12_list : Cond.instanceMethod mX12_list.1 ∈ lw_tbl := List.mem_of_getElem? (i := 1384) (by decide +kernel)
theorem se_X12_list : Cond.selects mX12_list.1.cls mX12_list.1 mX12_list.1 ∈ lw_tbl := List.mem_of_getElem? (i := 1385) (by decide +kernel)
theorem mk_X12_put : ab_mk mX12_put 3 := ⟨List.mem_of_getElem? (i := 1393) (by decide +kernel), it_X12, ⟨by decide +kernel, by decide +kernel, by decide +kernel⟩, Nat.le_of_ble_eq_true rfl⟩
theorem im_X12_put : Cond.instanceMethod mX12_put.1 ∈ lw_tbl := List.mem_of_getElem? (i := 1391) (by decide +kernel)
theorem se_X12_put : Cond.selects mX12_put.1.cls mX12_put.1 mX12_put.1 ∈ lw_tbl := List.mem_of_getElem? (i := 1392) (by decide +kernel)
theorem mk_X12_look : ab_mk mX12_look 2 := ⟨List.mem_of_getElem? (i := 1397) (by decide +kernel), it_X12, ⟨by decide +kernel, by decide +kernel, by decide +kernel⟩, Nat.le_of_ble_eq_true rfl⟩
theorem im_X12_look : Cond.instanceMethod mX12_look.1 ∈ lw_tbl := List.mem_of_getElem? (i := 1395) (by decide +kernel)
theorem se_X12_look : Cond.selects mX12_look.1.cls mX12_look.1 mX12_look.1 ∈ lw_tbl := List.mem_of_getElem? (i := 1396) (by decide +kernel)
theorem mk_X12_judge : ab_mk mX12_judge 1 := ⟨List.mem_of_getElem? (i := 1403) (by decide +kernel), it_X12, ⟨by decide +kernel, by decide +kernel, by decide +kernel⟩, Nat.le_of_ble_eq_true rfl⟩
theorem im_X12_judge : Cond.instanceMethod mX12_judge.1 ∈ lw_tbl := List.mem_of_getElem? (i := 1401) (by decide +kernel)
theorem se_X12_judge : Cond.selects mX12_judge.1.cls mX12_judge.1 mX12_judge.1 ∈ lw_tbl := List.mem_of_getElem? (i := 1402) (by decide +kernel)
theorem mk_X12_letter : ab_mk mX12_letter 1 := ⟨List.mem_of_getElem? (i := 1407) (by decide +kernel), it_X12, ⟨by decide +kernel, by decide +kernel, by decide +kernel⟩, Nat.le_of_ble_eq_true rfl⟩
theorem im_X12_letter : Cond.instanceMethod mX12_letter.1 ∈ lw_tbl := List.mem_of_getElem? (i := 1405) (by decide +kernel)
theorem se_X12_letter : Cond.selects mX12_letter.1.cls mX12_letter.1 mX12_letter.1 ∈ lw_tbl := List.mem_of_getElem? (i := 1406) (by decide +kernel)
theorem mk_X12_numbersOf : ab_mk mX12_numbersOf 1 := ⟨List.mem_of_getElem? (i := 1418) (by decide +kernel), it_X12, ⟨by decide +kernel, by decide +kernel, by decide +kernel⟩, Nat.le_of_ble_eq_true rfl⟩
theorem st_X12_numbersOf : Cond.static mX12_numbersOf.1 ∈ lw_tbl := List.mem_of_getElem? (i := 1417) (by decide +kernel)
theorem mk_X12_digitsOf : ab_mk mX12_digitsOf 2 := ⟨List.mem_of_getElem? (i := 1421) (by decide +kernel), it_X12, ⟨by decide +kernel, by decide +kernel, by decide +kernel⟩, Nat.le_of_ble_eq_true rfl⟩
theorem st_X12_digitsOf : Cond.static mX12_digitsOf.1 ∈ lw_tbl := List.mem_of_getElem? (i := 1420) (by decide +kernel)
theorem mk_X12_statement : ab_mk mX12_statement 0 := ⟨List.mem_of_getElem? (i := 1415) (by decide +kernel), it_X12, ⟨by decide +kernel, by decide +kernel, by decide +kernel⟩, Nat.le_of_ble_eq_true rfl⟩
theorem im_X12_statement : Cond.instanceMethod mX12_statement.1 ∈ lw_tbl := List.mem_of_getElem? (i := 1414) (by decide +kernel)
theorem se_X12_statement : Cond.selects mX12_statement.1.cls mX12_statement.1 mX12_statement.1 ∈ lw_tbl := List.mem_of_getElem? (i := 53) (by decide +kernel)
theorem mk_X12_isDone : ab_mk mX12_isDone 1 := ⟨List.mem_of_getElem? (i := 1431) (by decide +kernel), it_X12, ⟨by decide +kernel, by decide +kernel, by decide +kernel⟩, Nat.le_of_ble_eq_true rfl⟩
theorem im_X12_isDone : Cond.instanceMethod mX12_isDone.1 ∈ lw_tbl := List.mem_of_getElem? (i := 1430) (by decide +kernel)
theorem se_X12_isDone : Cond.selects mX12_isDone.1.cls mX12_isDone.1 mX12_isDone.1 ∈ lw_tbl := List.mem_of_getElem? (i := 55) (by decide +kernel)
theorem mk_X12_isRuled : ab_mk mX12_isRuled 0 := ⟨List.mem_of_getElem? (i := 1435) (by decide +kernel), it_X12, ⟨by decide +kernel, by decide +kernel, by decide +kernel⟩, Nat.le_of_ble_eq_true rfl⟩
theorem im_X12_isRuled : Cond.instanceMethod mX12_isRuled.1 ∈ lw_tbl := List.mem_of_getElem? (i := 1434) (by decide +kernel)
theorem se_X12_isRuled : Cond.selects mX12_isRuled.1.cls mX12_isRuled.1 mX12_isRuled.1 ∈ lw_tbl := List.mem_of_getElem? (i := 56) (by decide +kernel)
theorem mk_X12_text : ab_mk mX12_text 0 := ⟨List.mem_of_getElem? (i := 1411) (by decide +kernel), it_X12, ⟨by decide +kernel, by decide +kernel, by decide +kernel⟩, Nat.le_of_ble_eq_true rfl⟩
theorem im_X12_text : Cond.instanceMethod mX12_text.1 ∈ lw_tbl := List.mem_of_getElem? (i := 1409) (by decide +kernel)
theorem se_X12_text : Cond.selects mX12_text.1.cls mX12_text.1 mX12_text.1 ∈ lw_tbl := List.mem_of_getElem? (i := 1410) (by decide +kernel)
theorem mk_X12_done : ab_mk mX12_done 1 := ⟨List.mem_of_getElem? (i := 1427) (by decide +kernel), it_X12, ⟨by decide +kernel, by decide +kernel, by decide +kernel⟩, Nat.le_of_ble_eq_true rfl⟩
theorem im_X12_done : Cond.instanceMethod mX12_done.1 ∈ lw_tbl := List.mem_of_getElem? (i := 1426) (by decide +kernel)
theorem se_X12_done : Cond.selects mX12_done.1.cls mX12_done.1 mX12_done.1 ∈ lw_tbl := List.mem_of_getElem? (i := 54) (by decide +kernel)
theorem mk_X12_image : ab_mk mX12_image 0 := ⟨List.mem_of_getElem? (i := 1439) (by decide +kernel), it_X12, ⟨by decide +kernel, by decide +kernel, by decide +kernel⟩, Nat.le_of_ble_eq_true rfl⟩
theorem im_X12_image : Cond.instanceMethod mX12_image.1 ∈ lw_tbl := List.mem_of_getElem? (i := 1437) (by decide +kernel)
theorem se_X12_image : Cond.selects mX12_image.1.cls mX12_image.1 mX12_image.1 ∈ lw_tbl := List.mem_of_getElem? (i := 1438) (by decide +kernel)
theorem mk_X12_on : ab_mk mX12_on 0 := ⟨List.mem_of_getElem? (i := 1443) (by decide +kernel), it_X12, ⟨by decide +kernel, by decide +kernel, by decide +kernel⟩, Nat.le_of_ble_eq_true rfl⟩
theorem im_X12_on : Cond.instanceMethod mX12_on.1 ∈ lw_tbl := List.mem_of_getElem? (i := 1441) (by decide +kernel)
theorem se_X12_on : Cond.selects mX12_on.1.cls mX12_on.1 mX12_on.1 ∈ lw_tbl := List.mem_of_getElem? (i := 1442) (by decide +kernel)
theorem mk_X12_count : ab_mk mX12_count 1 := ⟨List.mem_of_getElem? (i := 1447) (by decide +kernel), it_X12, ⟨by decide +kernel, by decide +kernel, by decide +kernel⟩, Nat.le_of_ble_eq_true rfl⟩
theorem im_X12_count : Cond.instanceMethod mX12_count.1 ∈ lw_tbl := List.mem_of_getElem? (i := 1445) (by decide +kernel)
theorem se_X12_count : Cond.selects mX12_count.1.cls mX12_count.1 mX12_count.1 ∈ lw_tbl := List.mem_of_getElem? (i := 1446) (by decide +kernel)
theorem mk_Jxe99ae_isNaN_b9ae7 : ab_mk mJxe99ae_isNaN_b9ae7 1 := ⟨List.mem_of_getElem? (i := 1359) (by decide +kernel), it_Jxe99ae, ⟨by decide +kernel, by decide +kernel, by decide +kernel⟩, Nat.le_of_ble_eq_true rfl⟩
theorem st_Jxe99ae_isNaN_b9ae7 : Cond.static mJxe99ae_isNaN_b9ae7.1 ∈ lw_tbl := List.mem_of_getElem? (i := 1358) (by decide +kernel)
theorem mk_Jxe99ae_doubleToLongBits_ccdee : ab_mk mJxe99ae_doubleToLongBits_ccdee 1 := ⟨List.mem_of_getElem? (i := 1356) (by decide +kernel), it_Jxe99ae, ⟨by decide +kernel, by decide +kernel, by decide +kernel⟩, Nat.le_of_ble_eq_true rfl⟩
theorem st_Jxe99ae_doubleToLongBits_ccdee : Cond.static mJxe99ae_doubleToLongBits_ccdee.1 ∈ lw_tbl := List.mem_of_getElem? (i := 1355) (by decide +kernel)
theorem mk_Jxf58ca_isNaN_12338 : ab_mk mJxf58ca_isNaN_12338 1 := ⟨List.mem_of_getElem? (i := 1340) (by decide +kernel), it_Jxf58ca, ⟨by decide +kernel, by decide +kernel, by decide +kernel⟩, Nat.le_of_ble_eq_true rfl⟩
theorem st_Jxf58ca_isNaN_12338 : Cond.static mJxf58ca_isNaN_12338.1 ∈ lw_tbl := List.mem_of_getElem? (i := 1339) (by decide +kernel)
theorem mk_Jxf58ca_floatToIntBits_5c35a : ab_mk mJxf58ca_floatToIntBits_5c35a 1 := ⟨List.mem_of_getElem? (i := 1337) (by decide +kernel), it_Jxf58ca, ⟨by decide +kernel, by decide +kernel, by decide +kernel⟩, Nat.le_of_ble_eq_true rfl⟩
theorem st_Jxf58ca_floatToIntBits_5c35a : Cond.static mJxf58ca_floatToIntBits_5c35a.1 ∈ lw_tbl := List.mem_of_getElem? (i := 1336) (by decide +kernel)
theorem mk_J6_numberOfTrailingZeros_0f7a4 : ab_mk mJ6_numberOfTrailingZeros_0f7a4 1 := ⟨List.mem_of_getElem? (i := 1231) (by decide +kernel), it_J6, ⟨by decide +kernel, by decide +kernel, by decide +kernel⟩, Nat.le_of_ble_eq_true rfl⟩
theorem st_J6_numberOfTrailingZeros_0f7a4 : Cond.static mJ6_numberOfTrailingZeros_0f7a4.1 ∈ lw_tbl := List.mem_of_getElem? (i := 1230) (by decide +kernel)
theorem mk_J13_numberOfTrailingZeros_95d88 : ab_mk mJ13_numberOfTrailingZeros_95d88 1 := ⟨List.mem_of_getElem? (i := 1228) (by decide +kernel), it_J13, ⟨by decide +kernel, by decide +kernel, by decide +kernel⟩, Nat.le_of_ble_eq_true rfl⟩
theorem st_J13_numberOfTrailingZeros_95d88 : Cond.static mJ13_numberOfTrailingZeros_95d88.1 ∈ lw_tbl := List.mem_of_getElem? (i := 1227) (by decide +kernel)
theorem mk_J9_abs_067f4 : ab_mk mJ9_abs_067f4 1 := ⟨List.mem_of_getElem? (i := 409) (by decide +kernel), it_J9, ⟨by decide +kernel, by decide +kernel, by decide +kernel⟩, Nat.le_of_ble_eq_true rfl⟩
theorem st_J9_abs_067f4 : Cond.static mJ9_abs_067f4.1 ∈ lw_tbl := List.mem_of_getElem? (i := 408) (by decide +kernel)
theorem ml_L_9 : ab_ki RL 9 mX11_init := ⟨List.mem_of_getElem? (i := 79) (by decide +kernel), im_X11_init, by decide +kernel⟩
theorem ml_X11_1 : Cond.methodLink RX11 1 ⟨"java/lang/Object", "<init>", "()V"⟩ ∈ lw_tbl := List.mem_of_getElem? (i := 82) (by decide +kernel)
theorem ml_X11_9 : ab_ki RX11 9 mX0_init := ⟨List.mem_of_getElem? (i := 87) (by decide +kernel), im_X0_init, by decide +kernel⟩
theorem ml_X0_5 : Cond.methodLink RX0 5 ⟨"java/lang/Object", "<init>", "()V"⟩ ∈ lw_tbl := List.mem_of_getElem? (i := 90) (by decide +kernel)
theorem ml_X11_18 : ab_ki RX11 18 mX8_init := ⟨List.mem_of_getElem? (i := 136) (by decide +kernel), im_X8_init, by decide +kernel⟩
theorem ml_X8_3 : Cond.methodLink RX8 3 ⟨"java/lang/Object", "<init>", "()V"⟩ ∈ lw_tbl := List.mem_of_getElem? (i := 139) (by decide +kernel)
theorem ml_X11_25 : ab_ki RX11 25 mX9_init := ⟨List.mem_of_getElem? (i := 159) (by decide +kernel), im_X9_init, by decide +kernel⟩
theorem ml_X9_1 : Cond.methodLink RX9 1 ⟨"java/lang/Object", "<init>", "()V"⟩ ∈ lw_tbl := List.mem_of_getElem? (i := 162) (by decide +kernel)
theorem ml_X11_32 : ab_ki RX11 32 mX4_init := ⟨List.mem_of_getElem? (i := 186) (by decide +kernel), im_X4_init, by decide +kernel⟩
theorem ml_X4_5 : Cond.methodLink RX4 5 ⟨"java/lang/Object", "<init>", "()V"⟩ ∈ lw_tbl := List.mem_of_getElem? (i := 189) (by decide +kernel)
theorem ml_X11_39 : ab_ki RX11 39 mX3_init := ⟨List.mem_of_getElem? (i := 209) (by decide +kernel), im_X3_init, by decide +kernel⟩
theorem ml_X3_1 : Cond.methodLink RX3 1 ⟨"java/lang/Object", "<init>", "()V"⟩ ∈ lw_tbl := List.mem_of_getElem? (i := 212) (by decide +kernel)
theorem ml_X3_9 : ab_ki RX3 9 mX8_init := ⟨List.mem_of_getElem? (i := 214) (by decide +kernel), im_X8_init, by decide +kernel⟩
theorem ml_X3_18 : ab_ki RX3 18 mX9_init := ⟨List.mem_of_getElem? (i := 216) (by decide +kernel), im_X9_init, by decide +kernel⟩
theorem ml_X11_60 : ab_ki RX11 60 mX7_init := ⟨List.mem_of_getElem? (i := 242) (by decide +kernel), im_X7_init, by decide +kernel⟩
theorem ml_X7_1 : Cond.methodLink RX7 1 ⟨"java/lang/Object", "<init>", "()V"⟩ ∈ lw_tbl := List.mem_of_getElem? (i := 245) (by decide +kernel)
theorem ml_X11_61 : ab_ki RX11 61 mX5_init := ⟨List.mem_of_getElem? (i := 260) (by decide +kernel), im_X5_init, by decide +kernel⟩
theorem ml_X5_1 : Cond.methodLink RX5 1 ⟨"java/lang/Object", "<init>", "()V"⟩ ∈ lw_tbl := List.mem_of_getElem? (i := 263) (by decide +kernel)
theorem ml_X11_62 : ab_kv RX11 62 mX0_cutAnew := ⟨List.mem_of_getElem? (i := 273) (by decide +kernel), im_X0_cutAnew, se_X0_cutAnew⟩
theorem ml_X0_47 : ab_ks RX0 47 mX0_cutBlock := ⟨List.mem_of_getElem? (i := 277) (by decide +kernel), st_X0_cutBlock⟩
theorem ml_X0_51 : ab_kv RX0 51 mX0_lay := ⟨List.mem_of_getElem? (i := 280) (by decide +kernel), im_X0_lay, se_X0_lay⟩
theorem ml_X0_55 : ab_kv RX0 55 mX0_has := ⟨List.mem_of_getElem? (i := 284) (by decide +kernel), im_X0_has, se_X0_has⟩
theorem ml_X0_59 : ab_ks RX0 59 mX0_isCell := ⟨List.mem_of_getElem? (i := 288) (by decide +kernel), st_X0_isCell⟩
theorem ml_L_13 : ab_kv RL 13 mX11_letter := ⟨List.mem_of_getElem? (i := 316) (by decide +kernel), im_X11_letter, se_X11_letter⟩
theorem ml_X11_66 : ab_kv RX11 66 mX11_refuse := ⟨List.mem_of_getElem? (i := 320) (by decide +kernel), im_X11_refuse, se_X11_refuse⟩
theorem ml_X11_70 : ab_kv RX11 70 mX4_isFull := ⟨List.mem_of_getElem? (i := 324) (by decide +kernel), im_X4_isFull, se_X4_isFull⟩
theorem ml_X11_74 : ab_kv RX11 74 mX4_append := ⟨List.mem_of_getElem? (i := 328) (by decide +kernel), im_X4_append, se_X4_append⟩
theorem ml_L_18 : ab_kv RL 18 mX11_text := ⟨List.mem_of_getElem? (i := 332) (by decide +kernel), im_X11_text, se_X11_text⟩
theorem ml_X11_82 : ab_kv RX11 82 mX11_faultOfLetters := ⟨List.mem_of_getElem? (i := 336) (by decide +kernel), im_X11_faultOfLetters, se_X11_faultOfLetters⟩
theorem ml_X11_359 : ab_kv RX11 359 mX4_read := ⟨List.mem_of_getElem? (i := 340) (by decide +kernel), im_X4_read, se_X4_read⟩
theorem ml_X4_26 : ab_kv RX4 26 mX4_firstWrongFrom := ⟨List.mem_of_getElem? (i := 344) (by decide +kernel), im_X4_firstWrongFrom, se_X4_firstWrongFrom⟩
theorem ml_X4_30 : ab_kv RX4 30 mX4_letterAt := ⟨List.mem_of_getElem? (i := 348) (by decide +kernel), im_X4_letterAt, se_X4_letterAt⟩
theorem ml_X4_34 : ab_ks RX4 34 mX4_digitsBehind := ⟨List.mem_of_getElem? (i := 352) (by decide +kernel), st_X4_digitsBehind⟩
theorem ml_X11_362 : ab_kv RX11 362 mX11_canBe := ⟨List.mem_of_getElem? (i := 355) (by decide +kernel), im_X11_canBe, se_X11_canBe⟩
theorem ml_X11_365 : ab_kv RX11 365 mX4_letterAt := ⟨List.mem_of_getElem? (i := 359) (by decide +kernel), im_X4_letterAt, se_X4_letterAt⟩
theorem ml_X11_369 : ab_kv RX11 369 mX4_digit := ⟨List.mem_of_getElem? (i := 360) (by decide +kernel), im_X4_digit, se_X4_digit⟩
theorem ml_X11_372 : ab_kv RX11 372 mX4_twoDigits := ⟨List.mem_of_getElem? (i := 364) (by decide +kernel), im_X4_twoDigits, se_X4_twoDigits⟩
theorem ml_X4_38 : ab_kv RX4 38 mX4_digit := ⟨List.mem_of_getElem? (i := 368) (by decide +kernel), im_X4_digit, se_X4_digit⟩
theorem ml_X11_98 : ab_ks RX11 98 mX0_isCell := ⟨List.mem_of_getElem? (i := 369) (by decide +kernel), st_X0_isCell⟩
theorem ml_X11_375 : ab_kv RX11 375 mX11_areWays := ⟨List.mem_of_getElem? (i := 370) (by decide +kernel), im_X11_areWays, se_X11_areWays⟩
theorem ml_X11_139 : ab_ks RX11 139 mX11_isWay := ⟨List.mem_of_getElem? (i := 374) (by decide +kernel), st_X11_isWay⟩
theorem ml_X11_219 : ab_ks RX11 219 mX10_isKind := ⟨List.mem_of_getElem? (i := 377) (by decide +kernel), st_X10_isKind⟩
theorem ml_X11_224 : ab_ks RX11 224 mX9_areThree := ⟨List.mem_of_getElem? (i := 380) (by decide +kernel), st_X9_areThree⟩
theorem ml_X11_92 : ab_kv RX11 92 mX11_runStatement := ⟨List.mem_of_getElem? (i := 383) (by decide +kernel), im_X11_runStatement, se_X11_runStatement⟩
theorem ml_X11_164 : ab_kv RX11 164 mX8_become := ⟨List.mem_of_getElem? (i := 387) (by decide +kernel), im_X8_become, se_X8_become⟩
theorem ml_X11_378 : ab_kv RX11 378 mX4_fourDigits := ⟨List.mem_of_getElem? (i := 391) (by decide +kernel), im_X4_fourDigits, se_X4_fourDigits⟩
theorem ml_X4_41 : ab_kv RX4 41 mX4_twoDigits := ⟨List.mem_of_getElem? (i := 395) (by decide +kernel), im_X4_twoDigits, se_X4_twoDigits⟩
theorem ml_X11_192 : ab_kv RX11 192 mX9_addPoint := ⟨List.mem_of_getElem? (i := 396) (by decide +kernel), im_X9_addPoint, se_X9_addPoint⟩
theorem ml_X9_28 : ab_ks RX9 28 mX9_fractionOf := ⟨List.mem_of_getElem? (i := 401) (by decide +kernel), st_X9_fractionOf⟩
theorem ml_X9_35 : ab_ks RX9 35 mX2_inLeastTerms := ⟨List.mem_of_getElem? (i := 404) (by decide +kernel), st_X2_inLeastTerms⟩
theorem ml_X2_16 : ab_ks RX2 16 mJ9_abs_067f4 := ⟨List.mem_of_getElem? (i := 407) (by decide +kernel), st_J9_abs_067f4⟩
theorem ml_X2_22 : ab_ks RX2 22 mX2_greatestDivisor := ⟨List.mem_of_getElem? (i := 410) (by decide +kernel), st_X2_greatestDivisor⟩
theorem ml_X2_26 : ab_ki RX2 26 mX2_init := ⟨List.mem_of_getElem? (i := 415) (by decide +kernel), im_X2_init, by decide +kernel⟩
theorem ml_X2_1 : Cond.methodLink RX2 1 ⟨"java/lang/Object", "<init>", "()V"⟩ ∈ lw_tbl := List.mem_of_getElem? (i := 418) (by decide +kernel)
theorem ml_X9_32 : ab_ki RX9 32 mX6_init := ⟨List.mem_of_getElem? (i := 428) (by decide +kernel), im_X6_init, by decide +kernel⟩
theorem ml_X6_1 : Cond.methodLink RX6 1 ⟨"java/lang/Object", "<init>", "()V"⟩ ∈ lw_tbl := List.mem_of_getElem? (i := 431) (by decide +kernel)
theorem ml_X11_231 : ab_kv RX11 231 mX9_addTriangle := ⟨List.mem_of_getElem? (i := 443) (by decide +kernel), im_X9_addTriangle, se_X9_addTriangle⟩
theorem ml_X9_41 : ab_ks RX9 41 mX9_areThree := ⟨List.mem_of_getElem? (i := 447) (by decide +kernel), st_X9_areThree⟩
theorem ml_X9_45 : ab_ks RX9 45 mX10_lyingOn := ⟨List.mem_of_getElem? (i := 448) (by decide +kernel), st_X10_lyingOn⟩
theorem ml_X10_29 : ab_ks RX10 29 mX10_isUnder := ⟨List.mem_of_getElem? (i := 451) (by decide +kernel), st_X10_isUnder⟩
theorem ml_X10_83 : ab_ks RX10 83 mX10_isKind := ⟨List.mem_of_getElem? (i := 454) (by decide +kernel), st_X10_isKind⟩
theorem ml_X10_33 : ab_kv RX10 33 mX6_shade := ⟨List.mem_of_getElem? (i := 457) (by decide +kernel), im_X6_shade, se_X6_shade⟩
theorem ml_X6_16 : ab_kv RX6 16 mX2_valuation := ⟨List.mem_of_getElem? (i := 461) (by decide +kernel), im_X2_valuation, se_X2_valuation⟩
theorem ml_X2_33 : ab_ks RX2 33 mX2_twosIn := ⟨List.mem_of_getElem? (i := 465) (by decide +kernel), st_X2_twosIn⟩
theorem ml_X10_42 : ab_kv RX10 42 mX2_minus := ⟨List.mem_of_getElem? (i := 468) (by decide +kernel), im_X2_minus, se_X2_minus⟩
theorem ml_X2_29 : ab_ks RX2 29 mX2_inLeastTerms := ⟨List.mem_of_getElem? (i := 472) (by decide +kernel), st_X2_inLeastTerms⟩
theorem ml_X10_51 : ab_kv RX10 51 mX2_times := ⟨List.mem_of_getElem? (i := 473) (by decide +kernel), im_X2_times, se_X2_times⟩
theorem ml_X10_58 : ab_ks RX10 58 mJ9_abs_067f4 := ⟨List.mem_of_getElem? (i := 477) (by decide +kernel), st_J9_abs_067f4⟩
theorem ml_X10_76 : ab_ks RX10 76 mX2_inLeastTerms := ⟨List.mem_of_getElem? (i := 483) (by decide +kernel), st_X2_inLeastTerms⟩
theorem ml_X10_80 : ab_ki RX10 80 mX10_init := ⟨List.mem_of_getElem? (i := 486) (by decide +kernel), im_X10_init, by decide +kernel⟩
theorem ml_X10_1 : Cond.methodLink RX10 1 ⟨"java/lang/Object", "<init>", "()V"⟩ ∈ lw_tbl := List.mem_of_getElem? (i := 489) (by decide +kernel)
theorem ml_X11_95 : ab_kv RX11 95 mX4_clear := ⟨List.mem_of_getElem? (i := 517) (by decide +kernel), im_X4_clear, se_X4_clear⟩
theorem ml_L_23 : ab_kv RL 23 mX11_board := ⟨List.mem_of_getElem? (i := 521) (by decide +kernel), im_X11_board, se_X11_board⟩
theorem ml_L_28 : ab_kv RL 28 mX11_piece := ⟨List.mem_of_getElem? (i := 525) (by decide +kernel), im_X11_piece, se_X11_piece⟩
theorem ml_X11_105 : ab_kv RX11 105 mX0_has := ⟨List.mem_of_getElem? (i := 529) (by decide +kernel), im_X0_has, se_X0_has⟩
theorem ml_X11_109 : ab_kv RX11 109 mX0_pieceAt := ⟨List.mem_of_getElem? (i := 530) (by decide +kernel), im_X0_pieceAt, se_X0_pieceAt⟩
theorem ml_L_33 : ab_kv RL 33 mX11_of := ⟨List.mem_of_getElem? (i := 534) (by decide +kernel), im_X11_of, se_X11_of⟩
theorem ml_X11_113 : ab_kv RX11 113 mX0_hasPiece := ⟨List.mem_of_getElem? (i := 538) (by decide +kernel), im_X0_hasPiece, se_X0_hasPiece⟩
theorem ml_X11_117 : ab_kv RX11 117 mX0_wayOf := ⟨List.mem_of_getElem? (i := 542) (by decide +kernel), im_X0_wayOf, se_X0_wayOf⟩
theorem ml_X11_120 : ab_kv RX11 120 mX0_sizeOf := ⟨List.mem_of_getElem? (i := 546) (by decide +kernel), im_X0_sizeOf, se_X0_sizeOf⟩
theorem ml_X11_123 : ab_kv RX11 123 mX0_cornerX := ⟨List.mem_of_getElem? (i := 550) (by decide +kernel), im_X0_cornerX, se_X0_cornerX⟩
theorem ml_X11_126 : ab_kv RX11 126 mX0_cornerY := ⟨List.mem_of_getElem? (i := 554) (by decide +kernel), im_X0_cornerY, se_X0_cornerY⟩
theorem ml_X11_129 : ab_kv RX11 129 mX0_touching := ⟨List.mem_of_getElem? (i := 558) (by decide +kernel), im_X0_touching, se_X0_touching⟩
theorem ml_X0_63 : ab_kv RX0 63 mX0_touchAround := ⟨List.mem_of_getElem? (i := 562) (by decide +kernel), im_X0_touchAround, se_X0_touchAround⟩
theorem ml_X0_67 : ab_kv RX0 67 mX0_touch := ⟨List.mem_of_getElem? (i := 566) (by decide +kernel), im_X0_touch, se_X0_touch⟩
theorem ml_X0_70 : ab_kv RX0 70 mX0_pieceAt := ⟨List.mem_of_getElem? (i := 570) (by decide +kernel), im_X0_pieceAt, se_X0_pieceAt⟩
theorem ml_X0_74 : ab_kv RX0 74 mX0_hasPiece := ⟨List.mem_of_getElem? (i := 571) (by decide +kernel), im_X0_hasPiece, se_X0_hasPiece⟩
theorem ml_L_37 : ab_kv RL 37 mX11_within := ⟨List.mem_of_getElem? (i := 572) (by decide +kernel), im_X11_within, se_X11_within⟩
theorem ml_X11_132 : ab_kv RX11 132 mX0_inWindow := ⟨List.mem_of_getElem? (i := 576) (by decide +kernel), im_X0_inWindow, se_X0_inWindow⟩
theorem ml_L_42 : ab_kv RL 42 mX11_pieces := ⟨List.mem_of_getElem? (i := 580) (by decide +kernel), im_X11_pieces, se_X11_pieces⟩
theorem ml_X11_136 : ab_kv RX11 136 mX0_atBorder := ⟨List.mem_of_getElem? (i := 584) (by decide +kernel), im_X0_atBorder, se_X0_atBorder⟩
theorem ml_X0_78 : ab_kv RX0 78 mX0_inWindow := ⟨List.mem_of_getElem? (i := 588) (by decide +kernel), im_X0_inWindow, se_X0_inWindow⟩
theorem ml_X11_142 : ab_kv RX11 142 mX0_lyingIn := ⟨List.mem_of_getElem? (i := 589) (by decide +kernel), im_X0_lyingIn, se_X0_lyingIn⟩
theorem ml_L_46 : ab_kv RL 46 mX11_odds := ⟨List.mem_of_getElem? (i := 593) (by decide +kernel), im_X11_odds, se_X11_odds⟩
theorem ml_X11_145 : ab_ks RX11 145 mX11_isPartOfFraction := ⟨List.mem_of_getElem? (i := 597) (by decide +kernel), st_X11_isPartOfFraction⟩
theorem ml_X11_148 : ab_kv RX11 148 mX11_refuseFar := ⟨List.mem_of_getElem? (i := 600) (by decide +kernel), im_X11_refuseFar, se_X11_refuseFar⟩
theorem ml_X11_152 : ab_kv RX11 152 mX0_likelihood := ⟨List.mem_of_getElem? (i := 605) (by decide +kernel), im_X0_likelihood, se_X0_likelihood⟩
theorem ml_X0_82 : ab_ks RX0 82 mX2_inLeastTerms := ⟨List.mem_of_getElem? (i := 609) (by decide +kernel), st_X2_inLeastTerms⟩
theorem ml_X0_88 : ab_kv RX0 88 mX0_lyingIn := ⟨List.mem_of_getElem? (i := 610) (by decide +kernel), im_X0_lyingIn, se_X0_lyingIn⟩
theorem ml_X11_156 : ab_kv RX11 156 mX2_told := ⟨List.mem_of_getElem? (i := 611) (by decide +kernel), im_X2_told, se_X2_told⟩
theorem ml_L_51 : ab_kv RL 51 mX11_rule := ⟨List.mem_of_getElem? (i := 615) (by decide +kernel), im_X11_rule, se_X11_rule⟩
theorem ml_X11_161 : ab_kv RX11 161 mX8_wayOfPart := ⟨List.mem_of_getElem? (i := 619) (by decide +kernel), im_X8_wayOfPart, se_X8_wayOfPart⟩
theorem ml_L_55 : ab_kv RL 55 mX11_behind := ⟨List.mem_of_getElem? (i := 623) (by decide +kernel), im_X11_behind, se_X11_behind⟩
theorem ml_X11_167 : ab_kv RX11 167 mX8_lyingBehind := ⟨List.mem_of_getElem? (i := 627) (by decide +kernel), im_X8_lyingBehind, se_X8_lyingBehind⟩
theorem ml_X8_34 : ab_kv RX8 34 mX8_startWith := ⟨List.mem_of_getElem? (i := 631) (by decide +kernel), im_X8_startWith, se_X8_startWith⟩
theorem ml_X8_38 : ab_kv RX8 38 mX8_cutOnce := ⟨List.mem_of_getElem? (i := 635) (by decide +kernel), im_X8_cutOnce, se_X8_cutOnce⟩
theorem ml_X8_41 : ab_kv RX8 41 mX8_wayOfPart := ⟨List.mem_of_getElem? (i := 639) (by decide +kernel), im_X8_wayOfPart, se_X8_wayOfPart⟩
theorem ml_X8_28 : Cond.methodLink RX8 28 ⟨"java/lang/System", "arraycopy", "(Ljava/lang/Object;ILjava/lang/Object;II)V"⟩ ∈ lw_tbl := List.mem_of_getElem? (i := 640) (by decide +kernel)
theorem ml_L_60 : ab_kv RL 60 mX11_address := ⟨List.mem_of_getElem? (i := 643) (by decide +kernel), im_X11_address, se_X11_address⟩
theorem ml_X11_171 : ab_kv RX11 171 mX8_wayAt := ⟨List.mem_of_getElem? (i := 647) (by decide +kernel), im_X8_wayAt, se_X8_wayAt⟩
theorem ml_L_64 : ab_kv RL 64 mX11_meet := ⟨List.mem_of_getElem? (i := 651) (by decide +kernel), im_X11_meet, se_X11_meet⟩
theorem ml_X11_175 : ab_kv RX11 175 mX8_meeting := ⟨List.mem_of_getElem? (i := 655) (by decide +kernel), im_X8_meeting, se_X8_meeting⟩
theorem ml_X8_45 : ab_kv RX8 45 mX8_addFirstDigit := ⟨List.mem_of_getElem? (i := 659) (by decide +kernel), im_X8_addFirstDigit, se_X8_addFirstDigit⟩
theorem ml_L_68 : ab_kv RL 68 mX11_steady := ⟨List.mem_of_getElem? (i := 663) (by decide +kernel), im_X11_steady, se_X11_steady⟩
theorem ml_X11_179 : ab_kv RX11 179 mX8_steadyWays := ⟨List.mem_of_getElem? (i := 667) (by decide +kernel), im_X8_steadyWays, se_X8_steadyWays⟩
theorem ml_X8_48 : ab_kv RX8 48 mX8_waysBehind := ⟨List.mem_of_getElem? (i := 671) (by decide +kernel), im_X8_waysBehind, se_X8_waysBehind⟩
theorem ml_L_72 : ab_kv RL 72 mX11_falls := ⟨List.mem_of_getElem? (i := 675) (by decide +kernel), im_X11_falls, se_X11_falls⟩
theorem ml_X11_182 : ab_kv RX11 182 mX8_cutsToAlike := ⟨List.mem_of_getElem? (i := 679) (by decide +kernel), im_X8_cutsToAlike, se_X8_cutsToAlike⟩
theorem ml_L_76 : ab_kv RL 76 mX11_lots := ⟨List.mem_of_getElem? (i := 683) (by decide +kernel), im_X11_lots, se_X11_lots⟩
theorem ml_X11_185 : ab_kv RX11 185 mX8_drawLots := ⟨List.mem_of_getElem? (i := 687) (by decide +kernel), im_X8_drawLots, se_X8_drawLots⟩
theorem ml_L_80 : ab_kv RL 80 mX11_point := ⟨List.mem_of_getElem? (i := 694) (by decide +kernel), im_X11_point, se_X11_point⟩
theorem ml_L_84 : ab_kv RL 84 mX11_colour := ⟨List.mem_of_getElem? (i := 698) (by decide +kernel), im_X11_colour, se_X11_colour⟩
theorem ml_X11_196 : ab_kv RX11 196 mX9_hasPoint := ⟨List.mem_of_getElem? (i := 702) (by decide +kernel), im_X9_hasPoint, se_X9_hasPoint⟩
theorem ml_X11_203 : ab_kv RX11 203 mX6_shade := ⟨List.mem_of_getElem? (i := 706) (by decide +kernel), im_X6_shade, se_X6_shade⟩
theorem ml_X11_213 : ab_kv RX11 213 mX2_valuation := ⟨List.mem_of_getElem? (i := 707) (by decide +kernel), im_X2_valuation, se_X2_valuation⟩
theorem ml_L_88 : ab_kv RL 88 mX11_triangle := ⟨List.mem_of_getElem? (i := 708) (by decide +kernel), im_X11_triangle, se_X11_triangle⟩
theorem ml_L_92 : ab_kv RL 92 mX11_tri := ⟨List.mem_of_getElem? (i := 712) (by decide +kernel), im_X11_tri, se_X11_tri⟩
theorem ml_X11_235 : ab_kv RX11 235 mX9_hasTriangle := ⟨List.mem_of_getElem? (i := 716) (by decide +kernel), im_X9_hasTriangle, se_X9_hasTriangle⟩
theorem ml_X11_257 : ab_kv RX11 257 mX10_isRainbow := ⟨List.mem_of_getElem? (i := 720) (by decide +kernel), im_X10_isRainbow, se_X10_isRainbow⟩
theorem ml_L_96 : ab_kv RL 96 mX11_area := ⟨List.mem_of_getElem? (i := 724) (by decide +kernel), im_X11_area, se_X11_area⟩
theorem ml_L_100 : ab_kv RL 100 mX11_sum := ⟨List.mem_of_getElem? (i := 728) (by decide +kernel), im_X11_sum, se_X11_sum⟩
theorem ml_X11_263 : ab_kv RX11 263 mX9_hasSet := ⟨List.mem_of_getElem? (i := 732) (by decide +kernel), im_X9_hasSet, se_X9_hasSet⟩
theorem ml_X11_266 : ab_kv RX11 266 mX9_exactSum := ⟨List.mem_of_getElem? (i := 736) (by decide +kernel), im_X9_exactSum, se_X9_exactSum⟩
theorem ml_X9_49 : ab_kv RX9 49 mX9_isIn := ⟨List.mem_of_getElem? (i := 740) (by decide +kernel), im_X9_isIn, se_X9_isIn⟩
theorem ml_X9_59 : ab_kv RX9 59 mX2_isAbove := ⟨List.mem_of_getElem? (i := 745) (by decide +kernel), im_X2_isAbove, se_X2_isAbove⟩
theorem ml_X9_63 : ab_kv RX9 63 mX2_plus := ⟨List.mem_of_getElem? (i := 749) (by decide +kernel), im_X2_plus, se_X2_plus⟩
theorem ml_L_104 : ab_kv RL 104 mX11_even := ⟨List.mem_of_getElem? (i := 753) (by decide +kernel), im_X11_even, se_X11_even⟩
theorem ml_X11_269 : ab_kv RX11 269 mX9_evenOnes := ⟨List.mem_of_getElem? (i := 757) (by decide +kernel), im_X9_evenOnes, se_X9_evenOnes⟩
theorem ml_X9_67 : ab_kv RX9 67 mX2_valuation := ⟨List.mem_of_getElem? (i := 761) (by decide +kernel), im_X2_valuation, se_X2_valuation⟩
theorem ml_X11_272 : ab_kv RX11 272 mX9_rainbows := ⟨List.mem_of_getElem? (i := 762) (by decide +kernel), im_X9_rainbows, se_X9_rainbows⟩
theorem ml_X9_71 : ab_kv RX9 71 mX10_isRainbow := ⟨List.mem_of_getElem? (i := 766) (by decide +kernel), im_X10_isRainbow, se_X10_isRainbow⟩
theorem ml_X11_275 : ab_kv RX11 275 mX9_areAlike := ⟨List.mem_of_getElem? (i := 767) (by decide +kernel), im_X9_areAlike, se_X9_areAlike⟩
theorem ml_X9_75 : ab_kv RX9 75 mX2_equalTo := ⟨List.mem_of_getElem? (i := 771) (by decide +kernel), im_X2_equalTo, se_X2_equalTo⟩
theorem ml_L_108 : ab_kv RL 108 mX11_bits := ⟨List.mem_of_getElem? (i := 775) (by decide +kernel), im_X11_bits, se_X11_bits⟩
theorem ml_X11_278 : ab_kv RX11 278 mX2_asFloat := ⟨List.mem_of_getElem? (i := 779) (by decide +kernel), im_X2_asFloat, se_X2_asFloat⟩
theorem ml_X11_282 : ab_ks RX11 282 mX1_intBits := ⟨List.mem_of_getElem? (i := 783) (by decide +kernel), st_X1_intBits⟩
theorem ml_L_112 : ab_kv RL 112 mX11_bitsOf := ⟨List.mem_of_getElem? (i := 788) (by decide +kernel), im_X11_bitsOf, se_X11_bitsOf⟩
theorem ml_X11_288 : ab_kv RX11 288 mX9_floatSum := ⟨List.mem_of_getElem? (i := 792) (by decide +kernel), im_X9_floatSum, se_X9_floatSum⟩
theorem ml_X9_79 : ab_kv RX9 79 mX2_asFloat := ⟨List.mem_of_getElem? (i := 796) (by decide +kernel), im_X2_asFloat, se_X2_asFloat⟩
theorem ml_L_116 : ab_kv RL 116 mX11_longBits := ⟨List.mem_of_getElem? (i := 798) (by decide +kernel), im_X11_longBits, se_X11_longBits⟩
theorem ml_X11_293 : ab_kv RX11 293 mX9_doubleSum := ⟨List.mem_of_getElem? (i := 802) (by decide +kernel), im_X9_doubleSum, se_X9_doubleSum⟩
theorem ml_X9_83 : ab_kv RX9 83 mX2_asDouble := ⟨List.mem_of_getElem? (i := 806) (by decide +kernel), im_X2_asDouble, se_X2_asDouble⟩
theorem ml_X11_297 : ab_ks RX11 297 mX1_longBitsOfDouble := ⟨List.mem_of_getElem? (i := 810) (by decide +kernel), st_X1_longBitsOfDouble⟩
theorem ml_L_121 : ab_kv RL 121 mX11_rack := ⟨List.mem_of_getElem? (i := 817) (by decide +kernel), im_X11_rack, se_X11_rack⟩
theorem ml_X11_301 : ab_ks RX11 301 mX11_isRow := ⟨List.mem_of_getElem? (i := 821) (by decide +kernel), st_X11_isRow⟩
theorem ml_X11_304 : ab_kv RX11 304 mX7_makeFor := ⟨List.mem_of_getElem? (i := 824) (by decide +kernel), im_X7_makeFor, se_X7_makeFor⟩
theorem ml_L_125 : ab_kv RL 125 mX11_racks := ⟨List.mem_of_getElem? (i := 828) (by decide +kernel), im_X11_racks, se_X11_racks⟩
theorem ml_X11_307 : ab_kv RX11 307 mX7_isMissing := ⟨List.mem_of_getElem? (i := 832) (by decide +kernel), im_X7_isMissing, se_X7_isMissing⟩
theorem ml_X11_310 : ab_kv RX11 310 mX7_hasPlace := ⟨List.mem_of_getElem? (i := 836) (by decide +kernel), im_X7_hasPlace, se_X7_hasPlace⟩
theorem ml_X11_313 : ab_kv RX11 313 mX7_takes := ⟨List.mem_of_getElem? (i := 840) (by decide +kernel), im_X7_takes, se_X7_takes⟩
theorem ml_X7_25 : ab_ks RX7 25 mX10_isUnder := ⟨List.mem_of_getElem? (i := 844) (by decide +kernel), st_X10_isUnder⟩
theorem ml_L_129 : ab_kv RL 129 mX11_racked := ⟨List.mem_of_getElem? (i := 845) (by decide +kernel), im_X11_racked, se_X11_racked⟩
theorem ml_L_133 : ab_kv RL 133 mX11_like := ⟨List.mem_of_getElem? (i := 849) (by decide +kernel), im_X11_like, se_X11_like⟩
theorem ml_X11_320 : ab_kv RX11 320 mX7_copyFrom := ⟨List.mem_of_getElem? (i := 853) (by decide +kernel), im_X7_copyFrom, se_X7_copyFrom⟩
theorem ml_L_137 : ab_kv RL 137 mX11_list := ⟨List.mem_of_getElem? (i := 857) (by decide +kernel), im_X11_list, se_X11_list⟩
theorem ml_X11_325 : ab_kv RX11 325 mX5_makeZeros := ⟨List.mem_of_getElem? (i := 861) (by decide +kernel), im_X5_makeZeros, se_X5_makeZeros⟩
theorem ml_L_141 : ab_kv RL 141 mX11_put := ⟨List.mem_of_getElem? (i := 865) (by decide +kernel), im_X11_put, se_X11_put⟩
theorem ml_X11_328 : ab_kv RX11 328 mX5_isMissing := ⟨List.mem_of_getElem? (i := 869) (by decide +kernel), im_X5_isMissing, se_X5_isMissing⟩
theorem ml_X11_329 : ab_kv RX11 329 mX5_hasPlace := ⟨List.mem_of_getElem? (i := 873) (by decide +kernel), im_X5_hasPlace, se_X5_hasPlace⟩
theorem ml_L_145 : ab_kv RL 145 mX11_look := ⟨List.mem_of_getElem? (i := 877) (by decide +kernel), im_X11_look, se_X11_look⟩
theorem ml_L_149 : ab_kv RL 149 mX11_judge := ⟨List.mem_of_getElem? (i := 883) (by decide +kernel), im_X11_judge, se_X11_judge⟩
theorem ml_L_153 : ab_kv RL 153 mX11_image := ⟨List.mem_of_getElem? (i := 887) (by decide +kernel), im_X11_image, se_X11_image⟩
theorem ml_X11_337 : ab_kv RX11 337 mX3_take := ⟨List.mem_of_getElem? (i := 891) (by decide +kernel), im_X3_take, se_X3_take⟩
theorem ml_X3_38 : ab_kv RX3 38 mX8_copyFrom := ⟨List.mem_of_getElem? (i := 895) (by decide +kernel), im_X8_copyFrom, se_X8_copyFrom⟩
theorem ml_X3_42 : ab_kv RX3 42 mX9_copyFrom := ⟨List.mem_of_getElem? (i := 899) (by decide +kernel), im_X9_copyFrom, se_X9_copyFrom⟩
theorem ml_L_157 : ab_kv RL 157 mX11_on := ⟨List.mem_of_getElem? (i := 903) (by decide +kernel), im_X11_on, se_X11_on⟩
theorem ml_X11_345 : ab_kv RX11 345 mX3_giveBack := ⟨List.mem_of_getElem? (i := 907) (by decide +kernel), im_X3_giveBack, se_X3_giveBack⟩
theorem ml_X3_49 : ab_kv RX3 49 mX0_cutAnew := ⟨List.mem_of_getElem? (i := 911) (by decide +kernel), im_X0_cutAnew, se_X0_cutAnew⟩
theorem ml_L_161 : ab_kv RL 161 mX11_count := ⟨List.mem_of_getElem? (i := 912) (by decide +kernel), im_X11_count, se_X11_count⟩
theorem ml_L_12 : ab_ki RL 12 mX12_init := ⟨List.mem_of_getElem? (i := 918) (by decide +kernel), im_X12_init, by decide +kernel⟩
theorem ml_X12_23 : Cond.methodLink RX12 23 ⟨"java/lang/Object", "<init>", "()V"⟩ ∈ lw_tbl := List.mem_of_getElem? (i := 921) (by decide +kernel)
theorem ml_X12_112 : ab_kv RX12 112 mX12_lays := ⟨List.mem_of_getElem? (i := 922) (by decide +kernel), im_X12_lays, se_X12_lays⟩
theorem ml_X12_119 : ab_kv RX12 119 mX12_side := ⟨List.mem_of_getElem? (i := 926) (by decide +kernel), im_X12_side, se_X12_side⟩
theorem ml_X12_136 : ab_kv RX12 136 mX12_cuts := ⟨List.mem_of_getElem? (i := 930) (by decide +kernel), im_X12_cuts, se_X12_cuts⟩
theorem ml_X12_116 : ab_kv RX12 116 mX12_rulesAtFirst := ⟨List.mem_of_getElem? (i := 934) (by decide +kernel), im_X12_rulesAtFirst, se_X12_rulesAtFirst⟩
theorem ml_L_27 : ab_kv RL 27 mX12_board := ⟨List.mem_of_getElem? (i := 1068) (by decide +kernel), im_X12_board, se_X12_board⟩
theorem ml_X12_9 : ab_kv RX12 9 mX12_refused := ⟨List.mem_of_getElem? (i := 1072) (by decide +kernel), im_X12_refused, se_X12_refused⟩
theorem ml_X12_123 : ab_ks RX12 123 mX12_isIn := ⟨List.mem_of_getElem? (i := 1076) (by decide +kernel), st_X12_isIn⟩
theorem ml_L_32 : ab_kv RL 32 mX12_piece := ⟨List.mem_of_getElem? (i := 1079) (by decide +kernel), im_X12_piece, se_X12_piece⟩
theorem ml_X12_140 : ab_kv RX12 140 mX12_isCell := ⟨List.mem_of_getElem? (i := 1083) (by decide +kernel), im_X12_isCell, se_X12_isCell⟩
theorem ml_X12_144 : ab_kv RX12 144 mX12_cell := ⟨List.mem_of_getElem? (i := 1087) (by decide +kernel), im_X12_cell, se_X12_cell⟩
theorem ml_L_36 : ab_kv RL 36 mX12_of := ⟨List.mem_of_getElem? (i := 1091) (by decide +kernel), im_X12_of, se_X12_of⟩
theorem ml_X12_155 : ab_kv RX12 155 mX12_touching := ⟨List.mem_of_getElem? (i := 1095) (by decide +kernel), im_X12_touching, se_X12_touching⟩
theorem ml_X12_152 : ab_kv RX12 152 mX12_isTouching := ⟨List.mem_of_getElem? (i := 1099) (by decide +kernel), im_X12_isTouching, se_X12_isTouching⟩
theorem ml_X12_148 : ab_kv RX12 148 mX12_areBeside := ⟨List.mem_of_getElem? (i := 1103) (by decide +kernel), im_X12_areBeside, se_X12_areBeside⟩
theorem ml_L_41 : ab_kv RL 41 mX12_within := ⟨List.mem_of_getElem? (i := 1107) (by decide +kernel), im_X12_within, se_X12_within⟩
theorem ml_X12_158 : ab_kv RX12 158 mX12_isWithin := ⟨List.mem_of_getElem? (i := 1111) (by decide +kernel), im_X12_isWithin, se_X12_isWithin⟩
theorem ml_L_45 : ab_kv RL 45 mX12_pieces := ⟨List.mem_of_getElem? (i := 1115) (by decide +kernel), im_X12_pieces, se_X12_pieces⟩
theorem ml_X12_166 : ab_kv RX12 166 mX12_inWay := ⟨List.mem_of_getElem? (i := 1121) (by decide +kernel), im_X12_inWay, se_X12_inWay⟩
theorem ml_X12_169 : ab_kv RX12 169 mX12_edge := ⟨List.mem_of_getElem? (i := 1125) (by decide +kernel), im_X12_edge, se_X12_edge⟩
theorem ml_L_50 : ab_kv RL 50 mX12_odds := ⟨List.mem_of_getElem? (i := 1129) (by decide +kernel), im_X12_odds, se_X12_odds⟩
theorem ml_X12_174 : ab_ks RX12 174 mX12_isWay := ⟨List.mem_of_getElem? (i := 1133) (by decide +kernel), st_X12_isWay⟩
theorem ml_X12_178 : ab_kv RX12 178 mX12_refusedFar := ⟨List.mem_of_getElem? (i := 1137) (by decide +kernel), im_X12_refusedFar, se_X12_refusedFar⟩
theorem ml_X12_182 : ab_ks RX12 182 mX12_part := ⟨List.mem_of_getElem? (i := 1142) (by decide +kernel), st_X12_part⟩
theorem ml_X12_19 : ab_ks RX12 19 mX12_divisor := ⟨List.mem_of_getElem? (i := 1145) (by decide +kernel), st_X12_divisor⟩
theorem ml_X12_13 : ab_ks RX12 13 mJ9_abs_067f4 := ⟨List.mem_of_getElem? (i := 1148) (by decide +kernel), st_J9_abs_067f4⟩
theorem ml_L_54 : ab_kv RL 54 mX12_rule := ⟨List.mem_of_getElem? (i := 1149) (by decide +kernel), im_X12_rule, se_X12_rule⟩
theorem ml_L_59 : ab_kv RL 59 mX12_behind := ⟨List.mem_of_getElem? (i := 1153) (by decide +kernel), im_X12_behind, se_X12_behind⟩
theorem ml_X12_186 : ab_kv RX12 186 mX12_begins := ⟨List.mem_of_getElem? (i := 1157) (by decide +kernel), im_X12_begins, se_X12_begins⟩
theorem ml_X12_190 : ab_kv RX12 190 mX12_fallsAll := ⟨List.mem_of_getElem? (i := 1161) (by decide +kernel), im_X12_fallsAll, se_X12_fallsAll⟩
theorem ml_L_63 : ab_kv RL 63 mX12_address := ⟨List.mem_of_getElem? (i := 1165) (by decide +kernel), im_X12_address, se_X12_address⟩
theorem ml_L_67 : ab_kv RL 67 mX12_meet := ⟨List.mem_of_getElem? (i := 1169) (by decide +kernel), im_X12_meet, se_X12_meet⟩
theorem ml_X12_193 : ab_kv RX12 193 mX12_leastAlike := ⟨List.mem_of_getElem? (i := 1173) (by decide +kernel), im_X12_leastAlike, se_X12_leastAlike⟩
theorem ml_X12_196 : ab_kv RX12 196 mX12_leads := ⟨List.mem_of_getElem? (i := 1177) (by decide +kernel), im_X12_leads, se_X12_leads⟩
theorem ml_L_71 : ab_kv RL 71 mX12_steady := ⟨List.mem_of_getElem? (i := 1181) (by decide +kernel), im_X12_steady, se_X12_steady⟩
theorem ml_X12_199 : ab_ks RX12 199 mX12_has := ⟨List.mem_of_getElem? (i := 1185) (by decide +kernel), st_X12_has⟩
theorem ml_L_75 : ab_kv RL 75 mX12_falls := ⟨List.mem_of_getElem? (i := 1188) (by decide +kernel), im_X12_falls, se_X12_falls⟩
theorem ml_L_79 : ab_kv RL 79 mX12_lots := ⟨List.mem_of_getElem? (i := 1192) (by decide +kernel), im_X12_lots, se_X12_lots⟩
theorem ml_L_83 : ab_kv RL 83 mX12_point := ⟨List.mem_of_getElem? (i := 1199) (by decide +kernel), im_X12_point, se_X12_point⟩
theorem ml_X12_210 : ab_kv RX12 210 mX12_comesPoint := ⟨List.mem_of_getElem? (i := 1203) (by decide +kernel), im_X12_comesPoint, se_X12_comesPoint⟩
theorem ml_L_87 : ab_kv RL 87 mX12_colour := ⟨List.mem_of_getElem? (i := 1207) (by decide +kernel), im_X12_colour, se_X12_colour⟩
theorem ml_X12_227 : ab_kv RX12 227 mX12_isPoint := ⟨List.mem_of_getElem? (i := 1211) (by decide +kernel), im_X12_isPoint, se_X12_isPoint⟩
theorem ml_X12_232 : ab_kv RX12 232 mX12_valuationOf := ⟨List.mem_of_getElem? (i := 1216) (by decide +kernel), im_X12_valuationOf, se_X12_valuationOf⟩
theorem ml_X12_223 : ab_ks RX12 223 mX12_valuation := ⟨List.mem_of_getElem? (i := 1220) (by decide +kernel), st_X12_valuation⟩
theorem ml_X12_220 : ab_ks RX12 220 mX12_twos := ⟨List.mem_of_getElem? (i := 1223) (by decide +kernel), st_X12_twos⟩
theorem ml_X12_214 : ab_ks RX12 214 mJ13_numberOfTrailingZeros_95d88 := ⟨List.mem_of_getElem? (i := 1226) (by decide +kernel), st_J13_numberOfTrailingZeros_95d88⟩
theorem ml_J13_311 : ab_ks RJ13 311 mJ6_numberOfTrailingZeros_0f7a4 := ⟨List.mem_of_getElem? (i := 1229) (by decide +kernel), st_J6_numberOfTrailingZeros_0f7a4⟩
theorem ml_X12_235 : ab_ks RX12 235 mX12_colourBy := ⟨List.mem_of_getElem? (i := 1233) (by decide +kernel), st_X12_colourBy⟩
theorem ml_L_91 : ab_kv RL 91 mX12_triangle := ⟨List.mem_of_getElem? (i := 1236) (by decide +kernel), im_X12_triangle, se_X12_triangle⟩
theorem ml_X12_243 : ab_kv RX12 243 mX12_areThree := ⟨List.mem_of_getElem? (i := 1241) (by decide +kernel), im_X12_areThree, se_X12_areThree⟩
theorem ml_X12_247 : ab_kv RX12 247 mX12_comesTriangle := ⟨List.mem_of_getElem? (i := 1245) (by decide +kernel), im_X12_comesTriangle, se_X12_comesTriangle⟩
theorem ml_L_95 : ab_kv RL 95 mX12_tri := ⟨List.mem_of_getElem? (i := 1249) (by decide +kernel), im_X12_tri, se_X12_tri⟩
theorem ml_X12_285 : ab_kv RX12 285 mX12_isTriangle := ⟨List.mem_of_getElem? (i := 1253) (by decide +kernel), im_X12_isTriangle, se_X12_isTriangle⟩
theorem ml_X12_288 : ab_kv RX12 288 mX12_coloursOf := ⟨List.mem_of_getElem? (i := 1257) (by decide +kernel), im_X12_coloursOf, se_X12_coloursOf⟩
theorem ml_X12_279 : ab_ks RX12 279 mX12_isUnder := ⟨List.mem_of_getElem? (i := 1261) (by decide +kernel), st_X12_isUnder⟩
theorem ml_X12_291 : ab_kv RX12 291 mX12_areaValuation := ⟨List.mem_of_getElem? (i := 1264) (by decide +kernel), im_X12_areaValuation, se_X12_areaValuation⟩
theorem ml_X12_282 : ab_kv RX12 282 mX12_areaOf := ⟨List.mem_of_getElem? (i := 1268) (by decide +kernel), im_X12_areaOf, se_X12_areaOf⟩
theorem ml_X12_264 : ab_kv RX12 264 mX12_more := ⟨List.mem_of_getElem? (i := 1272) (by decide +kernel), im_X12_more, se_X12_more⟩
theorem ml_X12_257 : ab_kv RX12 257 mX12_over := ⟨List.mem_of_getElem? (i := 1276) (by decide +kernel), im_X12_over, se_X12_over⟩
theorem ml_X12_261 : ab_kv RX12 261 mX12_under := ⟨List.mem_of_getElem? (i := 1280) (by decide +kernel), im_X12_under, se_X12_under⟩
theorem ml_X12_268 : ab_kv RX12 268 mX12_belowOf := ⟨List.mem_of_getElem? (i := 1284) (by decide +kernel), im_X12_belowOf, se_X12_belowOf⟩
theorem ml_X12_271 : ab_kv RX12 271 mX12_tells := ⟨List.mem_of_getElem? (i := 1288) (by decide +kernel), im_X12_tells, se_X12_tells⟩
theorem ml_L_99 : ab_kv RL 99 mX12_area := ⟨List.mem_of_getElem? (i := 1294) (by decide +kernel), im_X12_area, se_X12_area⟩
theorem ml_L_103 : ab_kv RL 103 mX12_sum := ⟨List.mem_of_getElem? (i := 1298) (by decide +kernel), im_X12_sum, se_X12_sum⟩
theorem ml_X12_296 : ab_kv RX12 296 mX12_isSet := ⟨List.mem_of_getElem? (i := 1302) (by decide +kernel), im_X12_isSet, se_X12_isSet⟩
theorem ml_X12_299 : ab_kv RX12 299 mX12_isGreat := ⟨List.mem_of_getElem? (i := 1306) (by decide +kernel), im_X12_isGreat, se_X12_isGreat⟩
theorem ml_L_107 : ab_kv RL 107 mX12_even := ⟨List.mem_of_getElem? (i := 1311) (by decide +kernel), im_X12_even, se_X12_even⟩
theorem ml_X12_303 : ab_kv RX12 303 mX12_evens := ⟨List.mem_of_getElem? (i := 1315) (by decide +kernel), im_X12_evens, se_X12_evens⟩
theorem ml_X12_306 : ab_kv RX12 306 mX12_rainbows := ⟨List.mem_of_getElem? (i := 1319) (by decide +kernel), im_X12_rainbows, se_X12_rainbows⟩
theorem ml_X12_309 : ab_kv RX12 309 mX12_isAlike := ⟨List.mem_of_getElem? (i := 1323) (by decide +kernel), im_X12_isAlike, se_X12_isAlike⟩
theorem ml_L_111 : ab_kv RL 111 mX12_bits := ⟨List.mem_of_getElem? (i := 1327) (by decide +kernel), im_X12_bits, se_X12_bits⟩
theorem ml_X12_312 : ab_kv RX12 312 mX12_floatOf := ⟨List.mem_of_getElem? (i := 1331) (by decide +kernel), im_X12_floatOf, se_X12_floatOf⟩
theorem ml_X12_316 : ab_ks RX12 316 mJxf58ca_floatToIntBits_5c35a := ⟨List.mem_of_getElem? (i := 1335) (by decide +kernel), st_Jxf58ca_floatToIntBits_5c35a⟩
theorem ml_Jxf58ca_59 : ab_ks RJxf58ca 59 mJxf58ca_isNaN_12338 := ⟨List.mem_of_getElem? (i := 1338) (by decide +kernel), st_Jxf58ca_isNaN_12338⟩
theorem ml_Jxf58ca_74 : Cond.methodLink RJxf58ca 74 ⟨"java/lang/Float", "floatToRawIntBits", "(F)I"⟩ ∈ lw_tbl := List.mem_of_getElem? (i := 1341) (by decide +kernel)
theorem ml_L_115 : ab_kv RL 115 mX12_bitsOf := ⟨List.mem_of_getElem? (i := 1345) (by decide +kernel), im_X12_bitsOf, se_X12_bitsOf⟩
theorem ml_L_120 : ab_kv RL 120 mX12_longBits := ⟨List.mem_of_getElem? (i := 1350) (by decide +kernel), im_X12_longBits, se_X12_longBits⟩
theorem ml_X12_323 : ab_ks RX12 323 mJxe99ae_doubleToLongBits_ccdee := ⟨List.mem_of_getElem? (i := 1354) (by decide +kernel), st_Jxe99ae_doubleToLongBits_ccdee⟩
theorem ml_Jxe99ae_122 : ab_ks RJxe99ae 122 mJxe99ae_isNaN_b9ae7 := ⟨List.mem_of_getElem? (i := 1357) (by decide +kernel), st_Jxe99ae_isNaN_b9ae7⟩
theorem ml_Jxe99ae_134 : Cond.methodLink RJxe99ae 134 ⟨"java/lang/Double", "doubleToRawLongBits", "(D)J"⟩ ∈ lw_tbl := List.mem_of_getElem? (i := 1360) (by decide +kernel)
theorem ml_L_124 : ab_kv RL 124 mX12_rack := ⟨List.mem_of_getElem? (i := 1364) (by decide +kernel), im_X12_rack, se_X12_rack⟩
theorem ml_X12_329 : ab_ks RX12 329 mX12_isRack := ⟨List.mem_of_getElem? (i := 1368) (by decide +kernel), st_X12_isRack⟩
theorem ml_L_128 : ab_kv RL 128 mX12_racks := ⟨List.mem_of_getElem? (i := 1371) (by decide +kernel), im_X12_racks, se_X12_racks⟩
theorem ml_L_132 : ab_kv RL 132 mX12_racked := ⟨List.mem_of_getElem? (i := 1375) (by decide +kernel), im_X12_racked, se_X12_racked⟩
theorem ml_L_136 : ab_kv RL 136 mX12_like := ⟨List.mem_of_getElem? (i := 1379) (by decide +kernel), im_X12_like, se_X12_like⟩
theorem ml_L_140 : ab_kv RL 140 mX12_list := ⟨List.mem_of_getElem? (i := 1383) (by decide +kernel), im_X12_list, se_X12_list⟩
theorem ml_X12_332 : ab_ks RX12 332 mX12_isList := ⟨List.mem_of_getElem? (i := 1387) (by decide +kernel), st_X12_isList⟩
theorem ml_L_144 : ab_kv RL 144 mX12_put := ⟨List.mem_of_getElem? (i := 1390) (by decide +kernel), im_X12_put, se_X12_put⟩
theorem ml_L_148 : ab_kv RL 148 mX12_look := ⟨List.mem_of_getElem? (i := 1394) (by decide +kernel), im_X12_look, se_X12_look⟩
theorem ml_L_152 : ab_kv RL 152 mX12_judge := ⟨List.mem_of_getElem? (i := 1400) (by decide +kernel), im_X12_judge, se_X12_judge⟩
theorem ml_L_17 : ab_kv RL 17 mX12_letter := ⟨List.mem_of_getElem? (i := 1404) (by decide +kernel), im_X12_letter, se_X12_letter⟩
theorem ml_L_22 : ab_kv RL 22 mX12_text := ⟨List.mem_of_getElem? (i := 1408) (by decide +kernel), im_X12_text, se_X12_text⟩
theorem ml_X12_358 : ab_kv RX12 358 mX12_statement := ⟨List.mem_of_getElem? (i := 1412) (by decide +kernel), im_X12_statement, se_X12_statement⟩
theorem ml_X12_345 : ab_ks RX12 345 mX12_numbersOf := ⟨List.mem_of_getElem? (i := 1416) (by decide +kernel), st_X12_numbersOf⟩
theorem ml_X12_348 : ab_ks RX12 348 mX12_digitsOf := ⟨List.mem_of_getElem? (i := 1419) (by decide +kernel), st_X12_digitsOf⟩
theorem ml_X12_361 : ab_kv RX12 361 mX12_done := ⟨List.mem_of_getElem? (i := 1424) (by decide +kernel), im_X12_done, se_X12_done⟩
theorem ml_X12_364 : ab_kv RX12 364 mX12_isDone := ⟨List.mem_of_getElem? (i := 1428) (by decide +kernel), im_X12_isDone, se_X12_isDone⟩
theorem ml_X12_355 : ab_kv RX12 355 mX12_isRuled := ⟨List.mem_of_getElem? (i := 1432) (by decide +kernel), im_X12_isRuled, se_X12_isRuled⟩
theorem ml_L_156 : ab_kv RL 156 mX12_image := ⟨List.mem_of_getElem? (i := 1436) (by decide +kernel), im_X12_image, se_X12_image⟩
theorem ml_L_160 : ab_kv RL 160 mX12_on := ⟨List.mem_of_getElem? (i := 1440) (by decide +kernel), im_X12_on, se_X12_on⟩
theorem ml_L_164 : ab_kv RL 164 mX12_count := ⟨List.mem_of_getElem? (i := 1444) (by decide +kernel), im_X12_count, se_X12_count⟩

theorem ab_in_all : ∀ ci, ∀ w ∈ u_ws (ab_C ci) (ab_T ci) (ab_N ci), w ∈ lw_tbl := by
  intro ci
  match ci with
  | 0 => exact ab_inRX0
  | 1 => exact ab_inRX2
  | 2 => exact ab_inRX3
  | 3 => exact ab_inRX4
  | 4 => exact ab_inRX5
  | 5 => exact ab_inRX6
  | 6 => exact ab_inRX7
  | 7 => exact ab_inRX8
  | 8 => exact ab_inRX9
  | 9 => exact ab_inRX10
  | 10 => exact ab_inRX11
  | _ + 11 => exact ab_inRX12
end
section
/-! ===== THE ABSTRACT HEAP: number of cells, shapes, ints, longs, references (0: null), int arrays outside =====
addresses 1 .. 4 are arrays outside (script, three constant arrays), 5 .. are the cells that the run makes, in their order -/
abbrev ab_H : Type := Nat × (Nat → Nat × Nat) × (Nat → Nat → Int32) × (Nat → Nat → Int64) × (Nat → Nat → Nat) × (Nat → Nat × (Nat → Int32))
def ab_n (h : ab_H) : Nat := h.1
def ab_sh (h : ab_H) : Nat → Nat × Nat := h.2.1
def ab_i (h : ab_H) : Nat → Nat → Int32 := h.2.2.1
def ab_l (h : ab_H) : Nat → Nat → Int64 := h.2.2.2.1
def ab_r (h : ab_H) : Nat → Nat → Nat := h.2.2.2.2.1
def ab_e (h : ab_H) : Nat → Nat × (Nat → Int32) := h.2.2.2.2.2
def ab_up {α : Type} (f : Nat → α) (k : Nat) (v : α) : Nat → α := fun j => if j = k then v else f j
theorem ab_up_self {α : Type} (f : Nat → α) (k : Nat) (v : α) : ab_up f k v k = v := if_pos rfl
theorem ab_up_ne {α : Type} (f : Nat → α) {k j : Nat} (v : α) (h : j ≠ k) : ab_up f k v j = f j := if_neg h
/-- an int, a long, a reference is written; a cell is made -/
def ab_si (h : ab_H) (a k : Nat) (v : Int32) : ab_H := (ab_n h, ab_sh h, ab_up (ab_i h) a (ab_up (ab_i h a) k v), ab_l h, ab_r h, ab_e h)
def ab_sl (h : ab_H) (a k : Nat) (v : Int64) : ab_H := (ab_n h, ab_sh h, ab_i h, ab_up (ab_l h) a (ab_up (ab_l h a) k v), ab_r h, ab_e h)
def ab_sr (h : ab_H) (a k : Nat) (v : Nat) : ab_H := (ab_n h, ab_sh h, ab_i h, ab_l h, ab_up (ab_r h) a (ab_up (ab_r h a) k v), ab_e h)
def ab_new (h : ab_H) (s : Nat × Nat) : ab_H := (ab_n h + 1, ab_up (ab_sh h) (5 + ab_n h) s, ab_up (ab_i h) (5 + ab_n h) (fun _ => 0), ab_up (ab_l h) (5 + ab_n h) (fun _ => 0), ab_up (ab_r h) (5 + ab_n h) (fun _ => 0), ab_e h)
/-- a whole row of ints, of longs -/
def ab_sI (h : ab_H) (a : Nat) (f : Nat → Int32) : ab_H := (ab_n h, ab_sh h, ab_up (ab_i h) a f, ab_l h, ab_r h, ab_e h)
def ab_sL (h : ab_H) (a : Nat) (f : Nat → Int64) : ab_H := (ab_n h, ab_sh h, ab_i h, ab_up (ab_l h) a f, ab_r h, ab_e h)
/-! concrete addresses -/
def ab_sg (B : Nat) (ex : Nat → Nat) (a : Nat) : Nat := if a < 5 then ex a else B + (a - 5)
def ab_rf (B : Nat) (ex : Nat → Nat) (a : Nat) : Value := if a = 0 then .null else .ref (ab_sg B ex a)
def ab_vv (B : Nat) (ex : Nat → Nat) (v : Value) : Value := match v with
  | .ref a => ab_rf B ex a
  | w => w
theorem ab_rf_pos {B : Nat} {ex : Nat → Nat} {a : Nat} (h : a ≠ 0) : ab_rf B ex a = .ref (ab_sg B ex a) := if_neg h
theorem ab_rf_cat (B : Nat) (ex : Nat → Nat) (a : Nat) : (ab_rf B ex a).category = 1 := by
  unfold ab_rf; split <;> rfl
theorem ab_vv_cat (B : Nat) (ex : Nat → Nat) (v : Value) : (ab_vv B ex v).category = v.category := by
  cases v <;> first | rfl | exact ab_rf_cat B ex _
/-- a field's value by its type -/
def ab_val (B : Nat) (ex : Nat → Nat) (h : ab_H) (a : Nat) (ty : FieldType) (k : Nat) : Value := match ty with
  | .long => .long (ab_l h a k)
  | .object _ => ab_rf B ex (ab_r h a k)
  | .array _ => ab_rf B ex (ab_r h a k)
  | _ => .int (ab_i h a k)
/-- the class of arrays: 0 int, 1 long, 2 boolean, 3 char, 4 .. 7 rows of Rack, Numbers, Point, Triangle -/
def ab_cell (B : Nat) (ex : Nat → Nat) (dA : Nat → ClassId) (h : ab_H) (a : Nat) : va_E :=
  if (ab_sh h a).1 < 100 then .inr ((ab_sh h a).1 - 1, (List.range (ab_N ((ab_sh h a).1 - 1))).map (fun k => ab_val B ex h a (ab_tys ((ab_sh h a).1 - 1) k) k))
  else if (ab_sh h a).1 = 101 then .inl (dA 1, (ab_sh h a).2, .inr (.inl (ab_l h a)))
  else if (ab_sh h a).1 < 104 then .inl (dA ((ab_sh h a).1 - 100), (ab_sh h a).2, .inl (ab_i h a))
  else .inl (dA ((ab_sh h a).1 - 100), (ab_sh h a).2, .inr (.inr (.inr (.inr (fun k => if ab_r h a k = 0 then none else some (ab_sg B ex (ab_r h a k)))))))
def ab_ws (B : Nat) (ex : Nat → Nat) (dA : Nat → ClassId) (h : ab_H) : va_W := (List.range (ab_n h)).map (fun a => (B + a, ab_cell B ex dA h (a + 5)))
theorem ab_ws_at {B : Nat} {ex : Nat → Nat} {dA : Nat → ClassId} {h : ab_H} {a : Nat} (h1 : 5 ≤ a) (h2 : a < 5 + ab_n h) : (ab_ws B ex dA h)[a - 5]? = some (ab_sg B ex a, ab_cell B ex dA h a) := by
  have e : a - 5 < ab_n h := by omega
  unfold ab_ws
  rw [List.getElem?_map, List.getElem?_range e]
  simp only [Option.map_some, ab_sg]
  rw [if_neg (by omega), show a - 5 + 5 = a by omega]
theorem ab_ws_set {B : Nat} {ex : Nat → Nat} {dA : Nat → ClassId} {h h' : ab_H} {a : Nat} {x : va_E} (h1 : 5 ≤ a) (hn : ab_n h' = ab_n h) (hx : ab_cell B ex dA h' a = x) (hb : ∀ b, b ≠ a → ab_cell B ex dA h' b = ab_cell B ex dA h b) : (ab_ws B ex dA h).set (a - 5) (ab_sg B ex a, x) = ab_ws B ex dA h' := by
  apply List.ext_getElem?
  intro i
  unfold ab_ws
  rw [List.getElem?_set]
  by_cases hi : a - 5 = i
  · subst hi
    rw [if_pos rfl, hn]
    by_cases hl : a - 5 < ab_n h
    · simp only [List.length_map, List.length_range, hl, if_true, List.getElem?_map, List.getElem?_range hl, Option.map_some]
      rw [show a - 5 + 5 = a by omega, hx]
      simp only [ab_sg]
      rw [if_neg (by omega)]
    · simp [hl]
  · rw [if_neg hi, hn, List.getElem?_map, List.getElem?_map]
    by_cases hl : i < ab_n h
    · rw [List.getElem?_range hl]
      simp only [Option.map_some]
      rw [hb (i + 5) (by omega)]
    · simp [hl]
theorem ab_ws_new {B : Nat} {ex : Nat → Nat} {dA : Nat → ClassId} {h : ab_H} {s : Nat × Nat} {x : va_E} (hx : ab_cell B ex dA (ab_new h s) (5 + ab_n h) = x) : ab_ws B ex dA h ++ [(B + ab_n h, x)] = ab_ws B ex dA (ab_new h s) := by
  have e : ab_n (ab_new h s) = ab_n h + 1 := rfl
  unfold ab_ws
  rw [e, List.range_succ, List.map_append]
  congr 1
  · apply List.map_congr_left
    intro i hi
    have hl : i < ab_n h := List.mem_range.mp hi
    have e1 : ab_sh (ab_new h s) (i + 5) = ab_sh h (i + 5) := ab_up_ne _ _ (by omega)
    have e2 : ab_i (ab_new h s) (i + 5) = ab_i h (i + 5) := ab_up_ne _ _ (by omega)
    have e3 : ab_l (ab_new h s) (i + 5) = ab_l h (i + 5) := ab_up_ne _ _ (by omega)
    have e4 : ab_r (ab_new h s) (i + 5) = ab_r h (i + 5) := ab_up_ne _ _ (by omega)
    simp only [ab_cell, ab_val, e1, e2, e3, e4]
  · simp only [List.map_cons, List.map_nil]
    rw [show ab_n h + 5 = 5 + ab_n h by omega, hx]
theorem ab_cell_si_ne {B : Nat} {ex : Nat → Nat} {dA : Nat → ClassId} {h : ab_H} {a k : Nat} {v : Int32} (b : Nat) (hb : b ≠ a) : ab_cell B ex dA (ab_si h a k v) b = ab_cell B ex dA h b := by
  have e1 : ab_sh (ab_si h a k v) = ab_sh h := rfl
  have e2 : ab_i (ab_si h a k v) b = ab_i h b := ab_up_ne _ _ hb
  have e3 : ab_l (ab_si h a k v) = ab_l h := rfl
  have e4 : ab_r (ab_si h a k v) = ab_r h := rfl
  simp only [ab_cell, ab_val, e1, e2, e3, e4]
theorem ab_cell_sl_ne {B : Nat} {ex : Nat → Nat} {dA : Nat → ClassId} {h : ab_H} {a k : Nat} {v : Int64} (b : Nat) (hb : b ≠ a) : ab_cell B ex dA (ab_sl h a k v) b = ab_cell B ex dA h b := by
  have e1 : ab_sh (ab_sl h a k v) = ab_sh h := rfl
  have e2 : ab_i (ab_sl h a k v) = ab_i h := rfl
  have e3 : ab_l (ab_sl h a k v) b = ab_l h b := ab_up_ne _ _ hb
  have e4 : ab_r (ab_sl h a k v) = ab_r h := rfl
  simp only [ab_cell, ab_val, e1, e2, e3, e4]
theorem ab_cell_sr_ne {B : Nat} {ex : Nat → Nat} {dA : Nat → ClassId} {h : ab_H} {a k : Nat} {v : Nat} (b : Nat) (hb : b ≠ a) : ab_cell B ex dA (ab_sr h a k v) b = ab_cell B ex dA h b := by
  have e1 : ab_sh (ab_sr h a k v) = ab_sh h := rfl
  have e2 : ab_i (ab_sr h a k v) = ab_i h := rfl
  have e3 : ab_l (ab_sr h a k v) = ab_l h := rfl
  have e4 : ab_r (ab_sr h a k v) b = ab_r h b := ab_up_ne _ _ hb
  simp only [ab_cell, ab_val, e1, e2, e3, e4]
theorem ab_cell_sI_ne {B : Nat} {ex : Nat → Nat} {dA : Nat → ClassId} {h : ab_H} {a : Nat} {f : Nat → Int32} (b : Nat) (hb : b ≠ a) : ab_cell B ex dA (ab_sI h a f) b = ab_cell B ex dA h b := by
  have e1 : ab_sh (ab_sI h a f) = ab_sh h := rfl
  have e2 : ab_i (ab_sI h a f) b = ab_i h b := ab_up_ne _ _ hb
  have e3 : ab_l (ab_sI h a f) = ab_l h := rfl
  have e4 : ab_r (ab_sI h a f) = ab_r h := rfl
  simp only [ab_cell, ab_val, e1, e2, e3, e4]
theorem ab_cell_sL_ne {B : Nat} {ex : Nat → Nat} {dA : Nat → ClassId} {h : ab_H} {a : Nat} {f : Nat → Int64} (b : Nat) (hb : b ≠ a) : ab_cell B ex dA (ab_sL h a f) b = ab_cell B ex dA h b := by
  have e1 : ab_sh (ab_sL h a f) = ab_sh h := rfl
  have e2 : ab_i (ab_sL h a f) = ab_i h := rfl
  have e3 : ab_l (ab_sL h a f) b = ab_l h b := ab_up_ne _ _ hb
  have e4 : ab_r (ab_sL h a f) = ab_r h := rfl
  simp only [ab_cell, ab_val, e1, e2, e3, e4]
/-- an object's cell, and it with a field written -/
theorem ab_cell_obj {B : Nat} {ex : Nat → Nat} {dA : Nat → ClassId} {h : ab_H} {a ci x : Nat} (hs : ab_sh h a = (ci + 1, x)) (hci : ci < 12) : ab_cell B ex dA h a = .inr (ci, (List.range (ab_N ci)).map (fun k => ab_val B ex h a (ab_tys ci k) k)) := by
  unfold ab_cell
  rw [hs]
  simp only [Nat.add_sub_cancel]
  rw [if_pos (by omega)]
theorem ab_range_set {α : Type} (n k : Nat) (f g : Nat → α) (hk : ∀ j, j ≠ k → g j = f j) : ((List.range n).map f).set k (g k) = (List.range n).map g := by
  apply List.ext_getElem?
  intro i
  rw [List.getElem?_set]
  by_cases hi : k = i
  · subst hi
    rw [if_pos rfl]
    by_cases hl : k < n
    · simp [hl]
    · simp [hl]
  · rw [if_neg hi, List.getElem?_map, List.getElem?_map]
    by_cases hl : i < n
    · rw [List.getElem?_range hl]
      simp only [Option.map_some]
      rw [hk i (fun q => hi q.symm)]
    · simp [hl]
/-! ===== THE HEAP THAT HOLDS IT ===== -/
theorem ab_D {B : Nat} {ex : Nat → Nat} {dA : Nat → ClassId} {h : ab_H} : va_D (fun q => B ≤ q) (ab_ws B ex dA h) := by
  have key : ∀ (k : Nat) (q : Nat × va_E), (ab_ws B ex dA h)[k]? = some q → q.1 = B + k := by
    intro k q hq
    unfold ab_ws at hq
    rw [List.getElem?_map] at hq
    by_cases hl : k < ab_n h
    · rw [List.getElem?_range hl] at hq
      simp only [Option.map_some, Option.some.injEq] at hq
      rw [← hq]
    · rw [List.getElem?_eq_none (by simp; omega)] at hq
      cases hq
  refine ⟨fun i j p q hp hq hpq => ?_, fun k q hq => ?_⟩
  · have := key i p hp
    have := key j q hq
    omega
  · rw [key k q hq]; exact Nat.le_add_right _ _
/-- the rows of arrays -/
abbrev ab_ts (dA : Nat → ClassId) : List (ClassId × FieldType) := [(dA 0, .int), (dA 1, .long), (dA 2, .boolean), (dA 3, .char), (dA 4, .object RX7), (dA 5, .object RX5), (dA 6, .object RX6), (dA 7, .object RX10)]
/-- the constant arrays: their names -/
def ab_sn (j : Nat) : String := match j with
  | 2 => "KIND_ABOVE"
  | 3 => "AREA_TIMES"
  | _ => "AREA_DIVIDED"
/-- what a state knows of classes and statics -/
def ab_K (B : Nat) (ex : Nat → Nat) (eA dA : Nat → ClassId) (D : va_G) (U : State) (H : Heap) : Prop :=
  va_K D vwCl (ab_ts dA) U ∧ (∀ j, 1 ≤ j → j < 5 → ArrOfT U (eA j) .int) ∧ (va_AO RX7 U ∧ va_AO RX5 U ∧ va_AO RX6 U ∧ va_AO RX10 U) ∧ ∀ j, 2 ≤ j → j < 5 → va_Z RX10 (ab_sn j) "[I" (.ref (ex j)) (fun q => B ≤ q) U H
def ab_rep (B : Nat) (ex : Nat → Nat) (eA dA : Nat → ClassId) (D : va_G) (h : ab_H) (H : Heap) : Prop :=
  va_P D vwCl (ab_ws B ex dA h) H ∧ H.size = B + ab_n h ∧ (∀ a, (ab_sh h a).1 ≠ 0 → 5 ≤ a ∧ a < 5 + ab_n h) ∧ ∀ j, 1 ≤ j → j < 5 → ex j < B ∧ (ab_e h j).1 < 2 ^ 31 ∧ H[ex j]? = some (arrV (eA j) (ab_e h j).1 (fun k => .int ((ab_e h j).2 k)))
end
section
/-! ===== THE ABSTRACT FRAME: locals as a list, and the judgement ab_R ===== -/
def ab_loc (B : Nat) (ex : Nat → Nat) (A : Array Slot) (nL : Nat) (ls : List (Option Value)) : Prop := A.size = nL ∧ ls.length = nL ∧ lv_wf A ∧ ∀ (i : Nat) (v : Value), ls[i]? = some (some v) → A[i]? = some (.val (ab_vv B ex v))
def ab_w2 (o : Option (Option Value)) : Bool := match o with
  | some (some (.long _)) => true
  | some (some (.double _)) => true
  | _ => false
def ab_clr (ls : List (Option Value)) (i : Nat) : List (Option Value) := match i with
  | 0 => ls
  | j + 1 => if ab_w2 ls[j]? then ls.set j none else ls
def ab_st1 (ls : List (Option Value)) (i : Nat) (v : Value) : List (Option Value) := (ab_clr ls i).set i (some v)
def ab_st2 (ls : List (Option Value)) (i : Nat) (v : Value) : List (Option Value) := ((ab_clr ls i).set i (some v)).set (i + 1) none
theorem ab_clr_len (ls : List (Option Value)) (i : Nat) : (ab_clr ls i).length = ls.length := by
  unfold ab_clr
  split
  · rfl
  · split <;> simp
theorem ab_w2_cat {v : Value} (h : v.category = 2) : ab_w2 (some (some v)) = true := by
  cases v <;> first | rfl | (simp [Value.category] at h)
/-- what stands behind a store stood before, and isn't clobbered -/
theorem ab_clr_get {ls : List (Option Value)} {i j : Nat} {w : Value} (h : (ab_clr ls i)[j]? = some (some w)) : ls[j]? = some (some w) ∧ ¬ (j + 1 = i ∧ w.category = 2) := by
  unfold ab_clr at h
  split at h
  · exact ⟨h, fun q => by omega⟩
  · rename_i i
    split at h
    · rename_i hw
      rw [List.getElem?_set] at h
      split at h
      · split at h <;> cases h
      · rename_i hij
        exact ⟨h, fun q => hij (by omega)⟩
    · rename_i hw
      refine ⟨h, fun q => hw ?_⟩
      have e : i = j := by omega
      subst e
      rw [h]
      exact ab_w2_cat q.2
def ab_al (B : Nat) (ex : Nat → Nat) (ls : List (Option Value)) : List (Nat × Value) := (List.range ls.length).filterMap (fun i => match ls[i]? with
  | some (some v) => some (i, ab_vv B ex v)
  | _ => none)
theorem ab_al_mem {B : Nat} {ex : Nat → Nat} {ls : List (Option Value)} {i : Nat} {w : Value} : (i, w) ∈ ab_al B ex ls ↔ ∃ v, ls[i]? = some (some v) ∧ w = ab_vv B ex v := by
  unfold ab_al
  rw [List.mem_filterMap]
  constructor
  · rintro ⟨j, -, hj⟩
    split at hj
    · rename_i v hv
      cases hj
      exact ⟨v, hv, rfl⟩
    · cases hj
  · rintro ⟨v, hv, rfl⟩
    refine ⟨i, List.mem_range.mpr (List.getElem?_eq_some_iff.mp hv).1, ?_⟩
    rw [hv]
theorem ab_al_has {B : Nat} {ex : Nat → Nat} {A : Array Slot} {nL : Nat} {ls : List (Option Value)} (h : ab_loc B ex A nL ls) : lv_has A nL (ab_al B ex ls) := by
  refine ⟨h.1, h.2.2.1, fun q hq => ?_⟩
  obtain ⟨v, hv, e⟩ := ab_al_mem.mp (show (q.1, q.2) ∈ ab_al B ex ls from hq)
  rw [e]
  exact h.2.2.2 _ _ hv
theorem ab_st1_loc {B : Nat} {ex : Nat → Nat} {A A' : Array Slot} {nL i : Nat} {ls : List (Option Value)} {v : Value} (h : ab_loc B ex A nL ls) (hc : v.category = 1) (hA : lv_has A' nL ((i, ab_vv B ex v) :: (ab_al B ex ls).filter (fun q => !(q.1 == i) && !(q.1 + 1 == i && q.2.category == 2)))) : ab_loc B ex A' nL (ab_st1 ls i v) := by
  refine ⟨hA.1, by rw [ab_st1, List.length_set, ab_clr_len]; exact h.2.1, hA.2.1, fun j w hj => ?_⟩
  unfold ab_st1 at hj
  rw [List.getElem?_set] at hj
  split at hj
  · rename_i e
    subst e
    split at hj
    · cases hj
      exact hA.2.2 _ List.mem_cons_self
    · cases hj
  · rename_i e
    obtain ⟨h1, h2⟩ := ab_clr_get hj
    refine hA.2.2 (j, ab_vv B ex w) (List.mem_cons_of_mem _ (List.mem_filter.mpr ⟨ab_al_mem.mpr ⟨w, h1, rfl⟩, ?_⟩))
    have e1 : ¬ j = i := fun q => e q.symm
    have e2 : (ab_vv B ex w).category = w.category := ab_vv_cat B ex w
    simp only [e2]
    by_cases e3 : j + 1 = i
    · have : ¬ w.category = 2 := fun q => h2 ⟨e3, q⟩
      simp [e1, this]
    · simp [e1, e3]
theorem ab_st2_loc {B : Nat} {ex : Nat → Nat} {A A' : Array Slot} {nL i : Nat} {ls : List (Option Value)} {v : Value} (h : ab_loc B ex A nL ls) (hc : v.category = 2) (hA : lv_has A' nL ((i, ab_vv B ex v) :: (ab_al B ex ls).filter (fun q => !(q.1 == i) && (!(q.1 == i + 1) && !(q.1 + 1 == i && q.2.category == 2))))) : ab_loc B ex A' nL (ab_st2 ls i v) := by
  refine ⟨hA.1, by rw [ab_st2, List.length_set, List.length_set, ab_clr_len]; exact h.2.1, hA.2.1, fun j w hj => ?_⟩
  unfold ab_st2 at hj
  rw [List.getElem?_set] at hj
  split at hj
  · split at hj <;> cases hj
  · rename_i e0
    rw [List.getElem?_set] at hj
    split at hj
    · rename_i e
      subst e
      split at hj
      · cases hj
        exact hA.2.2 _ List.mem_cons_self
      · cases hj
    · rename_i e
      obtain ⟨h1, h2⟩ := ab_clr_get hj
      refine hA.2.2 (j, ab_vv B ex w) (List.mem_cons_of_mem _ (List.mem_filter.mpr ⟨ab_al_mem.mpr ⟨w, h1, rfl⟩, ?_⟩))
      have e1 : ¬ j = i := fun q => e q.symm
      have e4 : ¬ j = i + 1 := fun q => e0 q.symm
      have e2 : (ab_vv B ex w).category = w.category := ab_vv_cat B ex w
      simp only [e2]
      by_cases e3 : j + 1 = i
      · have : ¬ w.category = 2 := fun q => h2 ⟨e3, q⟩
        simp [e1, e4, this]
      · simp [e1, e3, e4]
/-- fewer locals known -/
def ab_le : List (Option Value) → List (Option Value) → Prop
  | [], [] => True
  | none :: t, _ :: u => ab_le t u
  | some v :: t, o :: u => o = some v ∧ ab_le t u
  | _, _ => False
theorem ab_le_get : ∀ {a c : List (Option Value)}, ab_le a c → a.length = c.length ∧ ∀ (i : Nat) (v : Value), a[i]? = some (some v) → c[i]? = some (some v)
  | [], [], _ => ⟨rfl, fun i v h => by simp at h⟩
  | [], _ :: _, h => h.elim
  | none :: _, [], h => h.elim
  | some _ :: _, [], h => h.elim
  | none :: t, o :: u, h => by
    obtain ⟨h1, h2⟩ := ab_le_get (a := t) (c := u) h
    refine ⟨by simp [h1], fun i v hi => ?_⟩
    cases i with
    | zero => simp at hi
    | succ i => simpa using h2 i v (by simpa using hi)
  | some w :: t, o :: u, h => by
    obtain ⟨h1, h2⟩ := ab_le_get (a := t) (c := u) h.2
    refine ⟨by simp [h1], fun i v hi => ?_⟩
    cases i with
    | zero => simp at hi; rw [h.1, hi]; rfl
    | succ i => simpa using h2 i v (by simpa using hi)
theorem ab_loc_le {B : Nat} {ex : Nat → Nat} {A : Array Slot} {nL : Nat} {ls ls' : List (Option Value)} (h : ab_loc B ex A nL ls) (hl : ab_le ls' ls) : ab_loc B ex A nL ls' :=
  ⟨h.1, (ab_le_get hl).1.trans h.2.1, h.2.2.1, fun i v hi => h.2.2.2 i v ((ab_le_get hl).2 i v hi)⟩
/-! the judgement -/
abbrev ab_tg : List Cond := lw_tbl.filter goodWord
def ab_ctx (B : Nat) (ex : Nat → Nat) (eA dA : Nat → ClassId) (D : va_G) (M : ab_MK) (k : Nat) (p : Program) (l : Launch) (R : Room) (s : State) (m : MethodId) (args : Array Value) (meth : Method) (c : Code) : Prop :=
  p.tables.exec = Jvm.exec ∧ c.code = M.2.1 ∧ c.maxLocals = M.2.2.1 ∧ s.vm.findClass M.1.cls = some m.cls ∧ (∀ w ∈ ab_tg, w.before args s = true) ∧ ab_K B ex eA dA D s s.heap ∧ meth.name = M.1.name ∧ k ≤ R.frames ∧ 100 * k ≤ R.locals ∧ B ≤ s.heap.size
def ab_ri (ret : Option FieldType) : Instr := match ret with
  | none => .return_
  | some .long => .lreturn
  | some .float => .freturn
  | some .double => .dreturn
  | some (.object _) => .areturn
  | some (.array _) => .areturn
  | _ => .ireturn
def ab_rv (ret : Option FieldType) (v : Value) : List Value := match ret with
  | none => []
  | some _ => [v]
def ab_rok (ret : Option FieldType) (v : Value) : Prop := match ret with
  | none => True
  | some .long => ∃ x, v = .long x
  | some .float => ∃ x, v = .float x
  | some .double => ∃ x, v = .double x
  | some (.object _) => ∃ a, v = .ref a
  | some (.array _) => ∃ a, v = .ref a
  | some ty => ∃ x, v = .int x ∧ narrow ty (.int x) = .int x
def ab_exit (B : Nat) (ex : Nat → Nat) (eA dA : Nat → ClassId) (D : va_G) (M : ab_MK) (p : Program) (l : Launch) (e : Env) (R : Room) (s : State) (m : MethodId) (args : Array Value) (below : List Frame) (meth : Method) (c : Code) (cm sm : Nat) (Q : State → Prop) (post : Value → ab_H → Prop) : Prop :=
  ∀ (pc : Nat) (v : Value) (h : ab_H) (H : Heap) (locs : List Loc) (A : Array Slot) (cells slots : Nat), decode M.2.1 pc = .ok (ab_ri M.2.2.2, 1) → ab_rok M.2.2.2 v → post v h → ab_rep B ex eA dA D h H → va_S (fun q => B ≤ q) s.heap H locs → cells ≤ cm → slots ≤ sm →
    W p l e R s m args below meth c H locs cells slots Q (F0 m pc A (ab_rv M.2.2.2 (ab_vv B ex v)))
/-- from this frame with this heap the method comes to an end with 'post': at level k (frames), at most b cells and 12 b slots made -/
def ab_R (k b : Nat) (M : ab_MK) (pc : Nat) (ls : List (Option Value)) (st : List Value) (h : ab_H) (post : Value → ab_H → Prop) : Prop :=
  ∀ (B : Nat) (ex : Nat → Nat) (eA dA : Nat → ClassId) (D : va_G) (p : Program) (l : Launch) (e : Env) (R : Room) (s : State) (m : MethodId) (args : Array Value) (below : List Frame) (meth : Method) (c : Code) (cm sm : Nat) (Q : State → Prop),
    ab_ctx B ex eA dA D M k p l R s m args meth c → cm ≤ R.cells → sm ≤ R.slots → ab_exit B ex eA dA D M p l e R s m args below meth c cm sm Q post →
    ∀ (H : Heap) (locs : List Loc) (A : Array Slot) (cells slots : Nat), ab_rep B ex eA dA D h H → va_S (fun q => B ≤ q) s.heap H locs → ab_loc B ex A M.2.2.1 ls → cells + b ≤ cm → slots + 12 * b ≤ sm →
    W p l e R s m args below meth c H locs cells slots Q (F0 m pc A (st.map (ab_vv B ex)))
theorem ab_weak {k b : Nat} {M : ab_MK} {pc : Nat} {ls ls' : List (Option Value)} {st : List Value} {h : ab_H} {post : Value → ab_H → Prop} (kk : ab_R k b M pc ls' st h post) (hl : ab_le ls' ls) : ab_R k b M pc ls st h post := by
  intro B ex eA dA D p l e R s m args below meth c cm sm Q C hcm hsm hex H locs A cells slots hr hS hA h1 h2
  exact kk B ex eA dA D p l e R s m args below meth c cm sm Q C hcm hsm hex H locs A cells slots hr hS (ab_loc_le hA hl) h1 h2
theorem ab_less {k b b' : Nat} {M : ab_MK} {pc : Nat} {ls : List (Option Value)} {st : List Value} {h : ab_H} {post : Value → ab_H → Prop} (hb : b' ≤ b) (kk : ab_R k b' M pc ls st h post) : ab_R k b M pc ls st h post := by
  intro B ex eA dA D p l e R s m args below meth c cm sm Q C hcm hsm hex H locs A cells slots hr hS hA h1 h2
  exact kk B ex eA dA D p l e R s m args below meth c cm sm Q C hcm hsm hex H locs A cells slots hr hS hA (by omega) (by omega)
theorem ab_mono {k b : Nat} {M : ab_MK} {pc : Nat} {ls : List (Option Value)} {st : List Value} {h : ab_H} {post post' : Value → ab_H → Prop} (hp : ∀ v h', post v h' → post' v h') (kk : ab_R k b M pc ls st h post) : ab_R k b M pc ls st h post' := by
  intro B ex eA dA D p l e R s m args below meth c cm sm Q C hcm hsm hex H locs A cells slots hr hS hA h1 h2
  exact kk B ex eA dA D p l e R s m args below meth c cm sm Q C hcm hsm (fun pc v h H locs A cells slots a1 a2 a3 => hex pc v h H locs A cells slots a1 a2 (hp v h a3)) H locs A cells slots hr hS hA h1 h2
-- rows by program: constants, arithmetic
theorem ab_iconst {k b : Nat} {M : ab_MK} {pc : Nat} {ls : List (Option Value)} {st : List Value} {h : ab_H} {post : Value → ab_H → Prop} {n : Int} {v : Int32} (hd : decode M.2.1 pc = .ok (.iconst n, 1)) (hv : Int32.ofInt n = v := by decide) (kk : ab_R k b M (pc + 1) ls (.int v :: st) h post) : ab_R k b M pc ls ( st) h post := by
  intro B ex eA dA D p l e R s m args below meth c cm sm Q C hcm hsm hex H locs A cells slots hr hS hl h1 h2
  exact lv_iconst C.1 C.2.1 hd hv (kk B ex eA dA D p l e R s m args below meth c cm sm Q C hcm hsm hex H locs A cells slots hr hS hl h1 h2)
theorem ab_bipush {k b : Nat} {M : ab_MK} {pc : Nat} {ls : List (Option Value)} {st : List Value} {h : ab_H} {post : Value → ab_H → Prop} {n : Int} {v : Int32} (hd : decode M.2.1 pc = .ok (.bipush n, 2)) (hv : (Int8.ofInt n).toInt32 = v := by decide) (kk : ab_R k b M (pc + 2) ls (.int v :: st) h post) : ab_R k b M pc ls ( st) h post := by
  intro B ex eA dA D p l e R s m args below meth c cm sm Q C hcm hsm hex H locs A cells slots hr hS hl h1 h2
  exact lv_bipush C.1 C.2.1 hd hv (kk B ex eA dA D p l e R s m args below meth c cm sm Q C hcm hsm hex H locs A cells slots hr hS hl h1 h2)
theorem ab_sipush {k b : Nat} {M : ab_MK} {pc : Nat} {ls : List (Option Value)} {st : List Value} {h : ab_H} {post : Value → ab_H → Prop} {n : Int} {v : Int32} (hd : decode M.2.1 pc = .ok (.sipush n, 3)) (hv : (Int16.ofInt n).toInt32 = v := by decide) (kk : ab_R k b M (pc + 3) ls (.int v :: st) h post) : ab_R k b M pc ls ( st) h post := by
  intro B ex eA dA D p l e R s m args below meth c cm sm Q C hcm hsm hex H locs A cells slots hr hS hl h1 h2
  exact lv_sipush C.1 C.2.1 hd hv (kk B ex eA dA D p l e R s m args below meth c cm sm Q C hcm hsm hex H locs A cells slots hr hS hl h1 h2)
theorem ab_lconst {k b : Nat} {M : ab_MK} {pc : Nat} {ls : List (Option Value)} {st : List Value} {h : ab_H} {post : Value → ab_H → Prop} {n : Fin 2} {v : Int64} (hd : decode M.2.1 pc = .ok (.lconst n, 1)) (hv : Int64.ofNat (n : Nat) = v := by decide) (kk : ab_R k b M (pc + 1) ls (.long v :: st) h post) : ab_R k b M pc ls ( st) h post := by
  intro B ex eA dA D p l e R s m args below meth c cm sm Q C hcm hsm hex H locs A cells slots hr hS hl h1 h2
  exact lv_lconst C.1 C.2.1 hd hv (kk B ex eA dA D p l e R s m args below meth c cm sm Q C hcm hsm hex H locs A cells slots hr hS hl h1 h2)
theorem ab_fconst0 {k b : Nat} {M : ab_MK} {pc : Nat} {ls : List (Option Value)} {st : List Value} {h : ab_H} {post : Value → ab_H → Prop}  (hd : decode M.2.1 pc = .ok (.fconst 0, 1))  (kk : ab_R k b M (pc + 1) ls (.float FP.fconst0 :: st) h post) : ab_R k b M pc ls ( st) h post := by
  intro B ex eA dA D p l e R s m args below meth c cm sm Q C hcm hsm hex H locs A cells slots hr hS hl h1 h2
  exact lv_fconst0 C.1 C.2.1 hd (kk B ex eA dA D p l e R s m args below meth c cm sm Q C hcm hsm hex H locs A cells slots hr hS hl h1 h2)
theorem ab_fconst1 {k b : Nat} {M : ab_MK} {pc : Nat} {ls : List (Option Value)} {st : List Value} {h : ab_H} {post : Value → ab_H → Prop}  (hd : decode M.2.1 pc = .ok (.fconst 1, 1))  (kk : ab_R k b M (pc + 1) ls (.float FP.fconst1 :: st) h post) : ab_R k b M pc ls ( st) h post := by
  intro B ex eA dA D p l e R s m args below meth c cm sm Q C hcm hsm hex H locs A cells slots hr hS hl h1 h2
  exact lv_fconst1 C.1 C.2.1 hd (kk B ex eA dA D p l e R s m args below meth c cm sm Q C hcm hsm hex H locs A cells slots hr hS hl h1 h2)
theorem ab_fconst2 {k b : Nat} {M : ab_MK} {pc : Nat} {ls : List (Option Value)} {st : List Value} {h : ab_H} {post : Value → ab_H → Prop}  (hd : decode M.2.1 pc = .ok (.fconst 2, 1))  (kk : ab_R k b M (pc + 1) ls (.float FP.fconst2 :: st) h post) : ab_R k b M pc ls ( st) h post := by
  intro B ex eA dA D p l e R s m args below meth c cm sm Q C hcm hsm hex H locs A cells slots hr hS hl h1 h2
  exact lv_fconst2 C.1 C.2.1 hd (kk B ex eA dA D p l e R s m args below meth c cm sm Q C hcm hsm hex H locs A cells slots hr hS hl h1 h2)
theorem ab_dconst0 {k b : Nat} {M : ab_MK} {pc : Nat} {ls : List (Option Value)} {st : List Value} {h : ab_H} {post : Value → ab_H → Prop}  (hd : decode M.2.1 pc = .ok (.dconst 0, 1))  (kk : ab_R k b M (pc + 1) ls (.double FP.dconst0 :: st) h post) : ab_R k b M pc ls ( st) h post := by
  intro B ex eA dA D p l e R s m args below meth c cm sm Q C hcm hsm hex H locs A cells slots hr hS hl h1 h2
  exact lv_dconst0 C.1 C.2.1 hd (kk B ex eA dA D p l e R s m args below meth c cm sm Q C hcm hsm hex H locs A cells slots hr hS hl h1 h2)
theorem ab_dconst1 {k b : Nat} {M : ab_MK} {pc : Nat} {ls : List (Option Value)} {st : List Value} {h : ab_H} {post : Value → ab_H → Prop}  (hd : decode M.2.1 pc = .ok (.dconst 1, 1))  (kk : ab_R k b M (pc + 1) ls (.double FP.dconst1 :: st) h post) : ab_R k b M pc ls ( st) h post := by
  intro B ex eA dA D p l e R s m args below meth c cm sm Q C hcm hsm hex H locs A cells slots hr hS hl h1 h2
  exact lv_dconst1 C.1 C.2.1 hd (kk B ex eA dA D p l e R s m args below meth c cm sm Q C hcm hsm hex H locs A cells slots hr hS hl h1 h2)
theorem ab_iadd {k b : Nat} {M : ab_MK} {pc : Nat} {ls : List (Option Value)} {st : List Value} {h : ab_H} {post : Value → ab_H → Prop} {x y : Int32} (hd : decode M.2.1 pc = .ok (.iadd, 1))  (kk : ab_R k b M (pc + 1) ls (.int (x + y) :: st) h post) : ab_R k b M pc ls (.int y :: .int x :: st) h post := by
  intro B ex eA dA D p l e R s m args below meth c cm sm Q C hcm hsm hex H locs A cells slots hr hS hl h1 h2
  exact lv_iadd C.1 C.2.1 hd (kk B ex eA dA D p l e R s m args below meth c cm sm Q C hcm hsm hex H locs A cells slots hr hS hl h1 h2)
theorem ab_ladd {k b : Nat} {M : ab_MK} {pc : Nat} {ls : List (Option Value)} {st : List Value} {h : ab_H} {post : Value → ab_H → Prop} {x y : Int64} (hd : decode M.2.1 pc = .ok (.ladd, 1))  (kk : ab_R k b M (pc + 1) ls (.long (x + y) :: st) h post) : ab_R k b M pc ls (.long y :: .long x :: st) h post := by
  intro B ex eA dA D p l e R s m args below meth c cm sm Q C hcm hsm hex H locs A cells slots hr hS hl h1 h2
  exact lv_ladd C.1 C.2.1 hd (kk B ex eA dA D p l e R s m args below meth c cm sm Q C hcm hsm hex H locs A cells slots hr hS hl h1 h2)
theorem ab_isub {k b : Nat} {M : ab_MK} {pc : Nat} {ls : List (Option Value)} {st : List Value} {h : ab_H} {post : Value → ab_H → Prop} {x y : Int32} (hd : decode M.2.1 pc = .ok (.isub, 1))  (kk : ab_R k b M (pc + 1) ls (.int (x - y) :: st) h post) : ab_R k b M pc ls (.int y :: .int x :: st) h post := by
  intro B ex eA dA D p l e R s m args below meth c cm sm Q C hcm hsm hex H locs A cells slots hr hS hl h1 h2
  exact lv_isub C.1 C.2.1 hd (kk B ex eA dA D p l e R s m args below meth c cm sm Q C hcm hsm hex H locs A cells slots hr hS hl h1 h2)
theorem ab_lsub {k b : Nat} {M : ab_MK} {pc : Nat} {ls : List (Option Value)} {st : List Value} {h : ab_H} {post : Value → ab_H → Prop} {x y : Int64} (hd : decode M.2.1 pc = .ok (.lsub, 1))  (kk : ab_R k b M (pc + 1) ls (.long (x - y) :: st) h post) : ab_R k b M pc ls (.long y :: .long x :: st) h post := by
  intro B ex eA dA D p l e R s m args below meth c cm sm Q C hcm hsm hex H locs A cells slots hr hS hl h1 h2
  exact lv_lsub C.1 C.2.1 hd (kk B ex eA dA D p l e R s m args below meth c cm sm Q C hcm hsm hex H locs A cells slots hr hS hl h1 h2)
theorem ab_imul {k b : Nat} {M : ab_MK} {pc : Nat} {ls : List (Option Value)} {st : List Value} {h : ab_H} {post : Value → ab_H → Prop} {x y : Int32} (hd : decode M.2.1 pc = .ok (.imul, 1))  (kk : ab_R k b M (pc + 1) ls (.int (x * y) :: st) h post) : ab_R k b M pc ls (.int y :: .int x :: st) h post := by
  intro B ex eA dA D p l e R s m args below meth c cm sm Q C hcm hsm hex H locs A cells slots hr hS hl h1 h2
  exact lv_imul C.1 C.2.1 hd (kk B ex eA dA D p l e R s m args below meth c cm sm Q C hcm hsm hex H locs A cells slots hr hS hl h1 h2)
theorem ab_lmul {k b : Nat} {M : ab_MK} {pc : Nat} {ls : List (Option Value)} {st : List Value} {h : ab_H} {post : Value → ab_H → Prop} {x y : Int64} (hd : decode M.2.1 pc = .ok (.lmul, 1))  (kk : ab_R k b M (pc + 1) ls (.long (x * y) :: st) h post) : ab_R k b M pc ls (.long y :: .long x :: st) h post := by
  intro B ex eA dA D p l e R s m args below meth c cm sm Q C hcm hsm hex H locs A cells slots hr hS hl h1 h2
  exact lv_lmul C.1 C.2.1 hd (kk B ex eA dA D p l e R s m args below meth c cm sm Q C hcm hsm hex H locs A cells slots hr hS hl h1 h2)
theorem ab_iand {k b : Nat} {M : ab_MK} {pc : Nat} {ls : List (Option Value)} {st : List Value} {h : ab_H} {post : Value → ab_H → Prop} {x y : Int32} (hd : decode M.2.1 pc = .ok (.iand, 1))  (kk : ab_R k b M (pc + 1) ls (.int (x &&& y) :: st) h post) : ab_R k b M pc ls (.int y :: .int x :: st) h post := by
  intro B ex eA dA D p l e R s m args below meth c cm sm Q C hcm hsm hex H locs A cells slots hr hS hl h1 h2
  exact lv_iand C.1 C.2.1 hd (kk B ex eA dA D p l e R s m args below meth c cm sm Q C hcm hsm hex H locs A cells slots hr hS hl h1 h2)
theorem ab_ior {k b : Nat} {M : ab_MK} {pc : Nat} {ls : List (Option Value)} {st : List Value} {h : ab_H} {post : Value → ab_H → Prop} {x y : Int32} (hd : decode M.2.1 pc = .ok (.ior, 1))  (kk : ab_R k b M (pc + 1) ls (.int (x ||| y) :: st) h post) : ab_R k b M pc ls (.int y :: .int x :: st) h post := by
  intro B ex eA dA D p l e R s m args below meth c cm sm Q C hcm hsm hex H locs A cells slots hr hS hl h1 h2
  exact lv_ior C.1 C.2.1 hd (kk B ex eA dA D p l e R s m args below meth c cm sm Q C hcm hsm hex H locs A cells slots hr hS hl h1 h2)
theorem ab_ixor {k b : Nat} {M : ab_MK} {pc : Nat} {ls : List (Option Value)} {st : List Value} {h : ab_H} {post : Value → ab_H → Prop} {x y : Int32} (hd : decode M.2.1 pc = .ok (.ixor, 1))  (kk : ab_R k b M (pc + 1) ls (.int (x ^^^ y) :: st) h post) : ab_R k b M pc ls (.int y :: .int x :: st) h post := by
  intro B ex eA dA D p l e R s m args below meth c cm sm Q C hcm hsm hex H locs A cells slots hr hS hl h1 h2
  exact lv_ixor C.1 C.2.1 hd (kk B ex eA dA D p l e R s m args below meth c cm sm Q C hcm hsm hex H locs A cells slots hr hS hl h1 h2)
theorem ab_land {k b : Nat} {M : ab_MK} {pc : Nat} {ls : List (Option Value)} {st : List Value} {h : ab_H} {post : Value → ab_H → Prop} {x y : Int64} (hd : decode M.2.1 pc = .ok (.land, 1))  (kk : ab_R k b M (pc + 1) ls (.long (x &&& y) :: st) h post) : ab_R k b M pc ls (.long y :: .long x :: st) h post := by
  intro B ex eA dA D p l e R s m args below meth c cm sm Q C hcm hsm hex H locs A cells slots hr hS hl h1 h2
  exact lv_land C.1 C.2.1 hd (kk B ex eA dA D p l e R s m args below meth c cm sm Q C hcm hsm hex H locs A cells slots hr hS hl h1 h2)
theorem ab_idiv {k b : Nat} {M : ab_MK} {pc : Nat} {ls : List (Option Value)} {st : List Value} {h : ab_H} {post : Value → ab_H → Prop} {x y : Int32} (hd : decode M.2.1 pc = .ok (.idiv, 1)) (hne : ¬ y = 0) (kk : ab_R k b M (pc + 1) ls (.int (x / y) :: st) h post) : ab_R k b M pc ls (.int y :: .int x :: st) h post := by
  intro B ex eA dA D p l e R s m args below meth c cm sm Q C hcm hsm hex H locs A cells slots hr hS hl h1 h2
  exact lv_idiv C.1 C.2.1 hd hne (kk B ex eA dA D p l e R s m args below meth c cm sm Q C hcm hsm hex H locs A cells slots hr hS hl h1 h2)
theorem ab_irem {k b : Nat} {M : ab_MK} {pc : Nat} {ls : List (Option Value)} {st : List Value} {h : ab_H} {post : Value → ab_H → Prop} {x y : Int32} (hd : decode M.2.1 pc = .ok (.irem, 1)) (hne : ¬ y = 0) (kk : ab_R k b M (pc + 1) ls (.int (x - x / y * y) :: st) h post) : ab_R k b M pc ls (.int y :: .int x :: st) h post := by
  intro B ex eA dA D p l e R s m args below meth c cm sm Q C hcm hsm hex H locs A cells slots hr hS hl h1 h2
  exact lv_irem C.1 C.2.1 hd hne (kk B ex eA dA D p l e R s m args below meth c cm sm Q C hcm hsm hex H locs A cells slots hr hS hl h1 h2)
theorem ab_ldiv {k b : Nat} {M : ab_MK} {pc : Nat} {ls : List (Option Value)} {st : List Value} {h : ab_H} {post : Value → ab_H → Prop} {x y : Int64} (hd : decode M.2.1 pc = .ok (.ldiv, 1)) (hne : ¬ y = 0) (kk : ab_R k b M (pc + 1) ls (.long (x / y) :: st) h post) : ab_R k b M pc ls (.long y :: .long x :: st) h post := by
  intro B ex eA dA D p l e R s m args below meth c cm sm Q C hcm hsm hex H locs A cells slots hr hS hl h1 h2
  exact lv_ldiv C.1 C.2.1 hd hne (kk B ex eA dA D p l e R s m args below meth c cm sm Q C hcm hsm hex H locs A cells slots hr hS hl h1 h2)
theorem ab_lrem {k b : Nat} {M : ab_MK} {pc : Nat} {ls : List (Option Value)} {st : List Value} {h : ab_H} {post : Value → ab_H → Prop} {x y : Int64} (hd : decode M.2.1 pc = .ok (.lrem, 1)) (hne : ¬ y = 0) (kk : ab_R k b M (pc + 1) ls (.long (x - x / y * y) :: st) h post) : ab_R k b M pc ls (.long y :: .long x :: st) h post := by
  intro B ex eA dA D p l e R s m args below meth c cm sm Q C hcm hsm hex H locs A cells slots hr hS hl h1 h2
  exact lv_lrem C.1 C.2.1 hd hne (kk B ex eA dA D p l e R s m args below meth c cm sm Q C hcm hsm hex H locs A cells slots hr hS hl h1 h2)
theorem ab_ineg {k b : Nat} {M : ab_MK} {pc : Nat} {ls : List (Option Value)} {st : List Value} {h : ab_H} {post : Value → ab_H → Prop} {x : Int32} (hd : decode M.2.1 pc = .ok (.ineg, 1))  (kk : ab_R k b M (pc + 1) ls (.int (-x) :: st) h post) : ab_R k b M pc ls (.int x :: st) h post := by
  intro B ex eA dA D p l e R s m args below meth c cm sm Q C hcm hsm hex H locs A cells slots hr hS hl h1 h2
  exact lv_ineg C.1 C.2.1 hd (kk B ex eA dA D p l e R s m args below meth c cm sm Q C hcm hsm hex H locs A cells slots hr hS hl h1 h2)
theorem ab_lneg {k b : Nat} {M : ab_MK} {pc : Nat} {ls : List (Option Value)} {st : List Value} {h : ab_H} {post : Value → ab_H → Prop} {x : Int64} (hd : decode M.2.1 pc = .ok (.lneg, 1))  (kk : ab_R k b M (pc + 1) ls (.long (-x) :: st) h post) : ab_R k b M pc ls (.long x :: st) h post := by
  intro B ex eA dA D p l e R s m args below meth c cm sm Q C hcm hsm hex H locs A cells slots hr hS hl h1 h2
  exact lv_lneg C.1 C.2.1 hd (kk B ex eA dA D p l e R s m args below meth c cm sm Q C hcm hsm hex H locs A cells slots hr hS hl h1 h2)
theorem ab_ishl {k b : Nat} {M : ab_MK} {pc : Nat} {ls : List (Option Value)} {st : List Value} {h : ab_H} {post : Value → ab_H → Prop} {x y : Int32} (hd : decode M.2.1 pc = .ok (.ishl, 1))  (kk : ab_R k b M (pc + 1) ls (.int (x <<< (y &&& 31)) :: st) h post) : ab_R k b M pc ls (.int y :: .int x :: st) h post := by
  intro B ex eA dA D p l e R s m args below meth c cm sm Q C hcm hsm hex H locs A cells slots hr hS hl h1 h2
  exact lv_ishl C.1 C.2.1 hd (kk B ex eA dA D p l e R s m args below meth c cm sm Q C hcm hsm hex H locs A cells slots hr hS hl h1 h2)
theorem ab_ishr {k b : Nat} {M : ab_MK} {pc : Nat} {ls : List (Option Value)} {st : List Value} {h : ab_H} {post : Value → ab_H → Prop} {x y : Int32} (hd : decode M.2.1 pc = .ok (.ishr, 1))  (kk : ab_R k b M (pc + 1) ls (.int (x >>> (y &&& 31)) :: st) h post) : ab_R k b M pc ls (.int y :: .int x :: st) h post := by
  intro B ex eA dA D p l e R s m args below meth c cm sm Q C hcm hsm hex H locs A cells slots hr hS hl h1 h2
  exact lv_ishr C.1 C.2.1 hd (kk B ex eA dA D p l e R s m args below meth c cm sm Q C hcm hsm hex H locs A cells slots hr hS hl h1 h2)
theorem ab_iushr {k b : Nat} {M : ab_MK} {pc : Nat} {ls : List (Option Value)} {st : List Value} {h : ab_H} {post : Value → ab_H → Prop} {x y : Int32} (hd : decode M.2.1 pc = .ok (.iushr, 1))  (kk : ab_R k b M (pc + 1) ls (.int ((x.toUInt32 >>> (y.toUInt32 &&& 31)).toInt32) :: st) h post) : ab_R k b M pc ls (.int y :: .int x :: st) h post := by
  intro B ex eA dA D p l e R s m args below meth c cm sm Q C hcm hsm hex H locs A cells slots hr hS hl h1 h2
  exact lv_iushr C.1 C.2.1 hd rfl (kk B ex eA dA D p l e R s m args below meth c cm sm Q C hcm hsm hex H locs A cells slots hr hS hl h1 h2)
theorem ab_lshl {k b : Nat} {M : ab_MK} {pc : Nat} {ls : List (Option Value)} {st : List Value} {h : ab_H} {post : Value → ab_H → Prop} {x : Int64} {y : Int32} (hd : decode M.2.1 pc = .ok (.lshl, 1))  (kk : ab_R k b M (pc + 1) ls (.long (x <<< (y.toInt64 &&& 63)) :: st) h post) : ab_R k b M pc ls (.int y :: .long x :: st) h post := by
  intro B ex eA dA D p l e R s m args below meth c cm sm Q C hcm hsm hex H locs A cells slots hr hS hl h1 h2
  exact lv_lshl C.1 C.2.1 hd rfl (kk B ex eA dA D p l e R s m args below meth c cm sm Q C hcm hsm hex H locs A cells slots hr hS hl h1 h2)
theorem ab_lshr {k b : Nat} {M : ab_MK} {pc : Nat} {ls : List (Option Value)} {st : List Value} {h : ab_H} {post : Value → ab_H → Prop} {x : Int64} {y : Int32} (hd : decode M.2.1 pc = .ok (.lshr, 1))  (kk : ab_R k b M (pc + 1) ls (.long (x >>> (y.toInt64 &&& 63)) :: st) h post) : ab_R k b M pc ls (.int y :: .long x :: st) h post := by
  intro B ex eA dA D p l e R s m args below meth c cm sm Q C hcm hsm hex H locs A cells slots hr hS hl h1 h2
  exact lv_lshr C.1 C.2.1 hd rfl (kk B ex eA dA D p l e R s m args below meth c cm sm Q C hcm hsm hex H locs A cells slots hr hS hl h1 h2)
theorem ab_lushr {k b : Nat} {M : ab_MK} {pc : Nat} {ls : List (Option Value)} {st : List Value} {h : ab_H} {post : Value → ab_H → Prop} {x : Int64} {y : Int32} (hd : decode M.2.1 pc = .ok (.lushr, 1))  (kk : ab_R k b M (pc + 1) ls (.long ((x.toUInt64 >>> (y.toInt64.toUInt64 &&& 63)).toInt64) :: st) h post) : ab_R k b M pc ls (.int y :: .long x :: st) h post := by
  intro B ex eA dA D p l e R s m args below meth c cm sm Q C hcm hsm hex H locs A cells slots hr hS hl h1 h2
  exact lv_lushr C.1 C.2.1 hd rfl (kk B ex eA dA D p l e R s m args below meth c cm sm Q C hcm hsm hex H locs A cells slots hr hS hl h1 h2)
theorem ab_i2l {k b : Nat} {M : ab_MK} {pc : Nat} {ls : List (Option Value)} {st : List Value} {h : ab_H} {post : Value → ab_H → Prop} {x : Int32} (hd : decode M.2.1 pc = .ok (.i2l, 1))  (kk : ab_R k b M (pc + 1) ls (.long x.toInt64 :: st) h post) : ab_R k b M pc ls (.int x :: st) h post := by
  intro B ex eA dA D p l e R s m args below meth c cm sm Q C hcm hsm hex H locs A cells slots hr hS hl h1 h2
  exact lv_i2l C.1 C.2.1 hd rfl (kk B ex eA dA D p l e R s m args below meth c cm sm Q C hcm hsm hex H locs A cells slots hr hS hl h1 h2)
theorem ab_l2i {k b : Nat} {M : ab_MK} {pc : Nat} {ls : List (Option Value)} {st : List Value} {h : ab_H} {post : Value → ab_H → Prop} {x : Int64} (hd : decode M.2.1 pc = .ok (.l2i, 1))  (kk : ab_R k b M (pc + 1) ls (.int x.toInt32 :: st) h post) : ab_R k b M pc ls (.long x :: st) h post := by
  intro B ex eA dA D p l e R s m args below meth c cm sm Q C hcm hsm hex H locs A cells slots hr hS hl h1 h2
  exact lv_l2i C.1 C.2.1 hd rfl (kk B ex eA dA D p l e R s m args below meth c cm sm Q C hcm hsm hex H locs A cells slots hr hS hl h1 h2)
theorem ab_i2c {k b : Nat} {M : ab_MK} {pc : Nat} {ls : List (Option Value)} {st : List Value} {h : ab_H} {post : Value → ab_H → Prop} {x : Int32} (hd : decode M.2.1 pc = .ok (.i2c, 1))  (kk : ab_R k b M (pc + 1) ls (.int ((x.toUInt32 % 65536).toInt32) :: st) h post) : ab_R k b M pc ls (.int x :: st) h post := by
  intro B ex eA dA D p l e R s m args below meth c cm sm Q C hcm hsm hex H locs A cells slots hr hS hl h1 h2
  exact lv_i2c C.1 C.2.1 hd rfl (kk B ex eA dA D p l e R s m args below meth c cm sm Q C hcm hsm hex H locs A cells slots hr hS hl h1 h2)
theorem ab_l2f {k b : Nat} {M : ab_MK} {pc : Nat} {ls : List (Option Value)} {st : List Value} {h : ab_H} {post : Value → ab_H → Prop} {x : Int64} (hd : decode M.2.1 pc = .ok (.l2f, 1))  (kk : ab_R k b M (pc + 1) ls (.float (FP.l2f x) :: st) h post) : ab_R k b M pc ls (.long x :: st) h post := by
  intro B ex eA dA D p l e R s m args below meth c cm sm Q C hcm hsm hex H locs A cells slots hr hS hl h1 h2
  exact lv_l2f C.1 C.2.1 hd (kk B ex eA dA D p l e R s m args below meth c cm sm Q C hcm hsm hex H locs A cells slots hr hS hl h1 h2)
theorem ab_l2d {k b : Nat} {M : ab_MK} {pc : Nat} {ls : List (Option Value)} {st : List Value} {h : ab_H} {post : Value → ab_H → Prop} {x : Int64} (hd : decode M.2.1 pc = .ok (.l2d, 1))  (kk : ab_R k b M (pc + 1) ls (.double (FP.l2d x) :: st) h post) : ab_R k b M pc ls (.long x :: st) h post := by
  intro B ex eA dA D p l e R s m args below meth c cm sm Q C hcm hsm hex H locs A cells slots hr hS hl h1 h2
  exact lv_l2d C.1 C.2.1 hd (kk B ex eA dA D p l e R s m args below meth c cm sm Q C hcm hsm hex H locs A cells slots hr hS hl h1 h2)
theorem ab_f2i {k b : Nat} {M : ab_MK} {pc : Nat} {ls : List (Option Value)} {st : List Value} {h : ab_H} {post : Value → ab_H → Prop} {x : UInt32} (hd : decode M.2.1 pc = .ok (.f2i, 1))  (kk : ab_R k b M (pc + 1) ls (.int (FP.f2i x) :: st) h post) : ab_R k b M pc ls (.float x :: st) h post := by
  intro B ex eA dA D p l e R s m args below meth c cm sm Q C hcm hsm hex H locs A cells slots hr hS hl h1 h2
  exact lv_f2i C.1 C.2.1 hd (kk B ex eA dA D p l e R s m args below meth c cm sm Q C hcm hsm hex H locs A cells slots hr hS hl h1 h2)
theorem ab_d2l {k b : Nat} {M : ab_MK} {pc : Nat} {ls : List (Option Value)} {st : List Value} {h : ab_H} {post : Value → ab_H → Prop} {x : UInt64} (hd : decode M.2.1 pc = .ok (.d2l, 1))  (kk : ab_R k b M (pc + 1) ls (.long (FP.d2l x) :: st) h post) : ab_R k b M pc ls (.double x :: st) h post := by
  intro B ex eA dA D p l e R s m args below meth c cm sm Q C hcm hsm hex H locs A cells slots hr hS hl h1 h2
  exact lv_d2l C.1 C.2.1 hd (kk B ex eA dA D p l e R s m args below meth c cm sm Q C hcm hsm hex H locs A cells slots hr hS hl h1 h2)
theorem ab_lcmp {k b : Nat} {M : ab_MK} {pc : Nat} {ls : List (Option Value)} {st : List Value} {h : ab_H} {post : Value → ab_H → Prop} {x y : Int64} (hd : decode M.2.1 pc = .ok (.lcmp, 1))  (kk : ab_R k b M (pc + 1) ls (.int (lg_cmp x y) :: st) h post) : ab_R k b M pc ls (.long y :: .long x :: st) h post := by
  intro B ex eA dA D p l e R s m args below meth c cm sm Q C hcm hsm hex H locs A cells slots hr hS hl h1 h2
  exact W.lcmp C.1 C.2.1 hd (kk B ex eA dA D p l e R s m args below meth c cm sm Q C hcm hsm hex H locs A cells slots hr hS hl h1 h2)
theorem ab_fcmp {k b : Nat} {M : ab_MK} {pc : Nat} {ls : List (Option Value)} {st : List Value} {h : ab_H} {post : Value → ab_H → Prop} {x y : UInt32} {op : CmpOp} (hd : decode M.2.1 pc = .ok (.fcmp op, 1))  (kk : ab_R k b M (pc + 1) ls (.int (Op.cmpValue (FP.fcmp x y) op) :: st) h post) : ab_R k b M pc ls (.float y :: .float x :: st) h post := by
  intro B ex eA dA D p l e R s m args below meth c cm sm Q C hcm hsm hex H locs A cells slots hr hS hl h1 h2
  exact lv_fcmp C.1 C.2.1 hd (kk B ex eA dA D p l e R s m args below meth c cm sm Q C hcm hsm hex H locs A cells slots hr hS hl h1 h2)
theorem ab_dcmp {k b : Nat} {M : ab_MK} {pc : Nat} {ls : List (Option Value)} {st : List Value} {h : ab_H} {post : Value → ab_H → Prop} {x y : UInt64} {op : CmpOp} (hd : decode M.2.1 pc = .ok (.dcmp op, 1))  (kk : ab_R k b M (pc + 1) ls (.int (Op.cmpValue (FP.dcmp x y) op) :: st) h post) : ab_R k b M pc ls (.double y :: .double x :: st) h post := by
  intro B ex eA dA D p l e R s m args below meth c cm sm Q C hcm hsm hex H locs A cells slots hr hS hl h1 h2
  exact lv_dcmp C.1 C.2.1 hd (kk B ex eA dA D p l e R s m args below meth c cm sm Q C hcm hsm hex H locs A cells slots hr hS hl h1 h2)
theorem ab_fadd {k b : Nat} {M : ab_MK} {pc : Nat} {ls : List (Option Value)} {st : List Value} {h : ab_H} {post : Value → ab_H → Prop} {x y : UInt32} (hd : decode M.2.1 pc = .ok (.fadd, 1)) (hne : vf_n32 (FP.fadd x y)) (kk : ab_R k b M (pc + 1) ls (.float (FP.fadd x y) :: st) h post) : ab_R k b M pc ls (.float y :: .float x :: st) h post := by
  intro B ex eA dA D p l e R s m args below meth c cm sm Q C hcm hsm hex H locs A cells slots hr hS hl h1 h2
  exact lv_fadd C.1 C.2.1 hd hne (kk B ex eA dA D p l e R s m args below meth c cm sm Q C hcm hsm hex H locs A cells slots hr hS hl h1 h2)
theorem ab_dadd {k b : Nat} {M : ab_MK} {pc : Nat} {ls : List (Option Value)} {st : List Value} {h : ab_H} {post : Value → ab_H → Prop} {x y : UInt64} (hd : decode M.2.1 pc = .ok (.dadd, 1)) (hne : vf_n64 (FP.dadd x y)) (kk : ab_R k b M (pc + 1) ls (.double (FP.dadd x y) :: st) h post) : ab_R k b M pc ls (.double y :: .double x :: st) h post := by
  intro B ex eA dA D p l e R s m args below meth c cm sm Q C hcm hsm hex H locs A cells slots hr hS hl h1 h2
  exact lv_dadd C.1 C.2.1 hd hne (kk B ex eA dA D p l e R s m args below meth c cm sm Q C hcm hsm hex H locs A cells slots hr hS hl h1 h2)
theorem ab_fsub {k b : Nat} {M : ab_MK} {pc : Nat} {ls : List (Option Value)} {st : List Value} {h : ab_H} {post : Value → ab_H → Prop} {x y : UInt32} (hd : decode M.2.1 pc = .ok (.fsub, 1)) (hne : vf_n32 (FP.fsub x y)) (kk : ab_R k b M (pc + 1) ls (.float (FP.fsub x y) :: st) h post) : ab_R k b M pc ls (.float y :: .float x :: st) h post := by
  intro B ex eA dA D p l e R s m args below meth c cm sm Q C hcm hsm hex H locs A cells slots hr hS hl h1 h2
  exact lv_fsub C.1 C.2.1 hd hne (kk B ex eA dA D p l e R s m args below meth c cm sm Q C hcm hsm hex H locs A cells slots hr hS hl h1 h2)
theorem ab_dsub {k b : Nat} {M : ab_MK} {pc : Nat} {ls : List (Option Value)} {st : List Value} {h : ab_H} {post : Value → ab_H → Prop} {x y : UInt64} (hd : decode M.2.1 pc = .ok (.dsub, 1)) (hne : vf_n64 (FP.dsub x y)) (kk : ab_R k b M (pc + 1) ls (.double (FP.dsub x y) :: st) h post) : ab_R k b M pc ls (.double y :: .double x :: st) h post := by
  intro B ex eA dA D p l e R s m args below meth c cm sm Q C hcm hsm hex H locs A cells slots hr hS hl h1 h2
  exact lv_dsub C.1 C.2.1 hd hne (kk B ex eA dA D p l e R s m args below meth c cm sm Q C hcm hsm hex H locs A cells slots hr hS hl h1 h2)
theorem ab_fmul {k b : Nat} {M : ab_MK} {pc : Nat} {ls : List (Option Value)} {st : List Value} {h : ab_H} {post : Value → ab_H → Prop} {x y : UInt32} (hd : decode M.2.1 pc = .ok (.fmul, 1)) (hne : vf_n32 (FP.fmul x y)) (kk : ab_R k b M (pc + 1) ls (.float (FP.fmul x y) :: st) h post) : ab_R k b M pc ls (.float y :: .float x :: st) h post := by
  intro B ex eA dA D p l e R s m args below meth c cm sm Q C hcm hsm hex H locs A cells slots hr hS hl h1 h2
  exact lv_fmul C.1 C.2.1 hd hne (kk B ex eA dA D p l e R s m args below meth c cm sm Q C hcm hsm hex H locs A cells slots hr hS hl h1 h2)
theorem ab_dmul {k b : Nat} {M : ab_MK} {pc : Nat} {ls : List (Option Value)} {st : List Value} {h : ab_H} {post : Value → ab_H → Prop} {x y : UInt64} (hd : decode M.2.1 pc = .ok (.dmul, 1)) (hne : vf_n64 (FP.dmul x y)) (kk : ab_R k b M (pc + 1) ls (.double (FP.dmul x y) :: st) h post) : ab_R k b M pc ls (.double y :: .double x :: st) h post := by
  intro B ex eA dA D p l e R s m args below meth c cm sm Q C hcm hsm hex H locs A cells slots hr hS hl h1 h2
  exact lv_dmul C.1 C.2.1 hd hne (kk B ex eA dA D p l e R s m args below meth c cm sm Q C hcm hsm hex H locs A cells slots hr hS hl h1 h2)
theorem ab_fdiv {k b : Nat} {M : ab_MK} {pc : Nat} {ls : List (Option Value)} {st : List Value} {h : ab_H} {post : Value → ab_H → Prop} {x y : UInt32} (hd : decode M.2.1 pc = .ok (.fdiv, 1)) (hne : vf_n32 (FP.fdiv x y)) (kk : ab_R k b M (pc + 1) ls (.float (FP.fdiv x y) :: st) h post) : ab_R k b M pc ls (.float y :: .float x :: st) h post := by
  intro B ex eA dA D p l e R s m args below meth c cm sm Q C hcm hsm hex H locs A cells slots hr hS hl h1 h2
  exact lv_fdiv C.1 C.2.1 hd hne (kk B ex eA dA D p l e R s m args below meth c cm sm Q C hcm hsm hex H locs A cells slots hr hS hl h1 h2)
theorem ab_ddiv {k b : Nat} {M : ab_MK} {pc : Nat} {ls : List (Option Value)} {st : List Value} {h : ab_H} {post : Value → ab_H → Prop} {x y : UInt64} (hd : decode M.2.1 pc = .ok (.ddiv, 1)) (hne : vf_n64 (FP.ddiv x y)) (kk : ab_R k b M (pc + 1) ls (.double (FP.ddiv x y) :: st) h post) : ab_R k b M pc ls (.double y :: .double x :: st) h post := by
  intro B ex eA dA D p l e R s m args below meth c cm sm Q C hcm hsm hex H locs A cells slots hr hS hl h1 h2
  exact lv_ddiv C.1 C.2.1 hd hne (kk B ex eA dA D p l e R s m args below meth c cm sm Q C hcm hsm hex H locs A cells slots hr hS hl h1 h2)
theorem ab_ldc {k b : Nat} {M : ab_MK} {pc : Nat} {ls : List (Option Value)} {st : List Value} {h : ab_H} {post : Value → ab_H → Prop} {i : Nat} {v : Int32} (hd : decode M.2.1 pc = .ok (.ldc i, 2)) (hw : Cond.constant M.1.cls i v ∈ lw_tbl) (kk : ab_R k b M (pc + 2) ls (.int v :: st) h post) : ab_R k b M pc ls st h post := by
  intro B ex eA dA D p l e R s m args below meth c cm sm Q C hcm hsm hex H locs A cells slots hr hS hl h1 h2
  exact lv_ldc C.1 C.2.1 C.2.2.2.1 (C.2.2.2.2.1 _ (List.mem_filter.mpr ⟨hw, rfl⟩)) hd (kk B ex eA dA D p l e R s m args below meth c cm sm Q C hcm hsm hex H locs A cells slots hr hS hl h1 h2)
theorem ab_ldcw {k b : Nat} {M : ab_MK} {pc : Nat} {ls : List (Option Value)} {st : List Value} {h : ab_H} {post : Value → ab_H → Prop} {i : Nat} {v : Int32} (hd : decode M.2.1 pc = .ok (.ldc_w i, 3)) (hw : Cond.constant M.1.cls i v ∈ lw_tbl) (kk : ab_R k b M (pc + 3) ls (.int v :: st) h post) : ab_R k b M pc ls st h post := by
  intro B ex eA dA D p l e R s m args below meth c cm sm Q C hcm hsm hex H locs A cells slots hr hS hl h1 h2
  exact lv_ldcw C.1 C.2.1 C.2.2.2.1 (C.2.2.2.2.1 _ (List.mem_filter.mpr ⟨hw, rfl⟩)) hd (kk B ex eA dA D p l e R s m args below meth c cm sm Q C hcm hsm hex H locs A cells slots hr hS hl h1 h2)
theorem ab_ldcf {k b : Nat} {M : ab_MK} {pc : Nat} {ls : List (Option Value)} {st : List Value} {h : ab_H} {post : Value → ab_H → Prop} {i : Nat} {v : UInt32} (hd : decode M.2.1 pc = .ok (.ldc i, 2)) (hw : Cond.constantFloat M.1.cls i v ∈ lw_tbl) (kk : ab_R k b M (pc + 2) ls (.float v :: st) h post) : ab_R k b M pc ls st h post := by
  intro B ex eA dA D p l e R s m args below meth c cm sm Q C hcm hsm hex H locs A cells slots hr hS hl h1 h2
  exact lv_ldcf C.1 C.2.1 C.2.2.2.1 (C.2.2.2.2.1 _ (List.mem_filter.mpr ⟨hw, rfl⟩)) hd (kk B ex eA dA D p l e R s m args below meth c cm sm Q C hcm hsm hex H locs A cells slots hr hS hl h1 h2)
theorem ab_ldc2 {k b : Nat} {M : ab_MK} {pc : Nat} {ls : List (Option Value)} {st : List Value} {h : ab_H} {post : Value → ab_H → Prop} {i : Nat} {v : Int64} (hd : decode M.2.1 pc = .ok (.ldc2_w i, 3)) (hw : Cond.constantLong M.1.cls i v ∈ lw_tbl) (kk : ab_R k b M (pc + 3) ls (.long v :: st) h post) : ab_R k b M pc ls st h post := by
  intro B ex eA dA D p l e R s m args below meth c cm sm Q C hcm hsm hex H locs A cells slots hr hS hl h1 h2
  exact lv_ldc2 C.1 C.2.1 C.2.2.2.1 (C.2.2.2.2.1 _ (List.mem_filter.mpr ⟨hw, rfl⟩)) hd (kk B ex eA dA D p l e R s m args below meth c cm sm Q C hcm hsm hex H locs A cells slots hr hS hl h1 h2)
theorem ab_ldc2d {k b : Nat} {M : ab_MK} {pc : Nat} {ls : List (Option Value)} {st : List Value} {h : ab_H} {post : Value → ab_H → Prop} {i : Nat} {v : UInt64} (hd : decode M.2.1 pc = .ok (.ldc2_w i, 3)) (hw : Cond.constantDouble M.1.cls i v ∈ lw_tbl) (kk : ab_R k b M (pc + 3) ls (.double v :: st) h post) : ab_R k b M pc ls st h post := by
  intro B ex eA dA D p l e R s m args below meth c cm sm Q C hcm hsm hex H locs A cells slots hr hS hl h1 h2
  exact lv_ldc2d C.1 C.2.1 C.2.2.2.1 (C.2.2.2.2.1 _ (List.mem_filter.mpr ⟨hw, rfl⟩)) hd (kk B ex eA dA D p l e R s m args below meth c cm sm Q C hcm hsm hex H locs A cells slots hr hS hl h1 h2)
theorem ab_iload_n {k b : Nat} {M : ab_MK} {pc : Nat} {ls : List (Option Value)} {st : List Value} {h : ab_H} {post : Value → ab_H → Prop} {j : Fin 4} {x : Int32} (hd : decode M.2.1 pc = .ok (.iload_n j, 1)) (hx : ls[(j : Nat)]? = some (some (.int x))) (kk : ab_R k b M (pc + 1) ls (.int x :: st) h post) : ab_R k b M pc ls st h post := by
  intro B ex eA dA D p l e R s m args below meth c cm sm Q C hcm hsm hex H locs A cells slots hr hS hl h1 h2
  exact lv_iload_n C.1 C.2.1 hd rfl (hl.2.2.2 _ _ hx) (kk B ex eA dA D p l e R s m args below meth c cm sm Q C hcm hsm hex H locs A cells slots hr hS hl h1 h2)
theorem ab_iload {k b : Nat} {M : ab_MK} {pc : Nat} {ls : List (Option Value)} {st : List Value} {h : ab_H} {post : Value → ab_H → Prop} {j : Nat} {x : Int32} (hd : decode M.2.1 pc = .ok (.iload j, 2)) (hx : ls[j]? = some (some (.int x))) (kk : ab_R k b M (pc + 2) ls (.int x :: st) h post) : ab_R k b M pc ls st h post := by
  intro B ex eA dA D p l e R s m args below meth c cm sm Q C hcm hsm hex H locs A cells slots hr hS hl h1 h2
  exact lv_iload C.1 C.2.1 hd (hl.2.2.2 _ _ hx) (kk B ex eA dA D p l e R s m args below meth c cm sm Q C hcm hsm hex H locs A cells slots hr hS hl h1 h2)
theorem ab_lload_n {k b : Nat} {M : ab_MK} {pc : Nat} {ls : List (Option Value)} {st : List Value} {h : ab_H} {post : Value → ab_H → Prop} {j : Fin 4} {x : Int64} (hd : decode M.2.1 pc = .ok (.lload_n j, 1)) (hx : ls[(j : Nat)]? = some (some (.long x))) (kk : ab_R k b M (pc + 1) ls (.long x :: st) h post) : ab_R k b M pc ls st h post := by
  intro B ex eA dA D p l e R s m args below meth c cm sm Q C hcm hsm hex H locs A cells slots hr hS hl h1 h2
  exact lv_lload_n C.1 C.2.1 hd rfl (hl.2.2.2 _ _ hx) (kk B ex eA dA D p l e R s m args below meth c cm sm Q C hcm hsm hex H locs A cells slots hr hS hl h1 h2)
theorem ab_lload {k b : Nat} {M : ab_MK} {pc : Nat} {ls : List (Option Value)} {st : List Value} {h : ab_H} {post : Value → ab_H → Prop} {j : Nat} {x : Int64} (hd : decode M.2.1 pc = .ok (.lload j, 2)) (hx : ls[j]? = some (some (.long x))) (kk : ab_R k b M (pc + 2) ls (.long x :: st) h post) : ab_R k b M pc ls st h post := by
  intro B ex eA dA D p l e R s m args below meth c cm sm Q C hcm hsm hex H locs A cells slots hr hS hl h1 h2
  exact lv_lload C.1 C.2.1 hd (hl.2.2.2 _ _ hx) (kk B ex eA dA D p l e R s m args below meth c cm sm Q C hcm hsm hex H locs A cells slots hr hS hl h1 h2)
theorem ab_fload_n {k b : Nat} {M : ab_MK} {pc : Nat} {ls : List (Option Value)} {st : List Value} {h : ab_H} {post : Value → ab_H → Prop} {j : Fin 4} {x : UInt32} (hd : decode M.2.1 pc = .ok (.fload_n j, 1)) (hx : ls[(j : Nat)]? = some (some (.float x))) (kk : ab_R k b M (pc + 1) ls (.float x :: st) h post) : ab_R k b M pc ls st h post := by
  intro B ex eA dA D p l e R s m args below meth c cm sm Q C hcm hsm hex H locs A cells slots hr hS hl h1 h2
  exact lv_fload_n C.1 C.2.1 hd rfl (hl.2.2.2 _ _ hx) (kk B ex eA dA D p l e R s m args below meth c cm sm Q C hcm hsm hex H locs A cells slots hr hS hl h1 h2)
theorem ab_fload {k b : Nat} {M : ab_MK} {pc : Nat} {ls : List (Option Value)} {st : List Value} {h : ab_H} {post : Value → ab_H → Prop} {j : Nat} {x : UInt32} (hd : decode M.2.1 pc = .ok (.fload j, 2)) (hx : ls[j]? = some (some (.float x))) (kk : ab_R k b M (pc + 2) ls (.float x :: st) h post) : ab_R k b M pc ls st h post := by
  intro B ex eA dA D p l e R s m args below meth c cm sm Q C hcm hsm hex H locs A cells slots hr hS hl h1 h2
  exact lv_fload C.1 C.2.1 hd (hl.2.2.2 _ _ hx) (kk B ex eA dA D p l e R s m args below meth c cm sm Q C hcm hsm hex H locs A cells slots hr hS hl h1 h2)
theorem ab_dload_n {k b : Nat} {M : ab_MK} {pc : Nat} {ls : List (Option Value)} {st : List Value} {h : ab_H} {post : Value → ab_H → Prop} {j : Fin 4} {x : UInt64} (hd : decode M.2.1 pc = .ok (.dload_n j, 1)) (hx : ls[(j : Nat)]? = some (some (.double x))) (kk : ab_R k b M (pc + 1) ls (.double x :: st) h post) : ab_R k b M pc ls st h post := by
  intro B ex eA dA D p l e R s m args below meth c cm sm Q C hcm hsm hex H locs A cells slots hr hS hl h1 h2
  exact lv_dload_n C.1 C.2.1 hd rfl (hl.2.2.2 _ _ hx) (kk B ex eA dA D p l e R s m args below meth c cm sm Q C hcm hsm hex H locs A cells slots hr hS hl h1 h2)
theorem ab_dload {k b : Nat} {M : ab_MK} {pc : Nat} {ls : List (Option Value)} {st : List Value} {h : ab_H} {post : Value → ab_H → Prop} {j : Nat} {x : UInt64} (hd : decode M.2.1 pc = .ok (.dload j, 2)) (hx : ls[j]? = some (some (.double x))) (kk : ab_R k b M (pc + 2) ls (.double x :: st) h post) : ab_R k b M pc ls st h post := by
  intro B ex eA dA D p l e R s m args below meth c cm sm Q C hcm hsm hex H locs A cells slots hr hS hl h1 h2
  exact lv_dload C.1 C.2.1 hd (hl.2.2.2 _ _ hx) (kk B ex eA dA D p l e R s m args below meth c cm sm Q C hcm hsm hex H locs A cells slots hr hS hl h1 h2)
theorem ab_aload_n {k b : Nat} {M : ab_MK} {pc : Nat} {ls : List (Option Value)} {st : List Value} {h : ab_H} {post : Value → ab_H → Prop} {j : Fin 4} {x : Nat} (hd : decode M.2.1 pc = .ok (.aload_n j, 1)) (hx : ls[(j : Nat)]? = some (some (.ref x))) (kk : ab_R k b M (pc + 1) ls (.ref x :: st) h post) : ab_R k b M pc ls st h post := by
  intro B ex eA dA D p l e R s m args below meth c cm sm Q C hcm hsm hex H locs A cells slots hr hS hl h1 h2
  have hx := hl.2.2.2 _ _ hx
  have kk := kk B ex eA dA D p l e R s m args below meth c cm sm Q C hcm hsm hex H locs A cells slots hr hS hl h1 h2
  by_cases h0 : x = 0
  · subst h0
    exact lv_aload_nN C.1 C.2.1 hd rfl hx kk
  · have e9 : ab_vv B ex (.ref x) = .ref (ab_sg B ex x) := ab_rf_pos h0
    rw [List.map_cons, e9] at kk
    rw [e9] at hx
    exact lv_aload_n C.1 C.2.1 hd rfl hx kk
theorem ab_aload {k b : Nat} {M : ab_MK} {pc : Nat} {ls : List (Option Value)} {st : List Value} {h : ab_H} {post : Value → ab_H → Prop} {j : Nat} {x : Nat} (hd : decode M.2.1 pc = .ok (.aload j, 2)) (hx : ls[(j : Nat)]? = some (some (.ref x))) (kk : ab_R k b M (pc + 2) ls (.ref x :: st) h post) : ab_R k b M pc ls st h post := by
  intro B ex eA dA D p l e R s m args below meth c cm sm Q C hcm hsm hex H locs A cells slots hr hS hl h1 h2
  have hx := hl.2.2.2 _ _ hx
  have kk := kk B ex eA dA D p l e R s m args below meth c cm sm Q C hcm hsm hex H locs A cells slots hr hS hl h1 h2
  by_cases h0 : x = 0
  · subst h0
    exact lv_aloadN C.1 C.2.1 hd hx kk
  · have e9 : ab_vv B ex (.ref x) = .ref (ab_sg B ex x) := ab_rf_pos h0
    rw [List.map_cons, e9] at kk
    rw [e9] at hx
    exact lv_aload C.1 C.2.1 hd hx kk
theorem ab_istore_n {k b : Nat} {M : ab_MK} {pc : Nat} {ls : List (Option Value)} {st : List Value} {h : ab_H} {post : Value → ab_H → Prop} {j : Fin 4} {x : Int32} (hd : decode M.2.1 pc = .ok (.istore_n j, 1)) (hj : (j : Nat) < M.2.2.1) (kk : ab_R k b M (pc + 1) (ab_st1 ls j (.int x)) st h post) : ab_R k b M pc ls (.int x :: st) h post := by
  intro B ex eA dA D p l e R s m args below meth c cm sm Q C hcm hsm hex H locs A cells slots hr hS hl h1 h2
  exact lv_istore_n C.1 C.2.1 hd rfl (ab_al_has hl) hj rfl (fun A' hA => kk B ex eA dA D p l e R s m args below meth c cm sm Q C hcm hsm hex H locs A' cells slots hr hS (ab_st1_loc hl rfl hA) h1 h2)
theorem ab_istore {k b : Nat} {M : ab_MK} {pc : Nat} {ls : List (Option Value)} {st : List Value} {h : ab_H} {post : Value → ab_H → Prop} {j : Nat} {x : Int32} (hd : decode M.2.1 pc = .ok (.istore j, 2)) (hj : (j : Nat) < M.2.2.1) (kk : ab_R k b M (pc + 2) (ab_st1 ls j (.int x)) st h post) : ab_R k b M pc ls (.int x :: st) h post := by
  intro B ex eA dA D p l e R s m args below meth c cm sm Q C hcm hsm hex H locs A cells slots hr hS hl h1 h2
  exact lv_istore C.1 C.2.1 hd (ab_al_has hl) hj rfl (fun A' hA => kk B ex eA dA D p l e R s m args below meth c cm sm Q C hcm hsm hex H locs A' cells slots hr hS (ab_st1_loc hl rfl hA) h1 h2)
theorem ab_fstore_n {k b : Nat} {M : ab_MK} {pc : Nat} {ls : List (Option Value)} {st : List Value} {h : ab_H} {post : Value → ab_H → Prop} {j : Fin 4} {x : UInt32} (hd : decode M.2.1 pc = .ok (.fstore_n j, 1)) (hj : (j : Nat) < M.2.2.1) (kk : ab_R k b M (pc + 1) (ab_st1 ls j (.float x)) st h post) : ab_R k b M pc ls (.float x :: st) h post := by
  intro B ex eA dA D p l e R s m args below meth c cm sm Q C hcm hsm hex H locs A cells slots hr hS hl h1 h2
  exact lv_fstore_n C.1 C.2.1 hd rfl (ab_al_has hl) hj rfl (fun A' hA => kk B ex eA dA D p l e R s m args below meth c cm sm Q C hcm hsm hex H locs A' cells slots hr hS (ab_st1_loc hl rfl hA) h1 h2)
theorem ab_fstore {k b : Nat} {M : ab_MK} {pc : Nat} {ls : List (Option Value)} {st : List Value} {h : ab_H} {post : Value → ab_H → Prop} {j : Nat} {x : UInt32} (hd : decode M.2.1 pc = .ok (.fstore j, 2)) (hj : (j : Nat) < M.2.2.1) (kk : ab_R k b M (pc + 2) (ab_st1 ls j (.float x)) st h post) : ab_R k b M pc ls (.float x :: st) h post := by
  intro B ex eA dA D p l e R s m args below meth c cm sm Q C hcm hsm hex H locs A cells slots hr hS hl h1 h2
  exact lv_fstore C.1 C.2.1 hd (ab_al_has hl) hj rfl (fun A' hA => kk B ex eA dA D p l e R s m args below meth c cm sm Q C hcm hsm hex H locs A' cells slots hr hS (ab_st1_loc hl rfl hA) h1 h2)
theorem ab_lstore_n {k b : Nat} {M : ab_MK} {pc : Nat} {ls : List (Option Value)} {st : List Value} {h : ab_H} {post : Value → ab_H → Prop} {j : Fin 4} {x : Int64} (hd : decode M.2.1 pc = .ok (.lstore_n j, 1)) (hj : (j : Nat) + 1 < M.2.2.1) (kk : ab_R k b M (pc + 1) (ab_st2 ls j (.long x)) st h post) : ab_R k b M pc ls (.long x :: st) h post := by
  intro B ex eA dA D p l e R s m args below meth c cm sm Q C hcm hsm hex H locs A cells slots hr hS hl h1 h2
  exact lv_lstore_n C.1 C.2.1 hd rfl (ab_al_has hl) hj rfl (fun A' hA => kk B ex eA dA D p l e R s m args below meth c cm sm Q C hcm hsm hex H locs A' cells slots hr hS (ab_st2_loc hl rfl hA) h1 h2)
theorem ab_lstore {k b : Nat} {M : ab_MK} {pc : Nat} {ls : List (Option Value)} {st : List Value} {h : ab_H} {post : Value → ab_H → Prop} {j : Nat} {x : Int64} (hd : decode M.2.1 pc = .ok (.lstore j, 2)) (hj : (j : Nat) + 1 < M.2.2.1) (kk : ab_R k b M (pc + 2) (ab_st2 ls j (.long x)) st h post) : ab_R k b M pc ls (.long x :: st) h post := by
  intro B ex eA dA D p l e R s m args below meth c cm sm Q C hcm hsm hex H locs A cells slots hr hS hl h1 h2
  exact lv_lstore C.1 C.2.1 hd (ab_al_has hl) hj rfl (fun A' hA => kk B ex eA dA D p l e R s m args below meth c cm sm Q C hcm hsm hex H locs A' cells slots hr hS (ab_st2_loc hl rfl hA) h1 h2)
theorem ab_dstore_n {k b : Nat} {M : ab_MK} {pc : Nat} {ls : List (Option Value)} {st : List Value} {h : ab_H} {post : Value → ab_H → Prop} {j : Fin 4} {x : UInt64} (hd : decode M.2.1 pc = .ok (.dstore_n j, 1)) (hj : (j : Nat) + 1 < M.2.2.1) (kk : ab_R k b M (pc + 1) (ab_st2 ls j (.double x)) st h post) : ab_R k b M pc ls (.double x :: st) h post := by
  intro B ex eA dA D p l e R s m args below meth c cm sm Q C hcm hsm hex H locs A cells slots hr hS hl h1 h2
  exact lv_dstore_n C.1 C.2.1 hd rfl (ab_al_has hl) hj rfl (fun A' hA => kk B ex eA dA D p l e R s m args below meth c cm sm Q C hcm hsm hex H locs A' cells slots hr hS (ab_st2_loc hl rfl hA) h1 h2)
theorem ab_dstore {k b : Nat} {M : ab_MK} {pc : Nat} {ls : List (Option Value)} {st : List Value} {h : ab_H} {post : Value → ab_H → Prop} {j : Nat} {x : UInt64} (hd : decode M.2.1 pc = .ok (.dstore j, 2)) (hj : (j : Nat) + 1 < M.2.2.1) (kk : ab_R k b M (pc + 2) (ab_st2 ls j (.double x)) st h post) : ab_R k b M pc ls (.double x :: st) h post := by
  intro B ex eA dA D p l e R s m args below meth c cm sm Q C hcm hsm hex H locs A cells slots hr hS hl h1 h2
  exact lv_dstore C.1 C.2.1 hd (ab_al_has hl) hj rfl (fun A' hA => kk B ex eA dA D p l e R s m args below meth c cm sm Q C hcm hsm hex H locs A' cells slots hr hS (ab_st2_loc hl rfl hA) h1 h2)
theorem ab_astore_n {k b : Nat} {M : ab_MK} {pc : Nat} {ls : List (Option Value)} {st : List Value} {h : ab_H} {post : Value → ab_H → Prop} {j : Fin 4} {x : Nat} (hd : decode M.2.1 pc = .ok (.astore_n j, 1)) (hj : (j : Nat) < M.2.2.1) (kk : ab_R k b M (pc + 1) (ab_st1 ls j (.ref x)) st h post) : ab_R k b M pc ls (.ref x :: st) h post := by
  intro B ex eA dA D p l e R s m args below meth c cm sm Q C hcm hsm hex H locs A cells slots hr hS hl h1 h2
  by_cases h0 : x = 0
  · subst h0
    exact lv_astore_nN C.1 C.2.1 hd rfl (ab_al_has hl) hj rfl (fun A' hA => kk B ex eA dA D p l e R s m args below meth c cm sm Q C hcm hsm hex H locs A' cells slots hr hS (ab_st1_loc (v := .ref 0) hl rfl hA) h1 h2)
  · have e9 : ab_vv B ex (.ref x) = .ref (ab_sg B ex x) := ab_rf_pos h0
    rw [List.map_cons, e9]
    exact lv_astore_n C.1 C.2.1 hd rfl (ab_al_has hl) hj rfl (fun A' hA => kk B ex eA dA D p l e R s m args below meth c cm sm Q C hcm hsm hex H locs A' cells slots hr hS (ab_st1_loc (v := .ref x) hl rfl (by rw [e9]; exact hA)) h1 h2)
theorem ab_astore {k b : Nat} {M : ab_MK} {pc : Nat} {ls : List (Option Value)} {st : List Value} {h : ab_H} {post : Value → ab_H → Prop} {j : Nat} {x : Nat} (hd : decode M.2.1 pc = .ok (.astore j, 2)) (hj : (j : Nat) < M.2.2.1) (kk : ab_R k b M (pc + 2) (ab_st1 ls j (.ref x)) st h post) : ab_R k b M pc ls (.ref x :: st) h post := by
  intro B ex eA dA D p l e R s m args below meth c cm sm Q C hcm hsm hex H locs A cells slots hr hS hl h1 h2
  by_cases h0 : x = 0
  · subst h0
    exact lv_astoreN C.1 C.2.1 hd (ab_al_has hl) hj rfl (fun A' hA => kk B ex eA dA D p l e R s m args below meth c cm sm Q C hcm hsm hex H locs A' cells slots hr hS (ab_st1_loc (v := .ref 0) hl rfl hA) h1 h2)
  · have e9 : ab_vv B ex (.ref x) = .ref (ab_sg B ex x) := ab_rf_pos h0
    rw [List.map_cons, e9]
    exact lv_astore C.1 C.2.1 hd (ab_al_has hl) hj rfl (fun A' hA => kk B ex eA dA D p l e R s m args below meth c cm sm Q C hcm hsm hex H locs A' cells slots hr hS (ab_st1_loc (v := .ref x) hl rfl (by rw [e9]; exact hA)) h1 h2)
theorem ab_iinc {k b : Nat} {M : ab_MK} {pc : Nat} {ls : List (Option Value)} {st : List Value} {h : ab_H} {post : Value → ab_H → Prop} {j : Nat} {n : Int} {x y : Int32} (hd : decode M.2.1 pc = .ok (.iinc j n, 3)) (hx : ls[j]? = some (some (.int x))) (hy : x + Int32.ofInt n = y) (kk : ab_R k b M (pc + 3) (ab_st1 ls j (.int y)) st h post) : ab_R k b M pc ls st h post := by
  intro B ex eA dA D p l e R s m args below meth c cm sm Q C hcm hsm hex H locs A cells slots hr hS hl h1 h2
  have hj : j < M.2.2.1 := by rw [← hl.2.1]; exact (List.getElem?_eq_some_iff.mp hx).1
  obtain ⟨i, hi⟩ := List.mem_iff_getElem?.mp (ab_al_mem.mpr ⟨_, hx, rfl⟩ : (j, ab_vv B ex (.int x)) ∈ ab_al B ex ls)
  exact lv_iinc C.1 C.2.1 hd (ab_al_has hl) hi hy hj rfl (fun A' hA => kk B ex eA dA D p l e R s m args below meth c cm sm Q C hcm hsm hex H locs A' cells slots hr hS (ab_st1_loc hl rfl hA) h1 h2)
theorem ab_if_eq {k b : Nat} {M : ab_MK} {pc : Nat} {ls : List (Option Value)} {st : List Value} {h : ab_H} {post : Value → ab_H → Prop} {x : Int32} {off : Int} (tgt : Nat) (hd : decode M.2.1 pc = .ok (.ifCond .eq off, 3)) (ht : (pc : Int) + off = (tgt : Int)) (kt : x = 0 → ab_R k b M tgt ls st h post) (kf : ¬ (x = 0) → ab_R k b M (pc + 3) ls st h post) : ab_R k b M pc ls (.int x :: st) h post := by
  intro B ex eA dA D p l e R s m args below meth c cm sm Q C hcm hsm hex H locs A cells slots hr hS hl h1 h2
  exact lv_if_eq C.1 C.2.1 hd ht (fun q => kt q B ex eA dA D p l e R s m args below meth c cm sm Q C hcm hsm hex H locs A cells slots hr hS hl h1 h2) (fun q => kf q B ex eA dA D p l e R s m args below meth c cm sm Q C hcm hsm hex H locs A cells slots hr hS hl h1 h2)
theorem ab_icmp_eq {k b : Nat} {M : ab_MK} {pc : Nat} {ls : List (Option Value)} {st : List Value} {h : ab_H} {post : Value → ab_H → Prop} {x y : Int32} {off : Int} (tgt : Nat) (hd : decode M.2.1 pc = .ok (.if_icmp .eq off, 3)) (ht : (pc : Int) + off = (tgt : Int)) (kt : x = y → ab_R k b M tgt ls st h post) (kf : ¬ (x = y) → ab_R k b M (pc + 3) ls st h post) : ab_R k b M pc ls (.int y :: .int x :: st) h post := by
  intro B ex eA dA D p l e R s m args below meth c cm sm Q C hcm hsm hex H locs A cells slots hr hS hl h1 h2
  exact lv_icmp_eq C.1 C.2.1 hd ht (fun q => kt q B ex eA dA D p l e R s m args below meth c cm sm Q C hcm hsm hex H locs A cells slots hr hS hl h1 h2) (fun q => kf q B ex eA dA D p l e R s m args below meth c cm sm Q C hcm hsm hex H locs A cells slots hr hS hl h1 h2)
theorem ab_if_ne {k b : Nat} {M : ab_MK} {pc : Nat} {ls : List (Option Value)} {st : List Value} {h : ab_H} {post : Value → ab_H → Prop} {x : Int32} {off : Int} (tgt : Nat) (hd : decode M.2.1 pc = .ok (.ifCond .ne off, 3)) (ht : (pc : Int) + off = (tgt : Int)) (kt : ¬ x = 0 → ab_R k b M tgt ls st h post) (kf : x = 0 → ab_R k b M (pc + 3) ls st h post) : ab_R k b M pc ls (.int x :: st) h post := by
  intro B ex eA dA D p l e R s m args below meth c cm sm Q C hcm hsm hex H locs A cells slots hr hS hl h1 h2
  exact lv_if_ne C.1 C.2.1 hd ht (fun q => kt q B ex eA dA D p l e R s m args below meth c cm sm Q C hcm hsm hex H locs A cells slots hr hS hl h1 h2) (fun q => kf q B ex eA dA D p l e R s m args below meth c cm sm Q C hcm hsm hex H locs A cells slots hr hS hl h1 h2)
theorem ab_icmp_ne {k b : Nat} {M : ab_MK} {pc : Nat} {ls : List (Option Value)} {st : List Value} {h : ab_H} {post : Value → ab_H → Prop} {x y : Int32} {off : Int} (tgt : Nat) (hd : decode M.2.1 pc = .ok (.if_icmp .ne off, 3)) (ht : (pc : Int) + off = (tgt : Int)) (kt : ¬ x = y → ab_R k b M tgt ls st h post) (kf : x = y → ab_R k b M (pc + 3) ls st h post) : ab_R k b M pc ls (.int y :: .int x :: st) h post := by
  intro B ex eA dA D p l e R s m args below meth c cm sm Q C hcm hsm hex H locs A cells slots hr hS hl h1 h2
  exact lv_icmp_ne C.1 C.2.1 hd ht (fun q => kt q B ex eA dA D p l e R s m args below meth c cm sm Q C hcm hsm hex H locs A cells slots hr hS hl h1 h2) (fun q => kf q B ex eA dA D p l e R s m args below meth c cm sm Q C hcm hsm hex H locs A cells slots hr hS hl h1 h2)
theorem ab_if_lt {k b : Nat} {M : ab_MK} {pc : Nat} {ls : List (Option Value)} {st : List Value} {h : ab_H} {post : Value → ab_H → Prop} {x : Int32} {off : Int} (tgt : Nat) (hd : decode M.2.1 pc = .ok (.ifCond .lt off, 3)) (ht : (pc : Int) + off = (tgt : Int)) (kt : x < 0 → ab_R k b M tgt ls st h post) (kf : ¬ (x < 0) → ab_R k b M (pc + 3) ls st h post) : ab_R k b M pc ls (.int x :: st) h post := by
  intro B ex eA dA D p l e R s m args below meth c cm sm Q C hcm hsm hex H locs A cells slots hr hS hl h1 h2
  exact lv_if_lt C.1 C.2.1 hd ht (fun q => kt q B ex eA dA D p l e R s m args below meth c cm sm Q C hcm hsm hex H locs A cells slots hr hS hl h1 h2) (fun q => kf q B ex eA dA D p l e R s m args below meth c cm sm Q C hcm hsm hex H locs A cells slots hr hS hl h1 h2)
theorem ab_icmp_lt {k b : Nat} {M : ab_MK} {pc : Nat} {ls : List (Option Value)} {st : List Value} {h : ab_H} {post : Value → ab_H → Prop} {x y : Int32} {off : Int} (tgt : Nat) (hd : decode M.2.1 pc = .ok (.if_icmp .lt off, 3)) (ht : (pc : Int) + off = (tgt : Int)) (kt : x < y → ab_R k b M tgt ls st h post) (kf : ¬ (x < y) → ab_R k b M (pc + 3) ls st h post) : ab_R k b M pc ls (.int y :: .int x :: st) h post := by
  intro B ex eA dA D p l e R s m args below meth c cm sm Q C hcm hsm hex H locs A cells slots hr hS hl h1 h2
  exact lv_icmp_lt C.1 C.2.1 hd ht (fun q => kt q B ex eA dA D p l e R s m args below meth c cm sm Q C hcm hsm hex H locs A cells slots hr hS hl h1 h2) (fun q => kf q B ex eA dA D p l e R s m args below meth c cm sm Q C hcm hsm hex H locs A cells slots hr hS hl h1 h2)
theorem ab_if_ge {k b : Nat} {M : ab_MK} {pc : Nat} {ls : List (Option Value)} {st : List Value} {h : ab_H} {post : Value → ab_H → Prop} {x : Int32} {off : Int} (tgt : Nat) (hd : decode M.2.1 pc = .ok (.ifCond .ge off, 3)) (ht : (pc : Int) + off = (tgt : Int)) (kt : 0 ≤ x → ab_R k b M tgt ls st h post) (kf : ¬ (0 ≤ x) → ab_R k b M (pc + 3) ls st h post) : ab_R k b M pc ls (.int x :: st) h post := by
  intro B ex eA dA D p l e R s m args below meth c cm sm Q C hcm hsm hex H locs A cells slots hr hS hl h1 h2
  exact lv_if_ge C.1 C.2.1 hd ht (fun q => kt q B ex eA dA D p l e R s m args below meth c cm sm Q C hcm hsm hex H locs A cells slots hr hS hl h1 h2) (fun q => kf q B ex eA dA D p l e R s m args below meth c cm sm Q C hcm hsm hex H locs A cells slots hr hS hl h1 h2)
theorem ab_icmp_ge {k b : Nat} {M : ab_MK} {pc : Nat} {ls : List (Option Value)} {st : List Value} {h : ab_H} {post : Value → ab_H → Prop} {x y : Int32} {off : Int} (tgt : Nat) (hd : decode M.2.1 pc = .ok (.if_icmp .ge off, 3)) (ht : (pc : Int) + off = (tgt : Int)) (kt : y ≤ x → ab_R k b M tgt ls st h post) (kf : ¬ (y ≤ x) → ab_R k b M (pc + 3) ls st h post) : ab_R k b M pc ls (.int y :: .int x :: st) h post := by
  intro B ex eA dA D p l e R s m args below meth c cm sm Q C hcm hsm hex H locs A cells slots hr hS hl h1 h2
  exact lv_icmp_ge C.1 C.2.1 hd ht (fun q => kt q B ex eA dA D p l e R s m args below meth c cm sm Q C hcm hsm hex H locs A cells slots hr hS hl h1 h2) (fun q => kf q B ex eA dA D p l e R s m args below meth c cm sm Q C hcm hsm hex H locs A cells slots hr hS hl h1 h2)
theorem ab_if_gt {k b : Nat} {M : ab_MK} {pc : Nat} {ls : List (Option Value)} {st : List Value} {h : ab_H} {post : Value → ab_H → Prop} {x : Int32} {off : Int} (tgt : Nat) (hd : decode M.2.1 pc = .ok (.ifCond .gt off, 3)) (ht : (pc : Int) + off = (tgt : Int)) (kt : 0 < x → ab_R k b M tgt ls st h post) (kf : ¬ (0 < x) → ab_R k b M (pc + 3) ls st h post) : ab_R k b M pc ls (.int x :: st) h post := by
  intro B ex eA dA D p l e R s m args below meth c cm sm Q C hcm hsm hex H locs A cells slots hr hS hl h1 h2
  exact lv_if_gt C.1 C.2.1 hd ht (fun q => kt q B ex eA dA D p l e R s m args below meth c cm sm Q C hcm hsm hex H locs A cells slots hr hS hl h1 h2) (fun q => kf q B ex eA dA D p l e R s m args below meth c cm sm Q C hcm hsm hex H locs A cells slots hr hS hl h1 h2)
theorem ab_icmp_gt {k b : Nat} {M : ab_MK} {pc : Nat} {ls : List (Option Value)} {st : List Value} {h : ab_H} {post : Value → ab_H → Prop} {x y : Int32} {off : Int} (tgt : Nat) (hd : decode M.2.1 pc = .ok (.if_icmp .gt off, 3)) (ht : (pc : Int) + off = (tgt : Int)) (kt : y < x → ab_R k b M tgt ls st h post) (kf : ¬ (y < x) → ab_R k b M (pc + 3) ls st h post) : ab_R k b M pc ls (.int y :: .int x :: st) h post := by
  intro B ex eA dA D p l e R s m args below meth c cm sm Q C hcm hsm hex H locs A cells slots hr hS hl h1 h2
  exact lv_icmp_gt C.1 C.2.1 hd ht (fun q => kt q B ex eA dA D p l e R s m args below meth c cm sm Q C hcm hsm hex H locs A cells slots hr hS hl h1 h2) (fun q => kf q B ex eA dA D p l e R s m args below meth c cm sm Q C hcm hsm hex H locs A cells slots hr hS hl h1 h2)
theorem ab_if_le {k b : Nat} {M : ab_MK} {pc : Nat} {ls : List (Option Value)} {st : List Value} {h : ab_H} {post : Value → ab_H → Prop} {x : Int32} {off : Int} (tgt : Nat) (hd : decode M.2.1 pc = .ok (.ifCond .le off, 3)) (ht : (pc : Int) + off = (tgt : Int)) (kt : x ≤ 0 → ab_R k b M tgt ls st h post) (kf : ¬ (x ≤ 0) → ab_R k b M (pc + 3) ls st h post) : ab_R k b M pc ls (.int x :: st) h post := by
  intro B ex eA dA D p l e R s m args below meth c cm sm Q C hcm hsm hex H locs A cells slots hr hS hl h1 h2
  exact lv_if_le C.1 C.2.1 hd ht (fun q => kt q B ex eA dA D p l e R s m args below meth c cm sm Q C hcm hsm hex H locs A cells slots hr hS hl h1 h2) (fun q => kf q B ex eA dA D p l e R s m args below meth c cm sm Q C hcm hsm hex H locs A cells slots hr hS hl h1 h2)
theorem ab_icmp_le {k b : Nat} {M : ab_MK} {pc : Nat} {ls : List (Option Value)} {st : List Value} {h : ab_H} {post : Value → ab_H → Prop} {x y : Int32} {off : Int} (tgt : Nat) (hd : decode M.2.1 pc = .ok (.if_icmp .le off, 3)) (ht : (pc : Int) + off = (tgt : Int)) (kt : x ≤ y → ab_R k b M tgt ls st h post) (kf : ¬ (x ≤ y) → ab_R k b M (pc + 3) ls st h post) : ab_R k b M pc ls (.int y :: .int x :: st) h post := by
  intro B ex eA dA D p l e R s m args below meth c cm sm Q C hcm hsm hex H locs A cells slots hr hS hl h1 h2
  exact lv_icmp_le C.1 C.2.1 hd ht (fun q => kt q B ex eA dA D p l e R s m args below meth c cm sm Q C hcm hsm hex H locs A cells slots hr hS hl h1 h2) (fun q => kf q B ex eA dA D p l e R s m args below meth c cm sm Q C hcm hsm hex H locs A cells slots hr hS hl h1 h2)
theorem ab_goto {k b : Nat} {M : ab_MK} {pc : Nat} {ls : List (Option Value)} {st : List Value} {h : ab_H} {post : Value → ab_H → Prop} {off : Int} (tgt : Nat) (hd : decode M.2.1 pc = .ok (.goto off, 3)) (ht : (pc : Int) + off = (tgt : Int)) (kk : ab_R k b M tgt ls st h post) : ab_R k b M pc ls st h post := by
  intro B ex eA dA D p l e R s m args below meth c cm sm Q C hcm hsm hex H locs A cells slots hr hS hl h1 h2
  exact lv_goto C.1 C.2.1 hd ht (kk B ex eA dA D p l e R s m args below meth c cm sm Q C hcm hsm hex H locs A cells slots hr hS hl h1 h2)
theorem ab_tableIn {k b : Nat} {M : ab_MK} {pc : Nat} {ls : List (Option Value)} {st : List Value} {h : ab_H} {post : Value → ab_H → Prop} {dflt lo hi : Int} {offs : Array Int} {len : Nat} {x : Int32} {off : Int} (tgt : Nat) (hd : decode M.2.1 pc = .ok (.tableswitch dflt lo hi offs, len)) (h3 : ¬ x.toInt < lo) (h4 : ¬ hi < x.toInt) (ho : offs[(x.toInt - lo).toNat]? = some off) (ht : (pc : Int) + off = (tgt : Int)) (kk : ab_R k b M tgt ls st h post) : ab_R k b M pc ls (.int x :: st) h post := by
  intro B ex eA dA D p l e R s m args below meth c cm sm Q C hcm hsm hex H locs A cells slots hr hS hl h1 h2
  exact lv_tableIn C.1 C.2.1 hd h3 h4 ho ht (kk B ex eA dA D p l e R s m args below meth c cm sm Q C hcm hsm hex H locs A cells slots hr hS hl h1 h2)
theorem ab_tableOut {k b : Nat} {M : ab_MK} {pc : Nat} {ls : List (Option Value)} {st : List Value} {h : ab_H} {post : Value → ab_H → Prop} {dflt lo hi : Int} {offs : Array Int} {len : Nat} {x : Int32} (tgt : Nat) (hd : decode M.2.1 pc = .ok (.tableswitch dflt lo hi offs, len)) (h3 : x.toInt < lo ∨ hi < x.toInt) (ht : (pc : Int) + dflt = (tgt : Int)) (kk : ab_R k b M tgt ls st h post) : ab_R k b M pc ls (.int x :: st) h post := by
  intro B ex eA dA D p l e R s m args below meth c cm sm Q C hcm hsm hex H locs A cells slots hr hS hl h1 h2
  exact lv_tableOut C.1 C.2.1 hd h3 ht (kk B ex eA dA D p l e R s m args below meth c cm sm Q C hcm hsm hex H locs A cells slots hr hS hl h1 h2)
theorem ab_lookup {k b : Nat} {M : ab_MK} {pc : Nat} {ls : List (Option Value)} {st : List Value} {h : ab_H} {post : Value → ab_H → Prop} {dflt : Int} {ps : Array (Int × Int)} {len : Nat} {x : Int32} {off : Int} (tgt : Nat) (hd : decode M.2.1 pc = .ok (.lookupswitch dflt ps, len)) (hp : (ps.toList.zip (ps.toList.drop 1)).all (fun (a, next) => a.1 < next.1) = true) (ho : Op.lookupswitch.offset ps.toList dflt x.toInt = off) (ht : (pc : Int) + off = (tgt : Int)) (kk : ab_R k b M tgt ls st h post) : ab_R k b M pc ls (.int x :: st) h post := by
  intro B ex eA dA D p l e R s m args below meth c cm sm Q C hcm hsm hex H locs A cells slots hr hS hl h1 h2
  exact lv_lookup C.1 C.2.1 hd hp ho ht (kk B ex eA dA D p l e R s m args below meth c cm sm Q C hcm hsm hex H locs A cells slots hr hS hl h1 h2)
theorem ab_null {k b : Nat} {M : ab_MK} {pc : Nat} {ls : List (Option Value)} {st : List Value} {h : ab_H} {post : Value → ab_H → Prop}  (hd : decode M.2.1 pc = .ok (.aconst_null, 1))  (kk : ab_R k b M (pc + 1) ls (.ref 0 :: st) h post) : ab_R k b M pc ls ( st) h post := by
  intro B ex eA dA D p l e R s m args below meth c cm sm Q C hcm hsm hex H locs A cells slots hr hS hl h1 h2
  exact lv_null C.1 C.2.1 hd (kk B ex eA dA D p l e R s m args below meth c cm sm Q C hcm hsm hex H locs A cells slots hr hS hl h1 h2)
theorem ab_dup {k b : Nat} {M : ab_MK} {pc : Nat} {ls : List (Option Value)} {st : List Value} {h : ab_H} {post : Value → ab_H → Prop} {v : Value} (hd : decode M.2.1 pc = .ok (.dup, 1)) (hv : v.category = 1) (kk : ab_R k b M (pc + 1) ls (v :: v :: st) h post) : ab_R k b M pc ls (v :: st) h post := by
  intro B ex eA dA D p l e R s m args below meth c cm sm Q C hcm hsm hex H locs A cells slots hr hS hl h1 h2
  exact lv_dup C.1 C.2.1 hd ((ab_vv_cat B ex v).trans hv) (kk B ex eA dA D p l e R s m args below meth c cm sm Q C hcm hsm hex H locs A cells slots hr hS hl h1 h2)
theorem ab_dup2 {k b : Nat} {M : ab_MK} {pc : Nat} {ls : List (Option Value)} {st : List Value} {h : ab_H} {post : Value → ab_H → Prop} {v w : Value} (hd : decode M.2.1 pc = .ok (.dup2, 1)) (hv : v.category = 1) (hw : w.category = 1) (kk : ab_R k b M (pc + 1) ls (v :: w :: v :: w :: st) h post) : ab_R k b M pc ls (v :: w :: st) h post := by
  intro B ex eA dA D p l e R s m args below meth c cm sm Q C hcm hsm hex H locs A cells slots hr hS hl h1 h2
  exact lv_dup2_11 C.1 C.2.1 hd ((ab_vv_cat B ex v).trans hv) ((ab_vv_cat B ex w).trans hw) (kk B ex eA dA D p l e R s m args below meth c cm sm Q C hcm hsm hex H locs A cells slots hr hS hl h1 h2)
theorem ab_ifnull {k b : Nat} {M : ab_MK} {pc : Nat} {ls : List (Option Value)} {st : List Value} {h : ab_H} {post : Value → ab_H → Prop} {x : Nat} {off : Int} (tgt : Nat) (hd : decode M.2.1 pc = .ok (.ifnull off, 3)) (ht : (pc : Int) + off = (tgt : Int)) (kt : x = 0 → ab_R k b M tgt ls st h post) (kf : ¬ x = 0 → ab_R k b M (pc + 3) ls st h post) : ab_R k b M pc ls (.ref x :: st) h post := by
  intro B ex eA dA D p l e R s m args below meth c cm sm Q C hcm hsm hex H locs A cells slots hr hS hl h1 h2
  by_cases h0 : x = 0
  · subst h0
    exact lv_ifnullN C.1 C.2.1 hd ht (kt rfl B ex eA dA D p l e R s m args below meth c cm sm Q C hcm hsm hex H locs A cells slots hr hS hl h1 h2)
  · have e9 : ab_vv B ex (.ref x) = .ref (ab_sg B ex x) := ab_rf_pos h0
    rw [List.map_cons, e9]
    exact lv_ifnull C.1 C.2.1 hd (kf h0 B ex eA dA D p l e R s m args below meth c cm sm Q C hcm hsm hex H locs A cells slots hr hS hl h1 h2)
theorem ab_ifnonnull {k b : Nat} {M : ab_MK} {pc : Nat} {ls : List (Option Value)} {st : List Value} {h : ab_H} {post : Value → ab_H → Prop} {x : Nat} {off : Int} (tgt : Nat) (hd : decode M.2.1 pc = .ok (.ifnonnull off, 3)) (ht : (pc : Int) + off = (tgt : Int)) (kt : ¬ x = 0 → ab_R k b M tgt ls st h post) (kf : x = 0 → ab_R k b M (pc + 3) ls st h post) : ab_R k b M pc ls (.ref x :: st) h post := by
  intro B ex eA dA D p l e R s m args below meth c cm sm Q C hcm hsm hex H locs A cells slots hr hS hl h1 h2
  by_cases h0 : x = 0
  · subst h0
    exact lv_ifnonnullN C.1 C.2.1 hd (kf rfl B ex eA dA D p l e R s m args below meth c cm sm Q C hcm hsm hex H locs A cells slots hr hS hl h1 h2)
  · have e9 : ab_vv B ex (.ref x) = .ref (ab_sg B ex x) := ab_rf_pos h0
    rw [List.map_cons, e9]
    exact lv_ifnonnull C.1 C.2.1 hd ht (kt h0 B ex eA dA D p l e R s m args below meth c cm sm Q C hcm hsm hex H locs A cells slots hr hS hl h1 h2)
end
section
/-! ===== fields ===== -/
def ab_ik (ty : FieldType) : Nat := match ty with
  | .long => 1
  | .object _ => 2
  | .array _ => 2
  | .float => 3
  | .double => 3
  | _ => 0
theorem ab_cl {ci : Nat} (h : ci < 12) : vwCl[ci]? = some (ab_C ci, ab_T ci, ab_N ci) := by
  match ci, h with
  | 0, _ => rfl
  | 1, _ => rfl
  | 2, _ => rfl
  | 3, _ => rfl
  | 4, _ => rfl
  | 5, _ => rfl
  | 6, _ => rfl
  | 7, _ => rfl
  | 8, _ => rfl
  | 9, _ => rfl
  | 10, _ => rfl
  | 11, _ => rfl
  | n + 12, h => exact absurd h (by omega)
theorem ab_tyok {ci : Nat} (h : ci < 12) : ∀ k, k < ab_N ci → parseFieldDescriptor (ab_T ci k).2.2.1 = some (ab_tys ci k) := by
  match ci, h with
  | 0, _ => exact tyX0_ok
  | 1, _ => exact tyX2_ok
  | 2, _ => exact tyX3_ok
  | 3, _ => exact tyX4_ok
  | 4, _ => exact tyX5_ok
  | 5, _ => exact tyX6_ok
  | 6, _ => exact tyX7_ok
  | 7, _ => exact tyX8_ok
  | 8, _ => exact tyX9_ok
  | 9, _ => exact tyX10_ok
  | 10, _ => exact tyX11_ok
  | 11, _ => exact tyX12_ok
  | n + 12, h => exact absurd h (by omega)
theorem ab_nmok {ci : Nat} (h : ci < 12) : ∀ a, a < ab_N ci → ∀ b, b < ab_N ci → a ≠ b → (ab_T ci a).2.1 ≠ (ab_T ci b).2.1 := by
  match ci, h with
  | 0, _ => exact nmX0
  | 1, _ => exact nmX2
  | 2, _ => exact nmX3
  | 3, _ => exact nmX4
  | 4, _ => exact nmX5
  | 5, _ => exact nmX6
  | 6, _ => exact nmX7
  | 7, _ => exact nmX8
  | 8, _ => exact nmX9
  | 9, _ => exact nmX10
  | 10, _ => exact nmX11
  | 11, _ => exact nmX12
  | n + 12, h => exact absurd h (by omega)
theorem ab_same {ci : Nat} (h : ci < 12) : ∀ k, k < ab_N ci → (ab_T ci k).1 = ab_C ci := by
  match ci, h with
  | 0, _ => decide
  | 1, _ => decide
  | 2, _ => decide
  | 3, _ => decide
  | 4, _ => decide
  | 5, _ => decide
  | 6, _ => decide
  | 7, _ => decide
  | 8, _ => decide
  | 9, _ => decide
  | 10, _ => decide
  | 11, _ => exact fun k hk => by have := hk; revert k; decide +kernel
  | n + 12, h => exact absurd h (by omega)
theorem ab_in_tg (ci : Nat) : ∀ w ∈ u_ws (ab_C ci) (ab_T ci) (ab_N ci), w ∈ ab_tg := by
  intro w hw
  refine List.mem_filter.mpr ⟨ab_in_all ci w hw, ?_⟩
  obtain ⟨k, -, rfl⟩ := List.mem_map.mp hw
  unfold u_lay
  split <;> rfl
theorem ab_fs_at {B : Nat} {ex : Nat → Nat} {h : ab_H} {a ci k : Nat} (hk : k < ab_N ci) : ((List.range (ab_N ci)).map (fun k => ab_val B ex h a (ab_tys ci k) k))[k]? = some (ab_val B ex h a (ab_tys ci k) k) := by
  rw [List.getElem?_map, List.getElem?_range hk]; rfl
theorem ab_val_i {B : Nat} {ex : Nat → Nat} {h : ab_H} {a k : Nat} {ty : FieldType} (ht : ab_ik ty = 0) : ab_val B ex h a ty k = .int (ab_i h a k) := by
  cases ty <;> first | rfl | (simp [ab_ik] at ht)
theorem ab_val_l {B : Nat} {ex : Nat → Nat} {h : ab_H} {a k : Nat} {ty : FieldType} (ht : ab_ik ty = 1) : ab_val B ex h a ty k = .long (ab_l h a k) := by
  cases ty <;> first | rfl | (simp [ab_ik] at ht)
theorem ab_val_r {B : Nat} {ex : Nat → Nat} {h : ab_H} {a k : Nat} {ty : FieldType} (ht : ab_ik ty = 2) : ab_val B ex h a ty k = ab_rf B ex (ab_r h a k) := by
  cases ty <;> first | rfl | (simp [ab_ik] at ht)
section ABF
variable {k b : Nat} {M : ab_MK} {pc : Nat} {ls : List (Option Value)} {st : List Value} {h : ab_H} {post : Value → ab_H → Prop}
theorem ab_getv {i ci kf a x : Nat} (hd : decode M.2.1 pc = .ok (.getfield i, 3)) (hf : ab_fl M.1.cls i ci kf) (hci : ci < 12) (hs : ab_sh h a = (ci + 1, x)) (hk : kf < ab_N ci) {v : Value} (hv : ∀ B ex, ab_val B ex h a (ab_tys ci kf) kf = ab_vv B ex v) (kk : ab_R k b M (pc + 3) ls (v :: st) h post) : ab_R k b M pc ls (.ref a :: st) h post := by
  intro B ex eA dA D p l e R s m args below meth c cm sm Q C hcm hsm hex H locs A cells slots hr hS hA h1 h2
  have kk := kk B ex eA dA D p l e R s m args below meth c cm sm Q C hcm hsm hex H locs A cells slots hr hS hA h1 h2
  have ha := hr.2.2.1 a (by rw [hs]; exact Nat.succ_ne_zero ci)
  have e : ab_vv B ex (.ref a) = .ref (ab_sg B ex a) := ab_rf_pos (by omega)
  rw [List.map_cons, e]
  rw [List.map_cons, ← hv B ex] at kk
  exact va_get C.1 C.2.1 C.2.2.2.2.1 (ab_in_tg ci) C.2.2.2.1 C.2.2.2.2.2.1.1 hr.1 (a - 5) ((ab_ws_at ha.1 ha.2).trans (by rw [ab_cell_obj hs hci])) (ab_cl hci) kf hk (C.2.2.2.2.1 _ (List.mem_filter.mpr ⟨hf, rfl⟩)) (fun y h9 => by rw [ab_same hci kf hk] at h9; exact h9) (ab_fs_at hk) hd kk
theorem ab_getI {i ci kf a x : Nat} (hd : decode M.2.1 pc = .ok (.getfield i, 3)) (hf : ab_fl M.1.cls i ci kf) (hs : ab_sh h a = (ci + 1, x)) {v : Int32} (hv : ab_i h a kf = v) (kk : ab_R k b M (pc + 3) ls (.int v :: st) h post) (hci : ci < 12 := by decide) (hk : kf < ab_N ci := by decide) (ht : ab_ik (ab_tys ci kf) = 0 := by rfl) : ab_R k b M pc ls (.ref a :: st) h post :=
  ab_getv hd hf hci hs hk (fun B ex => by rw [ab_val_i ht, hv]; rfl) kk
theorem ab_getL {i ci kf a x : Nat} (hd : decode M.2.1 pc = .ok (.getfield i, 3)) (hf : ab_fl M.1.cls i ci kf) (hs : ab_sh h a = (ci + 1, x)) {v : Int64} (hv : ab_l h a kf = v) (kk : ab_R k b M (pc + 3) ls (.long v :: st) h post) (hci : ci < 12 := by decide) (hk : kf < ab_N ci := by decide) (ht : ab_ik (ab_tys ci kf) = 1 := by rfl) : ab_R k b M pc ls (.ref a :: st) h post :=
  ab_getv hd hf hci hs hk (fun B ex => by rw [ab_val_l ht, hv]; rfl) kk
theorem ab_getR {i ci kf a x : Nat} (hd : decode M.2.1 pc = .ok (.getfield i, 3)) (hf : ab_fl M.1.cls i ci kf) (hs : ab_sh h a = (ci + 1, x)) {v : Nat} (hv : ab_r h a kf = v) (kk : ab_R k b M (pc + 3) ls (.ref v :: st) h post) (hci : ci < 12 := by decide) (hk : kf < ab_N ci := by decide) (ht : ab_ik (ab_tys ci kf) = 2 := by rfl) : ab_R k b M pc ls (.ref a :: st) h post :=
  ab_getv hd hf hci hs hk (fun B ex => by rw [ab_val_r ht, hv]; rfl) kk
/-- a rep behind a write at one address -/
theorem ab_rep_set {B : Nat} {ex : Nat → Nat} {eA dA : Nat → ClassId} {D : va_G} {h h' : ab_H} {H H1 : Heap} {a : Nat} {x : va_E} (hr : ab_rep B ex eA dA D h H) (ha : 5 ≤ a) (hn : ab_n h' = ab_n h) (hs : ab_sh h' = ab_sh h) (he : ab_e h' = ab_e h) (hx : ab_cell B ex dA h' a = x) (hb : ∀ b, b ≠ a → ab_cell B ex dA h' b = ab_cell B ex dA h b) (hP : va_P D vwCl ((ab_ws B ex dA h).set (a - 5) (ab_sg B ex a, x)) H1) (hz : H1.size = H.size) (hk : ∀ q : Nat, q < B → H1[q]? = H[q]?) : ab_rep B ex eA dA D h' H1 := by
  rw [ab_ws_set ha hn hx hb] at hP
  refine ⟨hP, by rw [hz, hn]; exact hr.2.1, fun c hc => by rw [hs] at hc; rw [hn]; exact hr.2.2.1 c hc, fun j h1 h2 => ?_⟩
  obtain ⟨q1, q2, q3⟩ := hr.2.2.2 j h1 h2
  rw [he]
  exact ⟨q1, q2, by rw [hk _ q1]; exact q3⟩
/-- a heap's write as the kit's rows give it, sized -/
theorem ab_putv {i ci kf a x : Nat} {v : Value} {h' : ab_H} (hd : decode M.2.1 pc = .ok (.putfield i, 3)) (hf : ab_fl M.1.cls i ci kf) (hci : ci < 12) (hs : ab_sh h a = (ci + 1, x)) (hk : kf < ab_N ci) (hfin : (ab_T ci kf).2.2.2 = false ∨ ((ab_T ci kf).2.2.2 = true ∧ M.1.name = "<init>" ∧ ab_C ci = M.1.cls))
    (hn : ∀ B ex, narrow (ab_tys ci kf) (ab_vv B ex v) = ab_vv B ex v ∧ fits (ab_tys ci kf) (ab_vv B ex v) = true) (h1' : ab_n h' = ab_n h) (h2' : ab_sh h' = ab_sh h) (h3' : ab_e h' = ab_e h)
    (hx : ∀ B ex, ab_val B ex h' a (ab_tys ci kf) kf = ab_vv B ex v) (hj : ∀ B ex j, j ≠ kf → ab_val B ex h' a (ab_tys ci j) j = ab_val B ex h a (ab_tys ci j) j) (hb : ∀ B ex dA b, b ≠ a → ab_cell B ex dA h' b = ab_cell B ex dA h b)
    (kk : ab_R k b M (pc + 3) ls st h' post) : ab_R k b M pc ls (v :: .ref a :: st) h post := by
  intro B ex eA dA D p l e R s m args below meth c cm sm Q C hcm hsm hex H locs A cells slots hr hS hA h1 h2
  have ha := hr.2.2.1 a (by rw [hs]; exact Nat.succ_ne_zero ci)
  have ee : ab_vv B ex (.ref a) = .ref (ab_sg B ex a) := ab_rf_pos (by omega)
  rw [List.map_cons, List.map_cons, ee]
  have hcell : ab_cell B ex dA h' a = .inr (ci, ((List.range (ab_N ci)).map (fun k => ab_val B ex h a (ab_tys ci k) k)).set kf (ab_vv B ex v)) := by
    rw [ab_cell_obj (x := x) (by rw [h2']; exact hs) hci, ← hx B ex]
    exact congrArg (fun l => Sum.inr (ci, l)) (ab_range_set (ab_N ci) kf (fun k => ab_val B ex h a (ab_tys ci k) k) (fun k => ab_val B ex h' a (ab_tys ci k) k) (fun j q => hj B ex j q)).symm
  have hcl := ab_cl hci
  have hcell0 : (ab_ws B ex dA h)[a - 5]? = some (ab_sg B ex a, .inr (ci, (List.range (ab_N ci)).map (fun k => ab_val B ex h a (ab_tys ci k) k))) := (ab_ws_at ha.1 ha.2).trans (by rw [ab_cell_obj hs hci])
  have hge : B ≤ ab_sg B ex a := by unfold ab_sg; rw [if_neg (by omega)]; exact Nat.le_add_right _ _
  obtain ⟨r, r1, cell, q1, q2, q3, q4⟩ := hr.1 (a - 5) _ hcell0
  have hr' : r = (ab_C ci, ab_T ci, ab_N ci) := Option.some.inj (r1.symm.trans hcl)
  subst hr'
  have hK := C.2.2.2.2.2.1.1
  obtain ⟨hSl, hfc, kC, hkC, hkind⟩ := hK.1 ci _ hcl
  obtain ⟨cf, kf', fi, f, hi, hsl⟩ := hSl kf hk
  have hlink := C.2.2.2.2.1 _ (List.mem_filter.mpr ⟨hf, rfl⟩ : _ ∈ ab_tg)
  have hap := va_apart (own := M.1.cls) C.2.2.2.2.1 (ab_in_tg ci) (ab_tys ci) (ab_tyok hci) (ab_nmok hci) hK hcl
  have hlay := C.2.2.2.2.1 _ (ab_in_tg ci _ (u_in_lay hk))
  have hi' : s.fieldFound? (ab_C ci) (ab_T ci kf).2.1 (ab_T ci kf).2.2.1 = some (cf, kf', fi, f) := by rw [ab_same hci kf hk] at hi; exact hi
  have fin : ∀ H1 : Heap, H1[ab_sg B ex a]? = some (cell.setSlot f.slot (ab_vv B ex v)) → H1.size = H.size → (∀ q : Nat, q ≠ ab_sg B ex a → H1[q]? = H[q]?) → ∀ locs1, (∀ q ∈ locs1, B ≤ q.base) →
      W p l e R s m args below meth c H1 locs1 cells slots Q (F0 m (pc + 3) A (st.map (ab_vv B ex))) := by
    intro H1 e1 z1 o1 locs1 hL
    have hP1 : va_P D vwCl ((ab_ws B ex dA h).set (a - 5) (ab_sg B ex a, .inr (ci, ((List.range (ab_N ci)).map (fun k => ab_val B ex h a (ab_tys ci k) k)).set kf (ab_vv B ex v)))) H1 := by
      refine hr.1.set ab_D hcell0 ?_ o1
      refine ⟨_, hcl, cell.setSlot f.slot (ab_vv B ex v), e1, q2, q3, fun j hj9 => ?_⟩
      have h5 := t_set q4 hap hk (ab_vv B ex v) j hj9
      rw [hsl]
      rw [h5]
      unfold updV vp_V
      by_cases e9 : j = kf
      · subst e9
        rw [if_pos rfl, List.getD_eq_getElem?_getD, List.getElem?_set_self (by simpa using hj9)]
        rfl
      · rw [if_neg e9, List.getD_eq_getElem?_getD, List.getD_eq_getElem?_getD, List.getElem?_set_ne (fun q => e9 q.symm)]
    refine kk B ex eA dA D p l e R s m args below meth c cm sm Q C hcm hsm hex H1 locs1 A cells slots (ab_rep_set hr ha.1 h1' h2' h3' hcell (fun b q => hb B ex dA b q) hP1 z1 (fun q hq => o1 q (by omega))) ⟨by rw [z1]; exact hS.1, fun q hq hB => ?_, hL⟩ hA h1 h2
    rw [o1 q (by intro e9; subst e9; exact hB hge)]
    exact hS.2.1 q hq hB
  have hL : ∀ q ∈ locs ++ [⟨ab_sg B ex a, f.slot⟩], B ≤ q.base := by
    intro q hq
    rcases List.mem_append.mp hq with h9 | h9
    · exact hS.2.2 q h9
    · rw [List.mem_singleton] at h9; subst h9; exact hge
  have hslot : f.slot < cell.slots.size := by rw [hsl]; exact k2_hasslot (q4 kf hk)
  rcases hfin with hfin | ⟨hfin, hini, hcc⟩
  · unfold u_lay at hlay
    rw [if_neg (by rw [hfin]; decide)] at hlay
    refine W.putK C.1 C.2.1 (f := f) ⟨C.2.2.2.1, hlink, ⟨_, _, _, hi'⟩, (u_facts hfc hkC (u_lays C.2.2.2.2.1 (ab_in_tg ci) hk) hi).1⟩ (by rw [q2]; rw [ab_same hci kf hk] at hlay; exact k2_store hfc hkC hkind hlay hi' (ab_tyok hci kf hk) (hn B ex).1 (hn B ex).2) q1 q3 hslot rfl rfl hd fun H' e1 e2 e3 => fin H' e1 e2 e3 _ hL
  · unfold u_lay at hlay
    rw [if_pos hfin] at hlay
    have hlay' := hlay
    rw [ab_same hci kf hk] at hlay'
    refine W.putFinK C.1 C.2.1 C.2.2.2.1 hlink hi' (u_facts hfc hkC (u_lays C.2.2.2.2.1 (ab_in_tg ci) hk) hi).1 (laid_decl (by rw [← C.2.2.2.1, hcc]) hlay' hi') (C.2.2.2.2.2.2.1.trans hini) (by rw [q2]; exact k2_fits hfc hkC hkind (Or.inr hlay') hi' (ab_tyok hci kf hk) (hn B ex).1 (hn B ex).2) q1 q3 hslot rfl rfl hd fun H' e1 e2 e3 => fin H' e1 e2 e3 _ hL
end ABF
end
section
/-! ===== writes of fields, arrays, new cells ===== -/
section ABG
variable {k b : Nat} {M : ab_MK} {pc : Nat} {ls : List (Option Value)} {st : List Value} {h : ab_H} {post : Value → ab_H → Prop}
theorem ab_val_si {B : Nat} {ex : Nat → Nat} {h : ab_H} {a kf j : Nat} {v : Int32} {ty : FieldType} (hj : j ≠ kf) : ab_val B ex (ab_si h a kf v) a ty j = ab_val B ex h a ty j := by
  have e : ab_i (ab_si h a kf v) a j = ab_i h a j := by
    show ab_up (ab_i h) a (ab_up (ab_i h a) kf v) a j = _
    rw [ab_up_self, ab_up_ne _ _ hj]
  cases ty <;> first | rfl | (show Value.int _ = Value.int _; rw [e])
theorem ab_val_sl {B : Nat} {ex : Nat → Nat} {h : ab_H} {a kf j : Nat} {v : Int64} {ty : FieldType} (hj : j ≠ kf) : ab_val B ex (ab_sl h a kf v) a ty j = ab_val B ex h a ty j := by
  have e : ab_l (ab_sl h a kf v) a j = ab_l h a j := by
    show ab_up (ab_l h) a (ab_up (ab_l h a) kf v) a j = _
    rw [ab_up_self, ab_up_ne _ _ hj]
  cases ty <;> first | rfl | (show Value.long _ = Value.long _; rw [e])
theorem ab_val_sr {B : Nat} {ex : Nat → Nat} {h : ab_H} {a kf j : Nat} {v : Nat} {ty : FieldType} (hj : j ≠ kf) : ab_val B ex (ab_sr h a kf v) a ty j = ab_val B ex h a ty j := by
  have e : ab_r (ab_sr h a kf v) a j = ab_r h a j := by
    show ab_up (ab_r h) a (ab_up (ab_r h a) kf v) a j = _
    rw [ab_up_self, ab_up_ne _ _ hj]
  cases ty <;> first | rfl | (show ab_rf B ex _ = ab_rf B ex _; rw [e])
theorem ab_i_si_self (h : ab_H) (a kf : Nat) (v : Int32) : ab_i (ab_si h a kf v) a kf = v := by
  show ab_up (ab_i h) a (ab_up (ab_i h a) kf v) a kf = _
  rw [ab_up_self, ab_up_self]
theorem ab_l_sl_self (h : ab_H) (a kf : Nat) (v : Int64) : ab_l (ab_sl h a kf v) a kf = v := by
  show ab_up (ab_l h) a (ab_up (ab_l h a) kf v) a kf = _
  rw [ab_up_self, ab_up_self]
theorem ab_r_sr_self (h : ab_H) (a kf : Nat) (v : Nat) : ab_r (ab_sr h a kf v) a kf = v := by
  show ab_up (ab_r h) a (ab_up (ab_r h a) kf v) a kf = _
  rw [ab_up_self, ab_up_self]
theorem ab_fit_rf (B : Nat) (ex : Nat → Nat) (a : Nat) {ty : FieldType} (ht : ab_ik ty = 2) : narrow ty (ab_rf B ex a) = ab_rf B ex a ∧ fits ty (ab_rf B ex a) = true := by
  unfold ab_rf
  split <;> cases ty <;> first | exact ⟨rfl, rfl⟩ | (simp [ab_ik] at ht)
theorem ab_fit_l {x : Int64} {ty : FieldType} (ht : ab_ik ty = 1) : narrow ty (.long x) = .long x ∧ fits ty (.long x) = true := by
  cases ty <;> first | exact ⟨rfl, rfl⟩ | (simp [ab_ik] at ht)
theorem ab_putI {i ci kf a x : Nat} {v : Int32} (hd : decode M.2.1 pc = .ok (.putfield i, 3)) (hf : ab_fl M.1.cls i ci kf) (hs : ab_sh h a = (ci + 1, x)) (kk : ab_R k b M (pc + 3) ls st (ab_si h a kf v) post) (hci : ci < 12 := by decide) (hk : kf < ab_N ci := by decide) (ht : ab_ik (ab_tys ci kf) = 0 := by rfl)
    (hn : narrow (ab_tys ci kf) (.int v) = .int v ∧ fits (ab_tys ci kf) (.int v) = true := by exact ⟨rfl, rfl⟩) (hfin : (ab_T ci kf).2.2.2 = false ∨ ((ab_T ci kf).2.2.2 = true ∧ M.1.name = "<init>" ∧ ab_C ci = M.1.cls) := by first | exact Or.inl rfl | exact Or.inr ⟨rfl, rfl, rfl⟩) : ab_R k b M pc ls (.int v :: .ref a :: st) h post :=
  ab_putv (h' := ab_si h a kf v) hd hf hci hs hk hfin (fun _ _ => hn) rfl rfl rfl (fun B ex => by rw [ab_val_i ht, ab_i_si_self]; rfl) (fun B ex j hj => ab_val_si hj) (fun B ex dA c hc => ab_cell_si_ne c hc) kk
theorem ab_putL {i ci kf a x : Nat} {v : Int64} (hd : decode M.2.1 pc = .ok (.putfield i, 3)) (hf : ab_fl M.1.cls i ci kf) (hs : ab_sh h a = (ci + 1, x)) (kk : ab_R k b M (pc + 3) ls st (ab_sl h a kf v) post) (hci : ci < 12 := by decide) (hk : kf < ab_N ci := by decide) (ht : ab_ik (ab_tys ci kf) = 1 := by rfl)
    (hfin : (ab_T ci kf).2.2.2 = false ∨ ((ab_T ci kf).2.2.2 = true ∧ M.1.name = "<init>" ∧ ab_C ci = M.1.cls) := by first | exact Or.inl rfl | exact Or.inr ⟨rfl, rfl, rfl⟩) : ab_R k b M pc ls (.long v :: .ref a :: st) h post :=
  ab_putv (h' := ab_sl h a kf v) hd hf hci hs hk hfin (fun _ _ => ab_fit_l ht) rfl rfl rfl (fun B ex => by rw [ab_val_l ht, ab_l_sl_self]; rfl) (fun B ex j hj => ab_val_sl hj) (fun B ex dA c hc => ab_cell_sl_ne c hc) kk
theorem ab_putR {i ci kf a x : Nat} {v : Nat} (hd : decode M.2.1 pc = .ok (.putfield i, 3)) (hf : ab_fl M.1.cls i ci kf) (hs : ab_sh h a = (ci + 1, x)) (kk : ab_R k b M (pc + 3) ls st (ab_sr h a kf v) post) (hci : ci < 12 := by decide) (hk : kf < ab_N ci := by decide) (ht : ab_ik (ab_tys ci kf) = 2 := by rfl)
    (hfin : (ab_T ci kf).2.2.2 = false ∨ ((ab_T ci kf).2.2.2 = true ∧ M.1.name = "<init>" ∧ ab_C ci = M.1.cls) := by first | exact Or.inl rfl | exact Or.inr ⟨rfl, rfl, rfl⟩) : ab_R k b M pc ls (.ref v :: .ref a :: st) h post :=
  ab_putv (h' := ab_sr h a kf v) hd hf hci hs hk hfin (fun B ex => ab_fit_rf B ex v ht) rfl rfl rfl (fun B ex => by rw [ab_val_r ht, ab_r_sr_self]; rfl) (fun B ex j hj => ab_val_sr hj) (fun B ex dA c hc => ab_cell_sr_ne c hc) kk
/-! arrays -/
theorem ab_cell_arr {B : Nat} {ex : Nat → Nat} {dA : Nat → ClassId} {h : ab_H} {a t n : Nat} (hs : ab_sh h a = (100 + t, n)) (ht : t = 0 ∨ t = 2 ∨ t = 3) : ab_cell B ex dA h a = .inl (dA t, n, .inl (ab_i h a)) := by
  unfold ab_cell
  rw [hs]
  simp only
  rw [if_neg (by omega), if_neg (by omega), if_pos (by omega), show 100 + t - 100 = t by omega]
theorem ab_cell_arl {B : Nat} {ex : Nat → Nat} {dA : Nat → ClassId} {h : ab_H} {a n : Nat} (hs : ab_sh h a = (101, n)) : ab_cell B ex dA h a = .inl (dA 1, n, .inr (.inl (ab_l h a))) := by
  unfold ab_cell
  rw [hs]
  simp only
  rw [if_neg (by omega), if_pos trivial]
theorem ab_cell_arq {B : Nat} {ex : Nat → Nat} {dA : Nat → ClassId} {h : ab_H} {a t n : Nat} (hs : ab_sh h a = (100 + t, n)) (ht : 4 ≤ t) : ab_cell B ex dA h a = .inl (dA t, n, .inr (.inr (.inr (.inr (fun k => if ab_r h a k = 0 then none else some (ab_sg B ex (ab_r h a k))))))) := by
  unfold ab_cell
  rw [hs]
  simp only
  rw [if_neg (by omega), if_neg (by omega), if_neg (by omega), show 100 + t - 100 = t by omega]
theorem ab_nI_in {j n : Nat} (hj : j < n) (hn : n ≤ 2147483648) : vp_in (nI j) n ∧ (nI j).toNatClampNeg = j := by
  have h1 : (nI j).toNatClampNeg = j := nI_clamp (by omega)
  exact ⟨fun q => by
    rcases q with q | q
    · exact nI_pos (by omega) q
    · rw [h1] at q; omega, h1⟩
theorem ab_iald {a j n : Nat} {x v : Int32} (hd : decode M.2.1 pc = .ok (.iaload, 1)) (hs : ab_sh h a = (100, n)) (hx : x = nI j) (hj : j < n) (hv : ab_i h a j = v) (kk : ab_R k b M (pc + 1) ls (.int v :: st) h post) (hn : n ≤ 2147483648 := by decide) : ab_R k b M pc ls (.int x :: .ref a :: st) h post := by
  intro B ex eA dA D p l e R s m args below meth c cm sm Q C hcm hsm hex H locs A cells slots hr hS hA h1 h2
  subst hx hv
  have ha := hr.2.2.1 a (by rw [hs]; exact Nat.noConfusion)
  have e9 : ab_vv B ex (.ref a) = .ref (ab_sg B ex a) := ab_rf_pos (by omega)
  rw [List.map_cons, List.map_cons, e9]
  refine va_iald (f := ab_i h a) (n := n) C.1 C.2.1 C.2.2.2.2.2.1.1 hr.1 (a - 5) 0 ((ab_ws_at ha.1 ha.2).trans (by rw [ab_cell_arr (t := 0) hs (Or.inl rfl)])) rfl (ab_nI_in hj hn).1 hd ?_
  rw [(ab_nI_in hj hn).2]
  exact kk B ex eA dA D p l e R s m args below meth c cm sm Q C hcm hsm hex H locs A cells slots hr hS hA h1 h2
theorem ab_cald {a j n : Nat} {x v : Int32} (hd : decode M.2.1 pc = .ok (.caload, 1)) (hs : ab_sh h a = (103, n)) (hx : x = nI j) (hj : j < n) (hv : ab_i h a j = v) (kk : ab_R k b M (pc + 1) ls (.int v :: st) h post) (hn : n ≤ 2147483648 := by decide) : ab_R k b M pc ls (.int x :: .ref a :: st) h post := by
  intro B ex eA dA D p l e R s m args below meth c cm sm Q C hcm hsm hex H locs A cells slots hr hS hA h1 h2
  subst hx hv
  have ha := hr.2.2.1 a (by rw [hs]; exact Nat.noConfusion)
  have e9 : ab_vv B ex (.ref a) = .ref (ab_sg B ex a) := ab_rf_pos (by omega)
  rw [List.map_cons, List.map_cons, e9]
  refine va_cald (f := ab_i h a) (n := n) C.1 C.2.1 C.2.2.2.2.2.1.1 hr.1 (a - 5) 3 ((ab_ws_at ha.1 ha.2).trans (by rw [ab_cell_arr (t := 3) hs (Or.inr (Or.inr rfl))])) rfl (ab_nI_in hj hn).1 hd ?_
  rw [(ab_nI_in hj hn).2]
  exact kk B ex eA dA D p l e R s m args below meth c cm sm Q C hcm hsm hex H locs A cells slots hr hS hA h1 h2
theorem ab_bald {a j n : Nat} {x v : Int32} (hd : decode M.2.1 pc = .ok (.baload, 1)) (hs : ab_sh h a = (102, n)) (hx : x = nI j) (hj : j < n) (hv : ab_i h a j = v) (kk : ab_R k b M (pc + 1) ls (.int v :: st) h post) (hn : n ≤ 2147483648 := by decide) : ab_R k b M pc ls (.int x :: .ref a :: st) h post := by
  intro B ex eA dA D p l e R s m args below meth c cm sm Q C hcm hsm hex H locs A cells slots hr hS hA h1 h2
  subst hx hv
  have ha := hr.2.2.1 a (by rw [hs]; exact Nat.noConfusion)
  have e9 : ab_vv B ex (.ref a) = .ref (ab_sg B ex a) := ab_rf_pos (by omega)
  rw [List.map_cons, List.map_cons, e9]
  refine va_zald (f := ab_i h a) (n := n) C.1 C.2.1 C.2.2.2.2.2.1.1 hr.1 (a - 5) 2 ((ab_ws_at ha.1 ha.2).trans (by rw [ab_cell_arr (t := 2) hs (Or.inr (Or.inl rfl))])) rfl (ab_nI_in hj hn).1 hd ?_
  rw [(ab_nI_in hj hn).2]
  exact kk B ex eA dA D p l e R s m args below meth c cm sm Q C hcm hsm hex H locs A cells slots hr hS hA h1 h2
theorem ab_lald {a j n : Nat} {x : Int32} {v : Int64} (hd : decode M.2.1 pc = .ok (.laload, 1)) (hs : ab_sh h a = (101, n)) (hx : x = nI j) (hj : j < n) (hv : ab_l h a j = v) (kk : ab_R k b M (pc + 1) ls (.long v :: st) h post) (hn : n ≤ 2147483648 := by decide) : ab_R k b M pc ls (.int x :: .ref a :: st) h post := by
  intro B ex eA dA D p l e R s m args below meth c cm sm Q C hcm hsm hex H locs A cells slots hr hS hA h1 h2
  subst hx hv
  have ha := hr.2.2.1 a (by rw [hs]; exact Nat.noConfusion)
  have e9 : ab_vv B ex (.ref a) = .ref (ab_sg B ex a) := ab_rf_pos (by omega)
  rw [List.map_cons, List.map_cons, e9]
  refine va_lald (f := ab_l h a) (n := n) C.1 C.2.1 C.2.2.2.2.2.1.1 hr.1 (a - 5) 1 ((ab_ws_at ha.1 ha.2).trans (by rw [ab_cell_arl hs])) rfl (ab_nI_in hj hn).1 hd ?_
  rw [(ab_nI_in hj hn).2]
  exact kk B ex eA dA D p l e R s m args below meth c cm sm Q C hcm hsm hex H locs A cells slots hr hS hA h1 h2
/-- the class of the objects in a row of references -/
def ab_ac (t : Nat) : Nat := match t with
  | 4 => 6
  | 5 => 4
  | 6 => 5
  | _ => 9
theorem ab_ts_q {dA : Nat → ClassId} {t : Nat} (h1 : 4 ≤ t) (h2 : t < 8) : (ab_ts dA)[t]? = some (dA t, .object (ab_C (ab_ac t))) := by
  match t, h1, h2 with
  | 4, _, _ => rfl
  | 5, _, _ => rfl
  | 6, _, _ => rfl
  | 7, _, _ => rfl
theorem ab_aald {a j n t : Nat} {x : Int32} {v : Nat} (hd : decode M.2.1 pc = .ok (.aaload, 1)) (hs : ab_sh h a = (100 + t, n)) (hx : x = nI j) (hj : j < n) (hv : ab_r h a j = v) (kk : ab_R k b M (pc + 1) ls (.ref v :: st) h post) (ht : 4 ≤ t := by decide) (ht8 : t < 8 := by decide) (hn : n ≤ 2147483648 := by decide) : ab_R k b M pc ls (.int x :: .ref a :: st) h post := by
  intro B ex eA dA D p l e R s m args below meth c cm sm Q C hcm hsm hex H locs A cells slots hr hS hA h1 h2
  subst hx hv
  have ha := hr.2.2.1 a (by rw [hs]; show 100 + t ≠ 0; omega)
  have e9 : ab_vv B ex (.ref a) = .ref (ab_sg B ex a) := ab_rf_pos (by omega)
  rw [List.map_cons, List.map_cons, e9]
  refine va_aldq (f := fun k => if ab_r h a k = 0 then none else some (ab_sg B ex (ab_r h a k))) (n := n) C.1 C.2.1 C.2.2.2.2.2.1.1 hr.1 (a - 5) t ((ab_ws_at ha.1 ha.2).trans (by rw [ab_cell_arq hs ht])) (ab_ts_q ht ht8) (ab_nI_in hj hn).1 hd ?_
  rw [(ab_nI_in hj hn).2]
  have e8 : va_rf (if ab_r h a j = 0 then none else some (ab_sg B ex (ab_r h a j))) = ab_vv B ex (.ref (ab_r h a j)) := by
    show _ = ab_rf B ex (ab_r h a j)
    unfold ab_rf
    split <;> rfl
  rw [e8]
  exact kk B ex eA dA D p l e R s m args below meth c cm sm Q C hcm hsm hex H locs A cells slots hr hS hA h1 h2
/-- stores into arrays -/
theorem ab_ast {B : Nat} {ex : Nat → Nat} {eA dA : Nat → ClassId} {D : va_G} {h h' : ab_H} {H H1 H0 : Heap} {locs : List Loc} {a j : Nat} {x : va_E} (hr : ab_rep B ex eA dA D h H) (ha : 5 ≤ a ∧ a < 5 + ab_n h) (hn : ab_n h' = ab_n h) (hs : ab_sh h' = ab_sh h) (he : ab_e h' = ab_e h) (hx : ab_cell B ex dA h' a = x) (hb : ∀ b, b ≠ a → ab_cell B ex dA h' b = ab_cell B ex dA h b) (hS : va_S (fun q => B ≤ q) H0 H locs) (e1 : va_at D vwCl (ab_sg B ex a, x) H1) (z1 : H1.size = H.size) (o1 : ∀ q : Nat, q ≠ ab_sg B ex a → H1[q]? = H[q]?) : ab_rep B ex eA dA D h' H1 ∧ va_S (fun q => B ≤ q) H0 H1 (locs ++ [⟨ab_sg B ex a, j⟩]) := by
  have hge : B ≤ ab_sg B ex a := by unfold ab_sg; rw [if_neg (by omega)]; exact Nat.le_add_right _ _
  have hP1 := hr.1.set ab_D (ab_ws_at ha.1 ha.2) e1 o1
  refine ⟨ab_rep_set hr ha.1 hn hs he hx hb hP1 z1 (fun q hq => o1 q (by omega)), by rw [z1]; exact hS.1, fun q hq hB => ?_, fun q hq => ?_⟩
  · rw [o1 q (by intro e9; subst e9; exact hB hge)]
    exact hS.2.1 q hq hB
  · rcases List.mem_append.mp hq with h9 | h9
    · exact hS.2.2 q h9
    · rw [List.mem_singleton] at h9; subst h9; exact hge
theorem ab_iast {a j n : Nat} {x : Int32} {v : Int32} (hd : decode M.2.1 pc = .ok (.iastore, 1)) (hs : ab_sh h a = (100, n)) (hx : x = nI j) (hj : j < n) (kk : ab_R k b M (pc + 1) ls st (ab_si h a j v) post) (hn : n ≤ 2147483648 := by decide)  : ab_R k b M pc ls (.int v :: .int x :: .ref a :: st) h post := by
  intro B ex eA dA D p l e R s m args below meth c cm sm Q C hcm hsm hex H locs A cells slots hr hS hA h1 h2
  subst hx
  have ha := hr.2.2.1 a (by rw [hs]; exact Nat.noConfusion)
  have e9 : ab_vv B ex (.ref a) = .ref (ab_sg B ex a) := ab_rf_pos (by omega)
  rw [List.map_cons, List.map_cons, List.map_cons, e9]
  have hc0 := ab_cell_arr (B := B) (ex := ex) (dA := dA) (t := 0) hs (Or.inl rfl)
  have hat : H[ab_sg B ex a]? = some (arrV (dA 0) n (fun j => .int (ab_i h a j))) := hr.1 (a - 5) (ab_sg B ex a, .inl (dA 0, n, .inl (ab_i h a))) ((ab_ws_at ha.1 ha.2).trans (by rw [hc0]))
  obtain ⟨g1, g2⟩ := ab_nI_in hj hn
  refine W.iast C.1 C.2.1 hat ((C.2.2.2.2.2.1.1.2 0 _ rfl).1 n _) (fun q => by cases q) (by show ¬ (_ ∨ (arrV _ _ _).slots.size ≤ _); rw [arrV_size]; exact g1) rfl rfl hd fun H1 e1 z1 o1 => ?_
  rw [g2] at e1 ⊢
  have e2 : ab_cell B ex dA (ab_si h a j v) a = .inl (dA 0, n, .inl (ab_i (ab_si h a j v) a)) := ab_cell_arr (t := 0) (show ab_sh (ab_si h a j v) a = (100 + 0, n) from hs) (Or.inl rfl)
  obtain ⟨r1, r2⟩ := ab_ast (h' := ab_si h a j v) (j := j) hr ha rfl rfl rfl e2 (fun b hb => ab_cell_si_ne b hb) hS (H1 := H1) (by
    show H1[ab_sg B ex a]? = some (arrV (dA 0) n (fun i => .int (ab_i (ab_si h a j v) a i)))
    rw [e1, arrV_store]
    congr 2
    funext i
    show _ = Value.int (ab_up (ab_i h) a (ab_up (ab_i h a) j v) a i)
    rw [ab_up_self]
    unfold updV ab_up
    split <;> rfl) z1 o1
  exact kk B ex eA dA D p l e R s m args below meth c cm sm Q C hcm hsm hex H1 _ A cells slots r1 r2 hA h1 h2
theorem ab_zast {a j n : Nat} {x : Int32} {v : Int32} (hd : decode M.2.1 pc = .ok (.bastore, 1)) (hs : ab_sh h a = (102, n)) (hx : x = nI j) (hj : j < n) (kk : ab_R k b M (pc + 1) ls st (ab_si h a j v) post) (hn : n ≤ 2147483648 := by decide) (hv : narrow .boolean (.int v) = .int v := by rfl) : ab_R k b M pc ls (.int v :: .int x :: .ref a :: st) h post := by
  intro B ex eA dA D p l e R s m args below meth c cm sm Q C hcm hsm hex H locs A cells slots hr hS hA h1 h2
  subst hx
  have ha := hr.2.2.1 a (by rw [hs]; exact Nat.noConfusion)
  have e9 : ab_vv B ex (.ref a) = .ref (ab_sg B ex a) := ab_rf_pos (by omega)
  rw [List.map_cons, List.map_cons, List.map_cons, e9]
  have hc0 := ab_cell_arr (B := B) (ex := ex) (dA := dA) (t := 2) hs (Or.inr (Or.inl rfl))
  have hat : H[ab_sg B ex a]? = some (arrV (dA 2) n (fun j => .int (ab_i h a j))) := hr.1 (a - 5) (ab_sg B ex a, .inl (dA 2, n, .inl (ab_i h a))) ((ab_ws_at ha.1 ha.2).trans (by rw [hc0]))
  obtain ⟨g1, g2⟩ := ab_nI_in hj hn
  refine W.zast C.1 C.2.1 hat ((C.2.2.2.2.2.1.1.2 2 _ rfl).1 n _) (fun q => by cases q) (by show ¬ (_ ∨ (arrV _ _ _).slots.size ≤ _); rw [arrV_size]; exact g1) rfl rfl hd fun H1 e1 z1 o1 => ?_
  rw [g2] at e1 ⊢
  have e2 : ab_cell B ex dA (ab_si h a j v) a = .inl (dA 2, n, .inl (ab_i (ab_si h a j v) a)) := ab_cell_arr (t := 2) (show ab_sh (ab_si h a j v) a = (100 + 2, n) from hs) (Or.inr (Or.inl rfl))
  obtain ⟨r1, r2⟩ := ab_ast (h' := ab_si h a j v) (j := j) hr ha rfl rfl rfl e2 (fun b hb => ab_cell_si_ne b hb) hS (H1 := H1) (by
    show H1[ab_sg B ex a]? = some (arrV (dA 2) n (fun i => .int (ab_i (ab_si h a j v) a i)))
    rw [e1, hv, arrV_store]
    congr 2
    funext i
    show _ = Value.int (ab_up (ab_i h) a (ab_up (ab_i h a) j v) a i)
    rw [ab_up_self]
    unfold updV ab_up
    split <;> rfl) z1 o1
  exact kk B ex eA dA D p l e R s m args below meth c cm sm Q C hcm hsm hex H1 _ A cells slots r1 r2 hA h1 h2
theorem ab_cast {a j n : Nat} {x : Int32} {v : Int32} (hd : decode M.2.1 pc = .ok (.castore, 1)) (hs : ab_sh h a = (103, n)) (hx : x = nI j) (hj : j < n) (kk : ab_R k b M (pc + 1) ls st (ab_si h a j v) post) (hn : n ≤ 2147483648 := by decide) (hv : narrow .char (.int v) = .int v := by rfl) : ab_R k b M pc ls (.int v :: .int x :: .ref a :: st) h post := by
  intro B ex eA dA D p l e R s m args below meth c cm sm Q C hcm hsm hex H locs A cells slots hr hS hA h1 h2
  subst hx
  have ha := hr.2.2.1 a (by rw [hs]; exact Nat.noConfusion)
  have e9 : ab_vv B ex (.ref a) = .ref (ab_sg B ex a) := ab_rf_pos (by omega)
  rw [List.map_cons, List.map_cons, List.map_cons, e9]
  have hc0 := ab_cell_arr (B := B) (ex := ex) (dA := dA) (t := 3) hs (Or.inr (Or.inr rfl))
  have hat : H[ab_sg B ex a]? = some (arrV (dA 3) n (fun j => .int (ab_i h a j))) := hr.1 (a - 5) (ab_sg B ex a, .inl (dA 3, n, .inl (ab_i h a))) ((ab_ws_at ha.1 ha.2).trans (by rw [hc0]))
  obtain ⟨g1, g2⟩ := ab_nI_in hj hn
  refine W.cast C.1 C.2.1 hat ((C.2.2.2.2.2.1.1.2 3 _ rfl).1 n _) (fun q => by cases q) (by show ¬ (_ ∨ (arrV _ _ _).slots.size ≤ _); rw [arrV_size]; exact g1) rfl rfl hd fun H1 e1 z1 o1 => ?_
  rw [g2] at e1 ⊢
  have e2 : ab_cell B ex dA (ab_si h a j v) a = .inl (dA 3, n, .inl (ab_i (ab_si h a j v) a)) := ab_cell_arr (t := 3) (show ab_sh (ab_si h a j v) a = (100 + 3, n) from hs) (Or.inr (Or.inr rfl))
  obtain ⟨r1, r2⟩ := ab_ast (h' := ab_si h a j v) (j := j) hr ha rfl rfl rfl e2 (fun b hb => ab_cell_si_ne b hb) hS (H1 := H1) (by
    show H1[ab_sg B ex a]? = some (arrV (dA 3) n (fun i => .int (ab_i (ab_si h a j v) a i)))
    rw [e1, hv, arrV_store]
    congr 2
    funext i
    show _ = Value.int (ab_up (ab_i h) a (ab_up (ab_i h a) j v) a i)
    rw [ab_up_self]
    unfold updV ab_up
    split <;> rfl) z1 o1
  exact kk B ex eA dA D p l e R s m args below meth c cm sm Q C hcm hsm hex H1 _ A cells slots r1 r2 hA h1 h2
theorem ab_last {a j n : Nat} {x : Int32} {v : Int64} (hd : decode M.2.1 pc = .ok (.lastore, 1)) (hs : ab_sh h a = (101, n)) (hx : x = nI j) (hj : j < n) (kk : ab_R k b M (pc + 1) ls st (ab_sl h a j v) post) (hn : n ≤ 2147483648 := by decide)  : ab_R k b M pc ls (.long v :: .int x :: .ref a :: st) h post := by
  intro B ex eA dA D p l e R s m args below meth c cm sm Q C hcm hsm hex H locs A cells slots hr hS hA h1 h2
  subst hx
  have ha := hr.2.2.1 a (by rw [hs]; exact Nat.noConfusion)
  have e9 : ab_vv B ex (.ref a) = .ref (ab_sg B ex a) := ab_rf_pos (by omega)
  rw [List.map_cons, List.map_cons, List.map_cons, e9]
  have hc0 := ab_cell_arl (B := B) (ex := ex) (dA := dA) hs
  have hat : H[ab_sg B ex a]? = some (arrV (dA 1) n (fun j => .long (ab_l h a j))) := hr.1 (a - 5) (ab_sg B ex a, .inl (dA 1, n, .inr (.inl (ab_l h a)))) ((ab_ws_at ha.1 ha.2).trans (by rw [hc0]))
  obtain ⟨g1, g2⟩ := ab_nI_in hj hn
  refine W.last C.1 C.2.1 hat ((C.2.2.2.2.2.1.1.2 1 _ rfl).1 n _) (fun q => by cases q) (by show ¬ (_ ∨ (arrV _ _ _).slots.size ≤ _); rw [arrV_size]; exact g1) rfl rfl hd fun H1 e1 z1 o1 => ?_
  rw [g2] at e1 ⊢
  have e2 : ab_cell B ex dA (ab_sl h a j v) a = .inl (dA 1, n, .inr (.inl (ab_l (ab_sl h a j v) a))) := ab_cell_arl (show ab_sh (ab_sl h a j v) a = (101, n) from hs)
  obtain ⟨r1, r2⟩ := ab_ast (h' := ab_sl h a j v) (j := j) hr ha rfl rfl rfl e2 (fun b hb => ab_cell_sl_ne b hb) hS (H1 := H1) (by
    show H1[ab_sg B ex a]? = some (arrV (dA 1) n (fun i => .long (ab_l (ab_sl h a j v) a i)))
    rw [e1, arrV_store]
    congr 2
    funext i
    show _ = Value.long (ab_up (ab_l h) a (ab_up (ab_l h a) j v) a i)
    rw [ab_up_self]
    unfold updV ab_up
    split <;> rfl) z1 o1
  exact kk B ex eA dA D p l e R s m args below meth c cm sm Q C hcm hsm hex H1 _ A cells slots r1 r2 hA h1 h2
theorem ab_ac_lt (t : Nat) : ab_ac t < 12 := by
  unfold ab_ac; split <;> decide
theorem ab_aast {a j n t w z : Nat} {x : Int32} (hd : decode M.2.1 pc = .ok (.aastore, 1)) (hs : ab_sh h a = (100 + t, n)) (hw : w = 0 ∨ ab_sh h w = (ab_ac t + 1, z)) (hx : x = nI j) (hj : j < n) (kk : ab_R k b M (pc + 1) ls st (ab_sr h a j w) post) (ht : 4 ≤ t := by decide) (ht8 : t < 8 := by decide) (hn : n ≤ 2147483648 := by decide) : ab_R k b M pc ls (.ref w :: .int x :: .ref a :: st) h post := by
  intro B ex eA dA D p l e R s m args below meth c cm sm Q C hcm hsm hex H locs A cells slots hr hS hA h1 h2
  subst hx
  have ha := hr.2.2.1 a (by rw [hs]; show 100 + t ≠ 0; omega)
  have e9 : ab_vv B ex (.ref a) = .ref (ab_sg B ex a) := ab_rf_pos (by omega)
  rw [List.map_cons, List.map_cons, List.map_cons, e9]
  have hc0 := ab_cell_arq (B := B) (ex := ex) (dA := dA) hs ht
  have hat : H[ab_sg B ex a]? = some (arrV (dA t) n (fun j => va_rf (if ab_r h a j = 0 then none else some (ab_sg B ex (ab_r h a j))))) := hr.1 (a - 5) (ab_sg B ex a, .inl (dA t, n, .inr (.inr (.inr (.inr (fun k => if ab_r h a k = 0 then none else some (ab_sg B ex (ab_r h a k)))))))) ((ab_ws_at ha.1 ha.2).trans (by rw [hc0]))
  obtain ⟨g1, g2⟩ := ab_nI_in hj hn
  have e2 : ab_cell B ex dA (ab_sr h a j w) a = .inl (dA t, n, .inr (.inr (.inr (.inr (fun k => if ab_r (ab_sr h a j w) a k = 0 then none else some (ab_sg B ex (ab_r (ab_sr h a j w) a k))))))) := ab_cell_arq (show ab_sh (ab_sr h a j w) a = (100 + t, n) from hs) ht
  have fin : ∀ H1 : Heap, H1[ab_sg B ex a]? = some ((arrV (dA t) n (fun j => va_rf (if ab_r h a j = 0 then none else some (ab_sg B ex (ab_r h a j))))).setSlot j (ab_rf B ex w)) → H1.size = H.size → (∀ q : Nat, q ≠ ab_sg B ex a → H1[q]? = H[q]?) → W p l e R s m args below meth c H1 (locs ++ [⟨ab_sg B ex a, j⟩]) cells slots Q (F0 m (pc + 1) A (st.map (ab_vv B ex))) := by
    intro H1 e1 z1 o1
    obtain ⟨r1, r2⟩ := ab_ast (h' := ab_sr h a j w) (j := j) hr ha rfl rfl rfl e2 (fun b hb => ab_cell_sr_ne b hb) hS (H1 := H1) (by
      show H1[ab_sg B ex a]? = some (arrV (dA t) n (fun i => va_rf (if ab_r (ab_sr h a j w) a i = 0 then none else some (ab_sg B ex (ab_r (ab_sr h a j w) a i)))))
      rw [e1, arrV_store]
      congr 2
      funext i
      have e3 : ab_r (ab_sr h a j w) a i = ab_up (ab_r h a) j w i := by
        show ab_up (ab_r h) a (ab_up (ab_r h a) j w) a i = _
        rw [ab_up_self]
      rw [e3]
      unfold updV ab_up ab_rf
      by_cases hi : i = j
      · rw [if_pos hi, if_pos hi]
        split <;> rfl
      · rw [if_neg hi, if_neg hi]) z1 o1
    exact kk B ex eA dA D p l e R s m args below meth c cm sm Q C hcm hsm hex H1 _ A cells slots r1 r2 hA h1 h2
  have htt := (C.2.2.2.2.2.1.1.2 t _ (ab_ts_q ht ht8))
  have hin : ¬ (nI j < 0 ∨ (arrV (dA t) n (fun j => va_rf (if ab_r h a j = 0 then none else some (ab_sg B ex (ab_r h a j))))).slots.size ≤ (nI j).toNatClampNeg) := by rw [arrV_size]; exact g1
  by_cases hw0 : w = 0
  · subst hw0
    refine va_WaastN (C := ab_C (ab_ac t)) C.1 C.2.1 hat (htt.1 n _) (fun q => by cases q) hin rfl rfl hd fun H1 e1 z1 o1 => ?_
    rw [g2] at e1 ⊢
    exact fin H1 e1 z1 o1
  · have hw := hw.resolve_left hw0
    have hwa := hr.2.2.1 w (by rw [hw]; exact Nat.noConfusion)
    have e8 : ab_vv B ex (.ref w) = .ref (ab_sg B ex w) := ab_rf_pos hw0
    have e7 : ab_rf B ex w = .ref (ab_sg B ex w) := ab_rf_pos hw0
    obtain ⟨r, r1, cell, q1, q2, q3, q4⟩ := hr.1 (w - 5) _ ((ab_ws_at hwa.1 hwa.2).trans (by rw [ab_cell_obj hw (ab_ac_lt t)]))
    have hcl := ab_cl (ab_ac_lt t)
    have hr' := Option.some.inj (r1.symm.trans hcl)
    subst hr'
    have hcls := (C.2.2.2.2.2.1.1.1 (ab_ac t) _ hcl).2
    obtain ⟨hfc, kC, hkC, hkind⟩ := hcls
    obtain ⟨kA, comp, u1, u2, u3, u4⟩ := htt.2
    have hcomp : comp = D.1 (ab_ac t) := Option.some.inj (u3.symm.trans hfc)
    subst hcomp
    rw [e8]
    refine W.aast (cv := cell) C.1 C.2.1 hat (fun q h => by cases h) (fun q => by cases q) u1 u2 rfl hkC ⟨fun q => hin (Or.inl q), Nat.not_le.mp (fun q => hin (Or.inr q))⟩ q1 (fun q h => by rw [q3] at h; cases h) (by rw [q2]; exact hkC) (by rw [q2]; exact va_assign ⟨hfc, kC, hkC, hkind⟩) rfl rfl hd fun H1 e1 z1 o1 => ?_
    rw [g2] at e1 ⊢
    exact fin H1 (by rw [e7]; exact e1) z1 o1
end ABG
end
section
/-! ===== contracts, entry, calls ===== -/
abbrev ab_rr (ret : Option FieldType) (v : Value) : Option Value := match ret with
  | none => none
  | some _ => some v
def ab_Q (B : Nat) (ex : Nat → Nat) (eA dA : Nat → ClassId) (D : va_G) (ret : Option FieldType) (post : Value → ab_H → Prop) : Array Value → State → Outcome → State → Prop := fun _ st o t =>
  (∃ (v : Value) (h : ab_H), o = .returned (ab_rr ret (ab_vv B ex v)) ∧ post v h ∧ ab_rep B ex eA dA D h t.heap) ∧ va_F (fun q => B ≤ q) st t
abbrev ab_wd (M : ab_MK) : List Cond := Cond.code M.1 M.2.1 M.2.2.1 M.2.2.2 :: ab_tg
abbrev ab_rm (k b : Nat) : Room := { frames := k, cells := b, slots := 12 * b, locals := 100 * k }
/-- method M's contract at level k, with at most b new cells: from heap h with these arguments it returns with 'post' -/
def ab_M (k b : Nat) (M : ab_MK) (as : List Value) (h : ab_H) (post : Value → ab_H → Prop) : Prop :=
  ∀ (B : Nat) (ex : Nat → Nat) (eA dA : Nat → ClassId) (D : va_G) (l : Launch), Met l M.1 (ab_wd M) (ab_rm k b) (va_Pc (as.map (ab_vv B ex)) (fun U => ab_rep B ex eA dA D h U.heap ∧ ab_K B ex eA dA D U U.heap)) (ab_Q B ex eA dA D M.2.2.2 post) b (12 * b) (fun q => B ≤ q)
/-- the locals at a method's entry -/
def ab_sl' (as : List Value) : List (Option Value) := as.flatMap fun v => if v.category = 2 then [some v, none] else [some v]
def ab_ent (as : List Value) (n : Nat) : List (Option Value) := ab_sl' as ++ List.replicate (n - (ab_sl' as).length) none
theorem ab_sl_len (B : Nat) (ex : Nat → Nat) (as : List Value) : (lg_sl (as.map (ab_vv B ex))).length = (ab_sl' as).length := by
  induction as with
  | nil => rfl
  | cons v t ih =>
    simp only [lg_sl, ab_sl', List.map_cons, List.flatMap_cons, List.length_append] at ih ⊢
    rw [ih, ab_vv_cat]
    congr 1
    split <;> rfl
theorem ab_sl_get (B : Nat) (ex : Nat → Nat) (as : List Value) : ∀ (i : Nat) (v : Value), (ab_sl' as)[i]? = some (some v) → (lg_sl (as.map (ab_vv B ex)))[i]? = some (.val (ab_vv B ex v)) := by
  induction as with
  | nil => intro i v h; simp [ab_sl'] at h
  | cons w t ih =>
    intro i v h
    simp only [lg_sl, ab_sl', List.map_cons, List.flatMap_cons] at ih h ⊢
    rw [ab_vv_cat]
    by_cases hw : w.category = 2
    · rw [if_pos hw] at h ⊢
      match i, h with
      | 0, h => simp at h; subst h; rfl
      | 1, h => simp at h
      | i + 2, h => simpa using ih i v (by simpa using h)
    · rw [if_neg hw] at h ⊢
      match i, h with
      | 0, h => simp at h; subst h; rfl
      | i + 1, h => simpa using ih i v (by simpa using h)
theorem ab_ent_loc {B : Nat} {ex : Nat → Nat} {as : List Value} {n : Nat} (hn : (ab_sl' as).length ≤ n) : ab_loc B ex ((lg_sl (as.map (ab_vv B ex)) ++ List.replicate (n - (lg_sl (as.map (ab_vv B ex))).length) Slot.unset).toArray) n (ab_ent as n) := by
  have h := lv_entry (as.map (ab_vv B ex)) (n := n) (by rw [ab_sl_len]; exact hn)
  refine ⟨h.1, by simp [ab_ent]; omega, h.2.1, fun i v hi => ?_⟩
  unfold ab_ent at hi
  by_cases hl : i < (ab_sl' as).length
  · rw [List.getElem?_append_left hl] at hi
    have := ab_sl_get B ex as i v hi
    rw [List.getElem?_toArray, List.getElem?_append_left (by rw [ab_sl_len]; exact hl)]
    exact this
  · rw [List.getElem?_append_right (by omega)] at hi
    rw [List.getElem?_replicate] at hi
    split at hi <;> cases hi
theorem ab_rf_or (B : Nat) (ex : Nat → Nat) (x : Nat) : ab_rf B ex x = .null ∨ ∃ a, ab_rf B ex x = .ref a := by
  unfold ab_rf
  split
  · exact Or.inl rfl
  · exact Or.inr ⟨_, rfl⟩
theorem ab_exit_of {B : Nat} {ex : Nat → Nat} {eA dA : Nat → ClassId} {D : va_G} {M : ab_MK} {p : Program} {l : Launch} {e : Env} {R : Room} {s : State} {m : MethodId} {args : Array Value} {below : List Frame} {meth : Method} {c : Code} {cm sm : Nat} {post : Value → ab_H → Prop}
    (hx : p.tables.exec = Jvm.exec) (hb : c.code = M.2.1) (hr : meth.sig.returnType = M.2.2.2) (hlocks : meth.locks = false) : ab_exit B ex eA dA D M p l e R s m args below meth c cm sm (MQ below (ab_Q B ex eA dA D M.2.2.2 post) args s cm sm (fun q => B ≤ q)) post := by
  intro pc v h H locs A cells slots hd hok hp hrep hS hc hs
  refine W.widen hc hs ?_
  have hQ : ∀ t : State, t.heap = H → s.WarmedH t.vm → ab_Q B ex eA dA D M.2.2.2 post args s (.returned (ab_rr M.2.2.2 (ab_vv B ex v))) t := fun t ht _ => ⟨⟨v, h, rfl, hp, by rw [ht]; exact hrep⟩, hS.F ht⟩
  generalize M.2.2.2 = ret at hr hd hok hQ ⊢
  match ret, hr, hd, hok, hQ with
  | none, hr, hd, hok, hQ => exact W.vret hx hb hr hQ hS.2.2 hd
  | some .long, hr, hd, hok, hQ => obtain ⟨x, rfl⟩ := hok; exact W.lret hx hb hr hQ hS.2.2 hd
  | some .float, hr, hd, hok, hQ => obtain ⟨x, rfl⟩ := hok; exact W.fret hx hb hr hQ hS.2.2 hd
  | some .double, hr, hd, hok, hQ => obtain ⟨x, rfl⟩ := hok; exact W.dret hx hb hr hQ hS.2.2 hd
  | some (.object n), hr, hd, hok, hQ =>
    obtain ⟨x, rfl⟩ := hok
    exact W.aret hx hb hr (Or.inl ⟨n, rfl⟩) (ab_rf_or B ex x) hQ hS.2.2 hd
  | some (.array n), hr, hd, hok, hQ =>
    obtain ⟨x, rfl⟩ := hok
    exact W.aret hx hb hr (Or.inr ⟨n, rfl⟩) (ab_rf_or B ex x) hQ hS.2.2 hd
  | some .int, hr, hd, hok, hQ => obtain ⟨x, rfl, hn⟩ := hok; exact W.zret hx hb hr hn hQ hS.2.2 hd
  | some .boolean, hr, hd, hok, hQ => obtain ⟨x, rfl, hn⟩ := hok; exact W.zret hx hb hr hn hQ hS.2.2 hd
  | some .char, hr, hd, hok, hQ => obtain ⟨x, rfl, hn⟩ := hok; exact W.zret hx hb hr hn hQ hS.2.2 hd
  | some .byte, hr, hd, hok, hQ => obtain ⟨x, rfl, hn⟩ := hok; exact W.zret hx hb hr hn hQ hS.2.2 hd
  | some .short, hr, hd, hok, hQ => obtain ⟨x, rfl, hn⟩ := hok; exact W.zret hx hb hr hn hQ hS.2.2 hd
theorem ab_enter {k b : Nat} {M : ab_MK} {as : List Value} {h : ab_H} {post : Value → ab_H → Prop} (kk : ab_R k b M 0 (ab_ent as M.2.2.1) [] h post) (hpl : plainName M.1.cls = true := by decide +kernel) (hn : (ab_sl' as).length ≤ M.2.2.1 := by exact Nat.le_of_ble_eq_true rfl) : ab_M k b M as h post := by
  intro B ex eA dA D l
  refine Met.ofW (cc := M.2.1) (maxL := M.2.2.1) (ret := M.2.2.2) hpl rfl ?_
  intro p e s m args below meth c s₁ Bd hml hv
  obtain ⟨rfl, hrep, hK⟩ := hv
  rw [lg_entry_eq]
  have hts := atoms_spec (ws := ab_wd M) Bd.pre
  exact kk B ex eA dA D p l e _ s m _ below meth c b (12 * b) _ ⟨Bd.exec, Bd.bytes, hml, findClass_of_methodNamed Bd.named, fun w hw => hts w (List.mem_cons_of_mem _ hw), hK, (name_of_methodNamed Bd.named Bd.method).1, Nat.le_refl _, Nat.le_refl _, by rw [hrep.2.1]; exact Nat.le_add_right _ _⟩ (Nat.le_refl _) (Nat.le_refl _)
    (ab_exit_of Bd.exec Bd.bytes Bd.returns Bd.notSynchronized) s.heap [] _ 0 0 hrep va_S.rf (ab_ent_loc hn) (by omega) (by omega)
section ABE
variable {k b : Nat} {M : ab_MK} {pc : Nat} {ls : List (Option Value)} {st : List Value} {h : ab_H} {post : Value → ab_H → Prop}
theorem ab_end {v : Value} (hd : decode M.2.1 pc = .ok (ab_ri M.2.2.2, 1)) (hok : ab_rok M.2.2.2 v) (hp : post v h) (hst : st = ab_rv M.2.2.2 v) : ab_R k b M pc ls st h post := by
  intro B ex eA dA D p l e R s m args below meth c cm sm Q C hcm hsm hex H locs A cells slots hr hS hA h1 h2
  subst hst
  have e9 : (ab_rv M.2.2.2 v).map (ab_vv B ex) = ab_rv M.2.2.2 (ab_vv B ex v) := by
    unfold ab_rv
    split <;> rfl
  rw [e9]
  exact hex pc v h H locs A cells slots hd hok hp hr hS (by omega) (by omega)
theorem ab_iret {x : Int32} (hd : decode M.2.1 pc = .ok (.ireturn, 1)) (hp : post (.int x) h) (hr : ab_ri M.2.2.2 = .ireturn := by rfl) (hv : ab_rv M.2.2.2 (.int x) = [.int x] := by rfl) (hok : ab_rok M.2.2.2 (.int x) := by exact ⟨_, rfl, rfl⟩) : ab_R k b M pc ls [.int x] h post :=
  ab_end (by rw [hr]; exact hd) hok hp hv.symm
theorem ab_lret {x : Int64} (hd : decode M.2.1 pc = .ok (.lreturn, 1)) (hp : post (.long x) h) (hr : ab_ri M.2.2.2 = .lreturn := by rfl) (hv : ab_rv M.2.2.2 (.long x) = [.long x] := by rfl) (hok : ab_rok M.2.2.2 (.long x) := by exact ⟨_, rfl⟩) : ab_R k b M pc ls [.long x] h post :=
  ab_end (by rw [hr]; exact hd) hok hp hv.symm
theorem ab_fret {x : UInt32} (hd : decode M.2.1 pc = .ok (.freturn, 1)) (hp : post (.float x) h) (hr : ab_ri M.2.2.2 = .freturn := by rfl) (hv : ab_rv M.2.2.2 (.float x) = [.float x] := by rfl) (hok : ab_rok M.2.2.2 (.float x) := by exact ⟨_, rfl⟩) : ab_R k b M pc ls [.float x] h post :=
  ab_end (by rw [hr]; exact hd) hok hp hv.symm
theorem ab_dret {x : UInt64} (hd : decode M.2.1 pc = .ok (.dreturn, 1)) (hp : post (.double x) h) (hr : ab_ri M.2.2.2 = .dreturn := by rfl) (hv : ab_rv M.2.2.2 (.double x) = [.double x] := by rfl) (hok : ab_rok M.2.2.2 (.double x) := by exact ⟨_, rfl⟩) : ab_R k b M pc ls [.double x] h post :=
  ab_end (by rw [hr]; exact hd) hok hp hv.symm
theorem ab_aret {x : Nat} (hd : decode M.2.1 pc = .ok (.areturn, 1)) (hp : post (.ref x) h) (hr : ab_ri M.2.2.2 = .areturn := by rfl) (hv : ab_rv M.2.2.2 (.ref x) = [.ref x] := by rfl) (hok : ab_rok M.2.2.2 (.ref x) := by exact ⟨_, rfl⟩) : ab_R k b M pc ls [.ref x] h post :=
  ab_end (by rw [hr]; exact hd) hok hp hv.symm
theorem ab_vret (hd : decode M.2.1 pc = .ok (.return_, 1)) (hp : post (.ref 0) h) (hr : ab_ri M.2.2.2 = .return_ := by rfl) (hv : ab_rv M.2.2.2 (.ref 0) = [] := by rfl) (hok : ab_rok M.2.2.2 (.ref 0) := by exact trivial) : ab_R k b M pc ls [] h post :=
  ab_end (by rw [hr]; exact hd) hok hp hv.symm
/-! calls -/
theorem ab_back {B : Nat} {ex : Nat → Nat} {eA dA : Nat → ClassId} {D : va_G} {p : Program} {l : Launch} {e : Env} {R : Room} {s : State} {m : MethodId} {args : Array Value} {below : List Frame} {meth : Method} {c : Code} {Q : State → Prop} {H : Heap} {locs : List Loc} {cells slots mc ms pc : Nat} {A : Array Slot} {st0 rest : List Value} {a : Array Value} {ret : Option FieldType} {post : Value → ab_H → Prop}
    (hr : va_Run p l e R s m args below meth c H locs cells slots mc ms (F0 m pc A st0) rest (ab_Q B ex eA dA D ret post a) (fun q => B ≤ q)) (hS : va_S (fun q => B ≤ q) s.heap H locs)
    (kk : ∀ (v : Value) (h' : ab_H) (H1 : Heap) (locs1 : List Loc), post v h' → ab_rep B ex eA dA D h' H1 → va_S (fun q => B ≤ q) s.heap H1 locs1 → W p l e R s m args below meth c H1 locs1 (cells + mc) (slots + ms) Q (F0 m (pc + 3) A (ab_rv ret (ab_vv B ex v) ++ rest))) : W p l e R s m args below meth c H locs cells slots Q (F0 m pc A st0) := by
  intro T hT X
  obtain ⟨v, st₀, t, T', L, h0, X', hL, e1, e2, ⟨⟨r, h', hv, hp, hb⟩, hz, hk⟩, st⟩ := hr T hT X
  cases hv
  rw [h0] at hz hk
  obtain ⟨t2, a1, b1⟩ := kk r h' T'.heap (locs ++ L) hp (by rw [e1]; exact hb) ⟨Nat.le_trans hS.1 (by rw [e1]; exact hz), fun q h1 h2 => by rw [e1, hk q (Nat.lt_of_lt_of_le h1 hS.1) h2]; exact hS.2.1 q h1 h2, fun q hq => by
      rcases List.mem_append.mp hq with h | h
      · exact hS.2.2 q h
      · exact hL q h⟩ T' rfl X'
  refine ⟨t2, st t2 ?_, b1⟩
  have e9 : (ab_rr ret (ab_vv B ex r)).toList ++ rest = ab_rv ret (ab_vv B ex r) ++ rest := by
    unfold ab_rr ab_rv
    split <;> rfl
  rw [e9]
  exact a1
theorem ab_goodIn {ws : List Cond} (h : ∀ w ∈ ws, w ∈ ab_tg) : GoodIn ab_tg ws := fun w hw => ⟨h w hw, good_of_word (List.mem_filter.mp (h w hw)).2⟩
theorem ab_wd_in {M : ab_MK} {n : Nat} (hm : ab_mk M n) : ∀ w ∈ ab_wd M, w ∈ ab_tg := by
  intro w hw
  rcases List.mem_cons.mp hw with rfl | h
  · exact List.mem_filter.mpr ⟨hm.1, rfl⟩
  · exact h
theorem ab_K_moved {B : Nat} {ex : Nat → Nat} {eA dA : Nat → ClassId} {D : va_G} {u U : State} {H H1 : Heap} (hvm : u.vm.Alike U.vm) (h : ab_K B ex eA dA D u H) (hq : ∀ a : Nat, a < H.size → ¬ B ≤ a → H1[a]? = H[a]?) : ab_K B ex eA dA D U H1 :=
  ⟨va_K.moved hvm h.1, fun j h1 h2 => arrOfT_moved hvm (h.2.1 j h1 h2), ⟨h.2.2.1.1.moved hvm, h.2.2.1.2.1.moved hvm, h.2.2.1.2.2.1.moved hvm, h.2.2.1.2.2.2.moved hvm⟩, fun j h1 h2 => ((h.2.2.2 j h1 h2).moved hvm).kept hq⟩
theorem ab_pre {B : Nat} {ex : Nat → Nat} {eA dA : Nat → ClassId} {D : va_G} {M : ab_MK} {p : Program} {l : Launch} {R : Room} {s : State} {m : MethodId} {args : Array Value} {meth : Method} {c : Code} {H : Heap} {locs : List Loc} {as : List Value}
    (C : ab_ctx B ex eA dA D M k p l R s m args meth c) (hr : ab_rep B ex eA dA D h H) (hS : va_S (fun q => B ≤ q) s.heap H locs) : PreS s H (va_Pc (as.map (ab_vv B ex)) (fun U => ab_rep B ex eA dA D h U.heap ∧ ab_K B ex eA dA D U U.heap)) (as.map (ab_vv B ex)) :=
  ⟨fun a U g mk q => ⟨q.1, q.2.1, ab_K_moved (u := U) (U := U.calling g mk a) (Vm.Alike.refl U.vm) q.2.2 (fun _ _ _ => rfl)⟩, fun U hU hW => ⟨rfl, by rw [hU]; exact hr, by
    rw [hU]
    exact ab_K_moved hW.alike C.2.2.2.2.2.1 (fun a h1 h2 => hS.2.1 a h1 h2)⟩⟩
theorem ab_cat_sum {B : Nat} {ex : Nat → Nat} (st : List Value) : ((st.map (ab_vv B ex)).map fun v => v.category).sum = (st.map fun v => v.category).sum := by
  rw [List.map_map]
  congr 1
  apply List.map_congr_left
  intro v _
  exact ab_vv_cat B ex v
theorem ab_rv_map (B : Nat) (ex : Nat → Nat) (ret : Option FieldType) (v : Value) (st : List Value) : (ab_rv ret v ++ st).map (ab_vv B ex) = ab_rv ret (ab_vv B ex v) ++ st.map (ab_vv B ex) := by
  unfold ab_rv
  split <;> rfl
theorem ab_callV {k' b' i n a ci x : Nat} {M' : ab_MK} (as : List Value) {post' : Value → ab_H → Prop} (hd : decode M.2.1 pc = .ok (.invokevirtual i, 3)) (hl : ab_kv M.1.cls i M') (hm : ab_mk M' n) (hs : ab_sh h a = (ci + 1, x)) (hc : ab_M k' b' M' (.ref a :: as) h post') (kk : ∀ v h', post' v h' → ab_R k (b - b') M (pc + 3) ls (ab_rv M'.2.2.2 v ++ st) h' post)
    (hcl : ab_C ci = M'.1.cls := by rfl) (hci : ci < 12 := by decide) (hk : k' + 1 ≤ k := by omega) (hb : b' ≤ b := by omega) (hn : as.length = n := by rfl) (hW : (st.map fun v => v.category).sum ≤ 8 := by exact Nat.le_of_ble_eq_true rfl) : ab_R k b M pc ls (as.reverse ++ .ref a :: st) h post := by
  intro B ex eA dA D p l e R s m args below meth c cm sm Q C hcm hsm hex H locs A cells slots hr hS hA h1 h2
  have ha := hr.2.2.1 a (by rw [hs]; exact Nat.noConfusion)
  have e9 : ab_vv B ex (.ref a) = .ref (ab_sg B ex a) := ab_rf_pos (by omega)
  rw [List.map_append, List.map_cons, e9, List.map_reverse]
  obtain ⟨m1, m2, m3, m4⟩ := hm
  have tk := C.2.2.2.2.1
  have hG : GoodIn ab_tg (wsV M.1.cls i M'.1.cls M'.1 (ab_wd M')) := ab_goodIn (fun w hw => by
    unfold wsV at hw
    rcases List.mem_append.mp hw with q | q
    · simp only [List.mem_cons, List.not_mem_nil, or_false] at q
      rcases q with rfl | rfl | rfl | rfl
      · exact List.mem_filter.mpr ⟨hl.1, rfl⟩
      · exact List.mem_filter.mpr ⟨hl.2.1, rfl⟩
      · exact List.mem_filter.mpr ⟨hl.2.2, rfl⟩
      · exact List.mem_filter.mpr ⟨m2, rfl⟩
    · exact ab_wd_in ⟨m1, m2, m3, m4⟩ w q)
  have hP := ab_pre (as := .ref a :: as) C hr hS
  rw [List.map_cons, e9] at hP
  have hcall := hc B ex eA dA D l
  rw [List.map_cons, e9] at hcall
  have hcell0 : (ab_ws B ex dA h)[a - 5]? = some (ab_sg B ex a, .inr (ci, (List.range (ab_N ci)).map (fun k => ab_val B ex h a (ab_tys ci k) k))) := (ab_ws_at ha.1 ha.2).trans (by rw [ab_cell_obj hs hci])
  have hrecv := va_recv C.2.2.2.2.2.1.1 hr.1 (ab_cl hci) hcell0
  rw [show (ab_C ci, ab_T ci, ab_N ci).1 = M'.1.cls from hcl] at hrecv
  refine ab_back (va_runV (As := as.map (ab_vv B ex)) (rest := st.map (ab_vv B ex)) (nL := M.2.2.1) ⟨C.1, C.2.1, C.2.2.1, C.2.2.2.1, tk⟩ hcall (cwV n tk hG rfl rfl rfl ⟨rfl, m3.1, m3.2.1, m3.2.2⟩ ⟨Nat.le_trans hk C.2.2.2.2.2.2.2.1, by
    have q1 := C.2.2.2.2.2.2.2.2.1
    show 8 + (M'.2.2.1 + 11) + 100 * k' ≤ R.locals
    omega⟩) ⟨hP.1, hrecv, hP.2⟩ rfl (by rw [List.length_map]; exact hn) hA.1 rfl (lv_room (by rw [ab_cat_sum]; exact hW)) hd ⟨by omega, by omega⟩) hS ?_
  intro v h' H1 locs1 hp hr1 hS1
  rw [← ab_rv_map]
  exact kk v h' hp B ex eA dA D p l e R s m args below meth c cm sm Q C hcm hsm hex H1 locs1 A (cells + b') (slots + 12 * b') hr1 hS1 hA (by omega) (by omega)
theorem ab_callS {k' b' i n : Nat} {M' : ab_MK} (as : List Value) {post' : Value → ab_H → Prop} (hd : decode M.2.1 pc = .ok (.invokestatic i, 3)) (hl : ab_ks M.1.cls i M') (hm : ab_mk M' n) (hc : ab_M k' b' M' as h post') (kk : ∀ v h', post' v h' → ab_R k (b - b') M (pc + 3) ls (ab_rv M'.2.2.2 v ++ st) h' post)
    (hk : k' + 1 ≤ k := by omega) (hb : b' ≤ b := by omega) (hn : as.length = n := by rfl) (hW : (st.map fun v => v.category).sum ≤ 8 := by exact Nat.le_of_ble_eq_true rfl) : ab_R k b M pc ls (as.reverse ++ st) h post := by
  intro B ex eA dA D p l e R s m args below meth c cm sm Q C hcm hsm hex H locs A cells slots hr hS hA h1 h2
  rw [List.map_append, List.map_reverse]
  obtain ⟨m1, m2, m3, m4⟩ := hm
  have tk := C.2.2.2.2.1
  have hG : GoodIn ab_tg (va_wsS M.1.cls i M'.1 (ab_wd M')) := ab_goodIn (fun w hw => by
    unfold va_wsS at hw
    rcases List.mem_append.mp hw with q | q
    · simp only [List.mem_cons, List.not_mem_nil, or_false] at q
      rcases q with rfl | rfl | rfl
      · exact List.mem_filter.mpr ⟨hl.1, rfl⟩
      · exact List.mem_filter.mpr ⟨hl.2, rfl⟩
      · exact List.mem_filter.mpr ⟨m2, rfl⟩
    · exact ab_wd_in ⟨m1, m2, m3, m4⟩ w q)
  have hP := ab_pre (as := as) C hr hS
  refine ab_back (va_runS (As := as.map (ab_vv B ex)) (rest := st.map (ab_vv B ex)) (nL := M.2.2.1) ⟨C.1, C.2.1, C.2.2.1, C.2.2.2.1, tk⟩ (hc B ex eA dA D l) (va_cwS n tk hG rfl rfl rfl ⟨m3.1, m3.2.1, m3.2.2⟩ ⟨Nat.le_trans hk C.2.2.2.2.2.2.2.1, by
    have q1 := C.2.2.2.2.2.2.2.2.1
    show 8 + (M'.2.2.1 + 11) + 100 * k' ≤ R.locals
    omega⟩) hP rfl (by rw [List.length_map]; exact hn) hA.1 rfl (lv_room (by rw [ab_cat_sum]; exact hW)) hd ⟨by omega, by omega⟩) hS ?_
  intro v h' H1 locs1 hp hr1 hS1
  rw [← ab_rv_map]
  exact kk v h' hp B ex eA dA D p l e R s m args below meth c cm sm Q C hcm hsm hex H1 locs1 A (cells + b') (slots + 12 * b') hr1 hS1 hA (by omega) (by omega)
theorem ab_callI {k' b' i n a : Nat} {M' : ab_MK} (as : List Value) {post' : Value → ab_H → Prop} (hd : decode M.2.1 pc = .ok (.invokespecial i, 3)) (hl : ab_ki M.1.cls i M') (hm : ab_mk M' n) (ha0 : a ≠ 0) (hc : ab_M k' b' M' (.ref a :: as) h post') (kk : ∀ v h', post' v h' → ab_R k (b - b') M (pc + 3) ls st h' post)
    (hret : M'.2.2.2 = none := by rfl) (hk : k' + 1 ≤ k := by omega) (hb : b' ≤ b := by omega) (hn : as.length = n := by rfl) (hW : (st.map fun v => v.category).sum ≤ 8 := by exact Nat.le_of_ble_eq_true rfl) : ab_R k b M pc ls (as.reverse ++ .ref a :: st) h post := by
  intro B ex eA dA D p l e R s m args below meth c cm sm Q C hcm hsm hex H locs A cells slots hr hS hA h1 h2
  have e9 : ab_vv B ex (.ref a) = .ref (ab_sg B ex a) := ab_rf_pos ha0
  rw [List.map_append, List.map_cons, e9, List.map_reverse]
  obtain ⟨m1, m2, m3, m4⟩ := hm
  have tk := C.2.2.2.2.1
  have hP := ab_pre (as := .ref a :: as) C hr hS
  rw [List.map_cons, e9] at hP
  have hcall := hc B ex eA dA D l
  rw [List.map_cons, e9] at hcall
  have hG : GoodIn ab_tg (ab_wd M') := ab_goodIn (ab_wd_in ⟨m1, m2, m3, m4⟩)
  have hw : ab_wd M' = Cond.code M'.1 M'.2.1 M'.2.2.1 none :: ab_tg := by unfold ab_wd; rw [hret]
  refine ab_back (va_runI (As := as.map (ab_vv B ex)) (rest := st.map (ab_vv B ex)) (nL := M.2.2.1) ⟨C.1, C.2.1, C.2.2.1, C.2.2.2.1, tk⟩ hcall (cwI n tk hG hw rfl rfl (tk _ (List.mem_filter.mpr ⟨m2, rfl⟩)) (tk _ (List.mem_filter.mpr ⟨hl.1, rfl⟩)) (tk _ (List.mem_filter.mpr ⟨hl.2.1, rfl⟩)) hl.2.2 ⟨m3.1, m3.2.1, m3.2.2⟩ ⟨Nat.le_trans hk C.2.2.2.2.2.2.2.1, by
    have q1 := C.2.2.2.2.2.2.2.2.1
    show 8 + (M'.2.2.1 + 11) + 100 * k' ≤ R.locals
    omega⟩) hP rfl (by rw [List.length_map]; exact hn) hA.1 rfl (lv_room (by rw [ab_cat_sum]; exact hW)) hd ⟨by omega, by omega⟩) hS ?_
  intro v h' H1 locs1 hp hr1 hS1
  rw [hret]
  exact kk v h' hp B ex eA dA D p l e R s m args below meth c cm sm Q C hcm hsm hex H1 locs1 A (cells + b') (slots + 12 * b') hr1 hS1 hA (by omega) (by omega)
end ABE
end
section
/-! ===== new objects and arrays; the JDK's natives; statics ===== -/
theorem ab_arrV_congr {c : ClassId} {n : Nat} {f g : Nat → Value} (h : ∀ j, j < n → f j = g j) : arrV c n f = arrV c n g := by
  unfold arrV
  congr 2
  funext j
  exact h j.val j.isLt
theorem ab_oi_inst : Cond.instanceMethod ⟨"java/lang/Object", "<init>", "()V"⟩ ∈ lw_tbl := List.mem_of_getElem? (i := 83) (by decide +kernel)
theorem ab_oi_code : Cond.code ⟨"java/lang/Object", "<init>", "()V"⟩ ⟨#[0xb1]⟩ 1 none ∈ lw_tbl := List.mem_of_getElem? (i := 84) (by decide +kernel)
theorem ab_nofloat {ci : Nat} (h : ci < 12) : ∀ k, k < ab_N ci → ab_ik (ab_tys ci k) ≠ 3 := by
  match ci, h with
  | 0, _ => decide +kernel
  | 1, _ => decide +kernel
  | 2, _ => decide +kernel
  | 3, _ => decide +kernel
  | 4, _ => decide +kernel
  | 5, _ => decide +kernel
  | 6, _ => decide +kernel
  | 7, _ => decide +kernel
  | 8, _ => decide +kernel
  | 9, _ => decide +kernel
  | 10, _ => decide +kernel
  | 11, _ => decide +kernel
  | n + 12, h => exact absurd h (by omega)
section ABN
variable {k b : Nat} {M : ab_MK} {pc : Nat} {ls : List (Option Value)} {st : List Value} {h : ab_H} {post : Value → ab_H → Prop}
theorem ab_new_rep {B : Nat} {ex : Nat → Nat} {eA dA : Nat → ClassId} {D : va_G} {H H1 H0 : Heap} {locs : List Loc} {s : Nat × Nat} {x : va_E} (hr : ab_rep B ex eA dA D h H) (hS : va_S (fun q => B ≤ q) H0 H locs) (hx : ab_cell B ex dA (ab_new h s) (5 + ab_n h) = x) (e1 : va_at D vwCl (H.size, x) H1) (z1 : H1.size = H.size + 1) (o1 : ∀ q : Nat, q < H.size → H1[q]? = H[q]?) : ab_rep B ex eA dA D (ab_new h s) H1 ∧ va_S (fun q => B ≤ q) H0 H1 locs := by
  obtain ⟨r1, r2, r3, r4⟩ := hr
  refine ⟨⟨?_, by rw [z1, r2]; show _ = B + (ab_n h + 1); omega, fun a ha => ?_, fun j g1 g2 => ?_⟩, ⟨by rw [z1]; exact Nat.le_trans hS.1 (Nat.le_succ _), fun q g1 g2 => by rw [o1 q (Nat.lt_of_lt_of_le g1 hS.1)]; exact hS.2.1 q g1 g2, hS.2.2⟩⟩
  · rw [← ab_ws_new hx, ← r2]
    have hk : ∀ (k : Nat) (y : Nat × va_E), (ab_ws B ex dA h)[k]? = some y → H1[y.1]? = H[y.1]? := fun k y hy => o1 y.1 ((r1 k y hy).lt)
    refine (r1.kept hk).app (fun k y hy => ?_)
    have hz : k < 1 := (List.getElem?_eq_some_iff.mp hy).1
    rw [show k = 0 by omega] at hy
    cases hy
    exact e1
  · show 5 ≤ a ∧ a < 5 + (ab_n h + 1)
    by_cases e : a = 5 + ab_n h
    · omega
    · have := r3 a (by
        have e2 : ab_sh (ab_new h s) a = ab_sh h a := ab_up_ne _ _ e
        rw [← e2]; exact ha)
      omega
  · obtain ⟨q1, q2, q3⟩ := r4 j g1 g2
    exact ⟨q1, q2, by rw [o1 _ (by omega)]; exact q3⟩
theorem ab_newo {i ci b' : Nat} (hd : decode M.2.1 pc = .ok (.new i, 3)) (hcl : Cond.classLink M.1.cls i (ab_C ci) ∈ lw_tbl) (hins : Cond.instantiable (ab_C ci) (ab_N ci) ∈ lw_tbl) (hini : Cond.initialized (ab_C ci) ∈ lw_tbl) (kk : ab_R k b' M (pc + 3) ls (.ref (5 + ab_n h) :: st) (ab_new h (ci + 1, 0)) post) (hci : ci < 12 := by decide) (hb : b' + 1 ≤ b := by omega) (hb2 : 12 * b' + ab_N ci ≤ 12 * b := by exact Nat.le_of_ble_eq_true rfl) : ab_R k b M pc ls st h post := by
  intro B ex eA dA D p l e R s m args below meth c cm sm Q C hcm hsm hex H locs A cells slots hr hS hA h1 h2
  have tk := C.2.2.2.2.1
  have hcls := ab_cl hci
  have hKn := C.2.2.2.2.2.1.1.1 ci _ hcls
  refine W.newcK C.1 C.2.1 C.2.2.2.1 (tk _ (List.mem_filter.mpr ⟨hcl, rfl⟩)) (tk _ (List.mem_filter.mpr ⟨hins, rfl⟩)) (tk _ (List.mem_filter.mpr ⟨hini, rfl⟩)) rfl hd (by omega) (by omega) hKn.2.1 rfl fun H1 kC hkC e1 z1 o1 => ?_
  have hsz := hr.2.1
  have hx : ab_cell B ex dA (ab_new h (ci + 1, 0)) (5 + ab_n h) = .inr (ci, (List.range (ab_N ci)).map (fun k => ab_val B ex (ab_new h (ci + 1, 0)) (5 + ab_n h) (ab_tys ci k) k)) := ab_cell_obj (x := 0) (ab_up_self _ _ _) hci
  obtain ⟨g1, g2⟩ := ab_new_rep hr hS hx (H1 := H1) (by
    refine ⟨_, hcls, (u_born (ab_tys ci) tk (ab_in_tg ci) hKn hkC e1 (ab_tyok hci)).to fun j hj => ?_⟩
    unfold vp_V
    rw [List.getD_eq_getElem?_getD, List.getElem?_map, List.getElem?_range hj]
    show _ = ab_val B ex (ab_new h (ci + 1, 0)) (5 + ab_n h) (ab_tys ci j) j
    have a1 : ab_i (ab_new h (ci + 1, 0)) (5 + ab_n h) j = 0 := congrFun (ab_up_self _ _ _ : ab_i (ab_new h (ci + 1, 0)) (5 + ab_n h) = fun _ => 0) j
    have a2 : ab_l (ab_new h (ci + 1, 0)) (5 + ab_n h) j = 0 := congrFun (ab_up_self _ _ _ : ab_l (ab_new h (ci + 1, 0)) (5 + ab_n h) = fun _ => 0) j
    have a3 : ab_r (ab_new h (ci + 1, 0)) (5 + ab_n h) j = 0 := congrFun (ab_up_self _ _ _ : ab_r (ab_new h (ci + 1, 0)) (5 + ab_n h) = fun _ => 0) j
    have nf : ab_ik (ab_tys ci j) ≠ 3 := ab_nofloat hci j hj
    generalize ab_tys ci j = ty at nf ⊢
    cases ty <;> simp [ab_val, defaultValue, a1, a2, a3, ab_rf, ab_ik] at nf ⊢) z1 o1
  have e8 : ab_vv B ex (.ref (5 + ab_n h)) = .ref H.size := by
    show ab_rf B ex (5 + ab_n h) = _
    rw [ab_rf_pos (by omega), hsz]
    unfold ab_sg
    rw [if_neg (by omega), show 5 + ab_n h - 5 = ab_n h by omega]
  have kk := kk B ex eA dA D p l e R s m args below meth c cm sm Q C hcm hsm hex H1 locs A (cells + 1) (slots + ab_N ci) g1 g2 hA (by omega) (by omega)
  rw [List.map_cons, e8] at kk
  exact kk
theorem ab_newa {at_ : ArrayType} {t n b' : Nat} {x : Int32} (hd : decode M.2.1 pc = .ok (.newarray at_, 2)) (hac : Cond.arrayClass (newarray.typeOf at_) ∈ lw_tbl) (ht : (t = 0 ∧ newarray.typeOf at_ = .int) ∨ (t = 1 ∧ newarray.typeOf at_ = .long) ∨ (t = 2 ∧ newarray.typeOf at_ = .boolean) ∨ (t = 3 ∧ newarray.typeOf at_ = .char)) (hx : x = nI n) (kk : ab_R k b' M (pc + 2) ls (.ref (5 + ab_n h) :: st) (ab_new h (100 + t, n)) post) (hn : n ≤ 1000 := by decide) (hb : b' + 1 ≤ b := by omega) (hb2 : 12 * b' + n ≤ 12 * b := by exact Nat.le_of_ble_eq_true rfl) : ab_R k b M pc ls (.int x :: st) h post := by
  intro B ex eA dA D p l e R s m args below meth c cm sm Q C hcm hsm hex H locs A cells slots hr hS hA h1 h2
  subst hx
  have tk := C.2.2.2.2.1
  have hsz := hr.2.1
  have hN : (nI n).toNatClampNeg = n := nI_clamp (by omega)
  have hbt : componentBytes (newarray.typeOf at_) ≤ 8 := by
    rcases ht with ⟨-, q⟩ | ⟨-, q⟩ | ⟨-, q⟩ | ⟨-, q⟩ <;> rw [q] <;> decide
  refine va_newaK C.1 C.2.1 (tk _ (List.mem_filter.mpr ⟨hac, rfl⟩)) rfl hd rfl (nI_pos (by omega)) hN (by
    have := Nat.mul_le_mul hn hbt
    omega) (by omega) (by omega) rfl fun H1 cA e1 z1 o1 hAr hNm => ?_
  have e8 : ab_vv B ex (.ref (5 + ab_n h)) = .ref H.size := by
    show ab_rf B ex (5 + ab_n h) = _
    rw [ab_rf_pos (by omega), hsz]
    unfold ab_sg
    rw [if_neg (by omega), show 5 + ab_n h - 5 = ab_n h by omega]
  have fin : ∀ xx : va_E, ab_cell B ex dA (ab_new h (100 + t, n)) (5 + ab_n h) = xx → va_at D vwCl (H.size, xx) H1 → W p l e R s m args below meth c H1 locs (cells + 1) (slots + n) Q (F0 m (pc + 2) A (.ref H.size :: st.map (ab_vv B ex))) := by
    intro xx hx hat
    obtain ⟨g1, g2⟩ := ab_new_rep hr hS hx hat z1 o1
    have kk := kk B ex eA dA D p l e R s m args below meth c cm sm Q C hcm hsm hex H1 locs A (cells + 1) (slots + n) g1 g2 hA (by omega) (by omega)
    rw [List.map_cons, e8] at kk
    exact kk
  have a1 : ab_i (ab_new h (100 + t, n)) (5 + ab_n h) = fun _ => 0 := ab_up_self _ _ _
  have a2 : ab_l (ab_new h (100 + t, n)) (5 + ab_n h) = fun _ => 0 := ab_up_self _ _ _
  have hs9 : ab_sh (ab_new h (100 + t, n)) (5 + ab_n h) = (100 + t, n) := ab_up_self _ _ _
  rcases ht with ⟨rfl, q⟩ | ⟨rfl, q⟩ | ⟨rfl, q⟩ | ⟨rfl, q⟩
  · rw [q] at e1 hNm
    have hcA : cA = dA 0 := Option.some.inj (hNm.symm.trans (C.2.2.2.2.2.1.1.2 0 _ rfl).2)
    refine fin _ (ab_cell_arr (t := 0) hs9 (Or.inl rfl)) ?_
    show H1[H.size]? = some (arrV (dA 0) n (fun j => .int (ab_i (ab_new h (100 + 0, n)) (5 + ab_n h) j)))
    rw [e1, hcA, a1]; rfl
  · rw [q] at e1 hNm
    have hcA : cA = dA 1 := Option.some.inj (hNm.symm.trans (C.2.2.2.2.2.1.1.2 1 _ rfl).2)
    refine fin _ (ab_cell_arl hs9) ?_
    show H1[H.size]? = some (arrV (dA 1) n (fun j => .long (ab_l (ab_new h (100 + 1, n)) (5 + ab_n h) j)))
    rw [e1, hcA, a2]; rfl
  · rw [q] at e1 hNm
    have hcA : cA = dA 2 := Option.some.inj (hNm.symm.trans (C.2.2.2.2.2.1.1.2 2 _ rfl).2)
    refine fin _ (ab_cell_arr (t := 2) hs9 (Or.inr (Or.inl rfl))) ?_
    show H1[H.size]? = some (arrV (dA 2) n (fun j => .int (ab_i (ab_new h (100 + 2, n)) (5 + ab_n h) j)))
    rw [e1, hcA, a1]; rfl
  · rw [q] at e1 hNm
    have hcA : cA = dA 3 := Option.some.inj (hNm.symm.trans (C.2.2.2.2.2.1.1.2 3 _ rfl).2)
    refine fin _ (ab_cell_arr (t := 3) hs9 (Or.inr (Or.inr rfl))) ?_
    show H1[H.size]? = some (arrV (dA 3) n (fun j => .int (ab_i (ab_new h (100 + 3, n)) (5 + ab_n h) j)))
    rw [e1, hcA, a1]; rfl
theorem ab_newq {i t n b' : Nat} {x : Int32} (hd : decode M.2.1 pc = .ok (.anewarray i, 3)) (hcl : Cond.classLink M.1.cls i (ab_C (ab_ac t)) ∈ lw_tbl) (hx : x = nI n) (kk : ab_R k b' M (pc + 3) ls (.ref (5 + ab_n h) :: st) (ab_new h (100 + t, n)) post) (ht : 4 ≤ t := by decide) (ht8 : t < 8 := by decide) (hn : n ≤ 1000 := by decide) (hb : b' + 1 ≤ b := by omega) (hb2 : 12 * b' + n ≤ 12 * b := by exact Nat.le_of_ble_eq_true rfl) : ab_R k b M pc ls (.int x :: st) h post := by
  intro B ex eA dA D p l e R s m args below meth c cm sm Q C hcm hsm hex H locs A cells slots hr hS hA h1 h2
  subst hx
  have tk := C.2.2.2.2.1
  have hsz := hr.2.1
  have hN : (nI n).toNatClampNeg = n := nI_clamp (by omega)
  have hao : va_AO (ab_C (ab_ac t)) s := by
    have q := C.2.2.2.2.2.1.2.2.1
    match t, ht, ht8 with
    | 4, _, _ => exact q.1
    | 5, _, _ => exact q.2.1
    | 6, _, _ => exact q.2.2.1
    | 7, _, _ => exact q.2.2.2
  refine W.anew C.1 C.2.1 C.2.2.2.1 (tk _ (List.mem_filter.mpr ⟨hcl, rfl⟩)) (va_AO.use hao) rfl hd rfl (nI_pos (by omega)) (by rw [hN]; omega) (by omega) (by rw [hN]; omega) fun cA kA comp f1 f2 f3 f4 => ?_
  rw [hN]
  obtain ⟨kA', comp', u1, u2, u3, u4⟩ := (C.2.2.2.2.2.1.1.2 t _ (ab_ts_q ht ht8)).2
  have hcA : cA = dA t := Option.some.inj (f1.symm.trans u4)
  subst hcA
  have e8 : ab_vv B ex (.ref (5 + ab_n h)) = .ref H.size := by
    show ab_rf B ex (5 + ab_n h) = _
    rw [ab_rf_pos (by omega), hsz]
    unfold ab_sg
    rw [if_neg (by omega), show 5 + ab_n h - 5 = ab_n h by omega]
  have hs9 : ab_sh (ab_new h (100 + t, n)) (5 + ab_n h) = (100 + t, n) := ab_up_self _ _ _
  have a3 : ab_r (ab_new h (100 + t, n)) (5 + ab_n h) = fun _ => 0 := ab_up_self _ _ _
  obtain ⟨H1, hH1⟩ : ∃ y, H.push { cls := dA t, slots := Array.replicate n .null, vm := .none } = y := ⟨_, rfl⟩
  rw [hH1]
  have e1 : H1[H.size]? = some (arrV (dA t) n (fun _ => .null)) := by rw [← hH1, Array.getElem?_push_size, ← arrV_new]
  have o1 : ∀ q : Nat, q < H.size → H1[q]? = H[q]? := fun q hq => by rw [← hH1, Array.getElem?_push, if_neg (Nat.ne_of_lt hq)]
  have z1 : H1.size = H.size + 1 := by rw [← hH1]; simp
  obtain ⟨g1, g2⟩ := ab_new_rep hr hS (ab_cell_arq hs9 ht) (H1 := H1) (by
    show H1[H.size]? = some (arrV (dA t) n (fun j => va_rf (if ab_r (ab_new h (100 + t, n)) (5 + ab_n h) j = 0 then none else some (ab_sg B ex (ab_r (ab_new h (100 + t, n)) (5 + ab_n h) j)))))
    rw [e1, a3]
    rfl) z1 o1
  have kk := kk B ex eA dA D p l e R s m args below meth c cm sm Q C hcm hsm hex H1 locs A (cells + 1) (slots + n) g1 g2 hA (by omega) (by omega)
  rw [List.map_cons, e8] at kk
  exact kk
theorem ab_objInit {i a : Nat} (hd : decode M.2.1 pc = .ok (.invokespecial i, 3)) (hl : Cond.methodLink M.1.cls i ⟨"java/lang/Object", "<init>", "()V"⟩ ∈ lw_tbl) (ha : a ≠ 0) (kk : ab_R k b M (pc + 3) ls st h post) (hk : 1 ≤ k := by omega) (hW : (st.map fun v => v.category).sum ≤ 8 := by exact Nat.le_of_ble_eq_true rfl) : ab_R k b M pc ls (.ref a :: st) h post := by
  intro B ex eA dA D p l e R s m args below meth c cm sm Q C hcm hsm hex H locs A cells slots hr hS hA h1 h2
  have tk := C.2.2.2.2.1
  have e9 : ab_vv B ex (.ref a) = .ref (ab_sg B ex a) := ab_rf_pos ha
  rw [List.map_cons, e9]
  have q1 := C.2.2.2.2.2.2.2.1
  have q2 := C.2.2.2.2.2.2.2.2.1
  refine W.objInit (idx := i) C.1 C.2.1 C.2.2.2.1 (tk _ (List.mem_filter.mpr ⟨hl, rfl⟩)) (tk _ (List.mem_filter.mpr ⟨ab_oi_inst, rfl⟩)) (tk _ (List.mem_filter.mpr ⟨ab_oi_code, rfl⟩)) rfl (hA.1.trans C.2.2.1.symm) rfl hd (Nat.le_trans hk q1) (by
    show 2 * 0 + ((st.map (ab_vv B ex)).map fun v => v.category).sum + 12 ≤ R.locals
    rw [ab_cat_sum]; omega) ?_
  exact kk B ex eA dA D p l e R s m args below meth c cm sm Q C hcm hsm hex H locs A cells slots hr hS hA h1 h2
end ABN
end
section
/-! ===== arrays outside, natives, copies ===== -/
theorem st_f2raw : Cond.static ⟨"java/lang/Float", "floatToRawIntBits", "(F)I"⟩ ∈ lw_tbl := List.mem_of_getElem? (i := 1342) (by decide +kernel)
theorem st_d2raw : Cond.static ⟨"java/lang/Double", "doubleToRawLongBits", "(D)J"⟩ ∈ lw_tbl := List.mem_of_getElem? (i := 1361) (by decide +kernel)
theorem st_acopy : Cond.static ⟨"java/lang/System", "arraycopy", "(Ljava/lang/Object;ILjava/lang/Object;II)V"⟩ ∈ lw_tbl := List.mem_of_getElem? (i := 641) (by decide +kernel)
section ABX
variable {k b : Nat} {M : ab_MK} {pc : Nat} {ls : List (Option Value)} {st : List Value} {h : ab_H} {post : Value → ab_H → Prop}
theorem ab_gets {i j : Nat} (hd : decode M.2.1 pc = .ok (.getstatic i, 3)) (hl : Cond.fieldLink M.1.cls i RX10 (ab_sn j) "[I" ∈ lw_tbl) (kk : ab_R k b M (pc + 3) ls (.ref j :: st) h post) (hj : 2 ≤ j := by decide) (hj5 : j < 5 := by decide) : ab_R k b M pc ls st h post := by
  intro B ex eA dA D p l e R s m args below meth c cm sm Q C hcm hsm hex H locs A cells slots hr hS hA h1 h2
  have tk := C.2.2.2.2.1
  have kk := kk B ex eA dA D p l e R s m args below meth c cm sm Q C hcm hsm hex H locs A cells slots hr hS hA h1 h2
  have e8 : ab_vv B ex (.ref j) = .ref (ex j) := by
    show ab_rf B ex j = _
    rw [ab_rf_pos (by omega)]
    unfold ab_sg
    rw [if_pos hj5]
  rw [List.map_cons, e8] at kk
  exact va_gets C.1 C.2.1 (C.2.2.2.2.2.1.2.2.2 j hj hj5) hS C.2.2.2.1 (tk _ (List.mem_filter.mpr ⟨hl, rfl⟩)) (fun _ h9 => h9) hd kk
theorem ab_eald {a j : Nat} {x v : Int32} (hd : decode M.2.1 pc = .ok (.iaload, 1)) (hx : x = nI j) (hj : j < (ab_e h a).1) (hv : (ab_e h a).2 j = v) (kk : ab_R k b M (pc + 1) ls (.int v :: st) h post) (ha : 1 ≤ a := by decide) (ha5 : a < 5 := by decide) : ab_R k b M pc ls (.int x :: .ref a :: st) h post := by
  intro B ex eA dA D p l e R s m args below meth c cm sm Q C hcm hsm hex H locs A cells slots hr hS hA h1 h2
  subst hx hv
  obtain ⟨q1, q2, q3⟩ := hr.2.2.2 a ha ha5
  obtain ⟨g1, g2⟩ := ab_nI_in hj (by omega)
  have e8 : ab_vv B ex (.ref a) = .ref (ex a) := by
    show ab_rf B ex a = _
    rw [ab_rf_pos (by omega)]
    unfold ab_sg
    rw [if_pos ha5]
  rw [List.map_cons, List.map_cons, e8]
  exact W.iald (v := .int ((ab_e h a).2 j)) C.1 C.2.1 q3 (C.2.2.2.2.2.1.2.1 a ha ha5 _ _) (fun q => by cases q) (by show ¬ (_ ∨ (arrV _ _ _).slots.size ≤ _); rw [arrV_size]; exact g1) (by show (arrV _ _ _).slots[_]? = _; rw [g2, arrV_read _ _ hj]) rfl rfl hd (kk B ex eA dA D p l e R s m args below meth c cm sm Q C hcm hsm hex H locs A cells slots hr hS hA h1 h2)
theorem ab_elen {a : Nat} {v : Int32} (hd : decode M.2.1 pc = .ok (.arraylength, 1)) (hv : nI (ab_e h a).1 = v) (kk : ab_R k b M (pc + 1) ls (.int v :: st) h post) (ha : 1 ≤ a := by decide) (ha5 : a < 5 := by decide) : ab_R k b M pc ls (.ref a :: st) h post := by
  intro B ex eA dA D p l e R s m args below meth c cm sm Q C hcm hsm hex H locs A cells slots hr hS hA h1 h2
  subst hv
  obtain ⟨q1, q2, q3⟩ := hr.2.2.2 a ha ha5
  have e8 : ab_vv B ex (.ref a) = .ref (ex a) := by
    show ab_rf B ex a = _
    rw [ab_rf_pos (by omega)]
    unfold ab_sg
    rw [if_pos ha5]
  rw [List.map_cons, e8]
  exact W.alen C.1 C.2.1 q3 (C.2.2.2.2.2.1.2.1 a ha ha5 _ _) (by show (arrV _ _ _).slots.size.toInt32 = _; rw [arrV_size]; rfl) rfl rfl hd (kk B ex eA dA D p l e R s m args below meth c cm sm Q C hcm hsm hex H locs A cells slots hr hS hA h1 h2)
theorem ab_alen {a t n : Nat} {v : Int32} (hd : decode M.2.1 pc = .ok (.arraylength, 1)) (hs : ab_sh h a = (100 + t, n)) (hv : nI n = v) (kk : ab_R k b M (pc + 1) ls (.int v :: st) h post) (ht : t = 0 ∨ t = 2 ∨ t = 3 := by decide) : ab_R k b M pc ls (.ref a :: st) h post := by
  intro B ex eA dA D p l e R s m args below meth c cm sm Q C hcm hsm hex H locs A cells slots hr hS hA h1 h2
  subst hv
  have ha := hr.2.2.1 a (by rw [hs]; show 100 + t ≠ 0; omega)
  have e9 : ab_vv B ex (.ref a) = .ref (ab_sg B ex a) := ab_rf_pos (by omega)
  rw [List.map_cons, e9]
  have kk := kk B ex eA dA D p l e R s m args below meth c cm sm Q C hcm hsm hex H locs A cells slots hr hS hA h1 h2
  have hw := (ab_ws_at (B := B) (ex := ex) (dA := dA) ha.1 ha.2).trans (by rw [ab_cell_arr hs ht])
  rcases ht with rfl | rfl | rfl
  · exact va_alen C.1 C.2.1 C.2.2.2.2.2.1.1 hr.1 (a - 5) 0 hw rfl rfl hd kk
  · exact va_alen C.1 C.2.1 C.2.2.2.2.2.1.1 hr.1 (a - 5) 2 hw rfl rfl hd kk
  · exact va_alen C.1 C.2.1 C.2.2.2.2.2.1.1 hr.1 (a - 5) 3 hw rfl rfl hd kk
theorem ab_mabs {i : Nat} {x : Int64} (hd : decode M.2.1 pc = .ok (.invokestatic i, 3)) (hl : ab_ks M.1.cls i mJ9_abs_067f4) (kk : ab_R k b M (pc + 3) ls (.long (if 0 < x then x else -x) :: st) h post) (hk : 1 ≤ k := by omega) (hW : (st.map fun v => v.category).sum ≤ 8 := by exact Nat.le_of_ble_eq_true rfl) : ab_R k b M pc ls (.long x :: st) h post := by
  intro B ex eA dA D p l e R s m args below meth c cm sm Q C hcm hsm hex H locs A cells slots hr hS hA h1 h2
  have tk := C.2.2.2.2.1
  have q1 := C.2.2.2.2.2.2.2.1
  have q2 := C.2.2.2.2.2.2.2.2.1
  exact va_mabs_long (index := i) C.1 C.2.1 (C.2.2.1.trans hA.1.symm) C.2.2.2.1 (tk _ (List.mem_filter.mpr ⟨hl.1, rfl⟩)) (tk _ (List.mem_filter.mpr ⟨hl.2, rfl⟩)) (tk _ (List.mem_filter.mpr ⟨it_J9, rfl⟩)) (tk _ (List.mem_filter.mpr ⟨mk_J9_abs_067f4.1, rfl⟩)) (Nat.le_trans hk q1) (by rw [ab_cat_sum]; omega) (by omega) (by omega) hd (kk B ex eA dA D p l e R s m args below meth c cm sm Q C hcm hsm hex H locs A cells slots hr hS hA h1 h2)
theorem ab_f2raw {i : Nat} {x : UInt32} (hd : decode M.2.1 pc = .ok (.invokestatic i, 3)) (hl : Cond.methodLink M.1.cls i ⟨"java/lang/Float", "floatToRawIntBits", "(F)I"⟩ ∈ lw_tbl) (kk : ab_R k b M (pc + 3) ls (.int x.toInt32 :: st) h post) (hk : 1 ≤ k := by omega) (hW : (st.map fun v => v.category).sum ≤ 8 := by exact Nat.le_of_ble_eq_true rfl) : ab_R k b M pc ls (.float x :: st) h post := by
  intro B ex eA dA D p l e R s m args below meth c cm sm Q C hcm hsm hex H locs A cells slots hr hS hA h1 h2
  have tk := C.2.2.2.2.1
  have q1 := C.2.2.2.2.2.2.2.1
  have q2 := C.2.2.2.2.2.2.2.2.1
  exact vn_f2i (index := i) C.1 C.2.1 (C.2.2.1.trans hA.1.symm) C.2.2.2.1 (tk _ (List.mem_filter.mpr ⟨hl, rfl⟩)) (tk _ (List.mem_filter.mpr ⟨nt_floatToRawIntBits, rfl⟩)) (tk _ (List.mem_filter.mpr ⟨st_f2raw, rfl⟩)) (tk _ (List.mem_filter.mpr ⟨it_Jxf58ca, rfl⟩)) (Nat.le_trans hk q1) (by rw [ab_cat_sum]; omega) hd (kk B ex eA dA D p l e R s m args below meth c cm sm Q C hcm hsm hex H locs A cells slots hr hS hA h1 h2)
theorem ab_d2raw {i : Nat} {x : UInt64} (hd : decode M.2.1 pc = .ok (.invokestatic i, 3)) (hl : Cond.methodLink M.1.cls i ⟨"java/lang/Double", "doubleToRawLongBits", "(D)J"⟩ ∈ lw_tbl) (kk : ab_R k b M (pc + 3) ls (.long x.toInt64 :: st) h post) (hk : 1 ≤ k := by omega) (hW : (st.map fun v => v.category).sum ≤ 8 := by exact Nat.le_of_ble_eq_true rfl) : ab_R k b M pc ls (.double x :: st) h post := by
  intro B ex eA dA D p l e R s m args below meth c cm sm Q C hcm hsm hex H locs A cells slots hr hS hA h1 h2
  have tk := C.2.2.2.2.1
  have q1 := C.2.2.2.2.2.2.2.1
  have q2 := C.2.2.2.2.2.2.2.2.1
  exact vn_d2l (index := i) C.1 C.2.1 (C.2.2.1.trans hA.1.symm) C.2.2.2.1 (tk _ (List.mem_filter.mpr ⟨hl, rfl⟩)) (tk _ (List.mem_filter.mpr ⟨nt_doubleToRawLongBits, rfl⟩)) (tk _ (List.mem_filter.mpr ⟨st_d2raw, rfl⟩)) (tk _ (List.mem_filter.mpr ⟨it_Jxe99ae, rfl⟩)) (Nat.le_trans hk q1) (by rw [ab_cat_sum]; omega) hd (kk B ex eA dA D p l e R s m args below meth c cm sm Q C hcm hsm hex H locs A cells slots hr hS hA h1 h2)
/-- an entry for a method of java/lang/Float that no native runs -/
theorem ab_ofWF {l : Launch} {y : MethodName} {ws ws' : List Cond} {rm : Room} {Pc : Array Value → State → Prop} {Qc : Array Value → State → Outcome → State → Prop} {mc ms : Nat} {free : Addr → Prop} {cc : ByteArray} {maxL : Nat} {ret : Option FieldType}
    (hy : plainFor y = true) (hw : ws = Cond.code y cc maxL ret :: ws')
    (body : ∀ p e s m args below meth c s₁, BodyLoose p l y (headSpec ws rm) cc maxL ret e s m args below meth c s₁ → c.maxLocals = maxL → Pc args s →
      W p l e (headSpec ws rm).room s m args below meth c s.heap [] 0 0 (MQ below Qc args s mc ms free) (entryFrame m args maxL)) : Met l y ws rm Pc Qc mc ms free := by
  refine MetFree.of_bodySF (code := cc) (maxLocals := maxL) (ret := ret) hy ?_ ?_
  · intro args s m h hn
    obtain ⟨meth, c, h1, h2, h3, h4, h5, h6, -, -⟩ := Cond.code_spec hn (atoms_spec (ws := ws) h _ (by rw [hw]; exact List.mem_cons_self))
    exact ⟨meth, c, h1, h2, h3, h4, h5, h6⟩
  · intro p e s m args below meth c s₁ Bd hml hP _
    have hh0 : s₁.heap = s.heap := by rw [Bd.state]; rfl
    obtain ⟨t, a1, o, b1, b2, b3⟩ := body p e s m args below meth c s₁ Bd hml hP s₁ hh0 (Stand.of_body Bd)
    exact ⟨t, o, a1, b1, b2, ⟨b3.1, b3.2⟩⟩
theorem ab_enterF {as : List Value} (kk : ab_R k b M 0 (ab_ent as M.2.2.1) [] h post) (hpl : plainFor M.1 = true) (hn : (ab_sl' as).length ≤ M.2.2.1 := by exact Nat.le_of_ble_eq_true rfl) : ab_M k b M as h post := by
  intro B ex eA dA D l
  refine ab_ofWF (cc := M.2.1) (maxL := M.2.2.1) (ret := M.2.2.2) hpl rfl ?_
  intro p e s m args below meth c s₁ Bd hml hv
  obtain ⟨rfl, hrep, hK⟩ := hv
  rw [lg_entry_eq]
  have hts := atoms_spec (ws := ab_wd M) Bd.pre
  exact kk B ex eA dA D p l e _ s m _ below meth c b (12 * b) _ ⟨Bd.exec, Bd.bytes, hml, findClass_of_methodNamed Bd.named, fun w hw => hts w (List.mem_cons_of_mem _ hw), hK, (name_of_methodNamed Bd.named Bd.method).1, Nat.le_refl _, Nat.le_refl _, by rw [hrep.2.1]; exact Nat.le_add_right _ _⟩ (Nat.le_refl _) (Nat.le_refl _)
    (ab_exit_of Bd.exec Bd.bytes Bd.returns Bd.notSynchronized) s.heap [] _ 0 0 hrep va_S.rf (ab_ent_loc hn) (by omega) (by omega)
theorem ab_plF1 : plainFor yJxf58ca_isNaN_12338 = true := by decide +kernel
theorem ab_plF2 : plainFor yJxf58ca_floatToIntBits_5c35a = true := by decide +kernel
end ABX
end
section
section ABY
variable {k b : Nat} {M : ab_MK} {pc : Nat} {ls : List (Option Value)} {st : List Value} {h : ab_H} {post : Value → ab_H → Prop}
theorem ab_copyI {i a0 a1 N : Nat} {sp dp n : Int32} (hd : decode M.2.1 pc = .ok (.invokestatic i, 3)) (hl : Cond.methodLink M.1.cls i arraycopyName ∈ lw_tbl) (hs0 : ab_sh h a0 = (100, N)) (hs1 : ab_sh h a1 = (100, N)) (hsp : sp = nI 0) (hdp : dp = nI 0) (hnn : n = nI N) (kk : ab_R k b M (pc + 3) ls st (ab_sI h a1 (ab_i h a0)) post) (hN : N ≤ 1000 := by decide) (hk : 1 ≤ k := by omega) (hW : (st.map fun v => v.category).sum ≤ 8 := by exact Nat.le_of_ble_eq_true rfl) : ab_R k b M pc ls (.int n :: .int dp :: .ref a1 :: .int sp :: .ref a0 :: st) h post := by
  intro B ex eA dA D p l e R s m args below meth c cm sm Q C hcm hsm hex H locs A cells slots hr hS hA h1 h2
  subst hsp hdp hnn
  have tk := C.2.2.2.2.1
  have q1 := C.2.2.2.2.2.2.2.1
  have q2 := C.2.2.2.2.2.2.2.2.1
  have ha0 := hr.2.2.1 a0 (by rw [hs0]; exact Nat.noConfusion)
  have ha1 := hr.2.2.1 a1 (by rw [hs1]; exact Nat.noConfusion)
  have e9 : ab_vv B ex (.ref a0) = .ref (ab_sg B ex a0) := ab_rf_pos (by omega)
  have e8 : ab_vv B ex (.ref a1) = .ref (ab_sg B ex a1) := ab_rf_pos (by omega)
  have hm0 : (.int (nI N) :: .int (nI 0) :: .ref a1 :: .int (nI 0) :: .ref a0 :: st : List Value).map (ab_vv B ex) = .int (nI N) :: .int (nI 0) :: .ref (ab_sg B ex a1) :: .int (nI 0) :: .ref (ab_sg B ex a0) :: st.map (ab_vv B ex) := by
    simp only [List.map_cons, e8, e9]; rfl
  rw [hm0]
  have c0 := ab_cell_arr (B := B) (ex := ex) (dA := dA) (t := 0) hs0 (Or.inl rfl)
  have c1 := ab_cell_arr (B := B) (ex := ex) (dA := dA) (t := 0) hs1 (Or.inl rfl)
  have hc0 : H[ab_sg B ex a0]? = some (arrV (dA 0) N (fun j => .int (ab_i h a0 j))) := hr.1 (a0 - 5) (ab_sg B ex a0, .inl (dA 0, N, .inl (ab_i h a0))) ((ab_ws_at ha0.1 ha0.2).trans (by rw [c0]))
  have hc1 : H[ab_sg B ex a1]? = some (arrV (dA 0) N (fun j => .int (ab_i h a1 j))) := hr.1 (a1 - 5) (ab_sg B ex a1, .inl (dA 0, N, .inl (ab_i h a1))) ((ab_ws_at ha1.1 ha1.2).trans (by rw [c1]))
  have hty := C.2.2.2.2.2.1.1.2 0 _ rfl
  obtain ⟨-, k0, hk0, cm0, hkk0⟩ := hty.1 N (fun j => .int (ab_i h a0 j))
  obtain ⟨-, k1, hk1, cm1, hkk1⟩ := hty.1 N (fun j => .int (ab_i h a1 j))
  have z0 : ¬ nI 0 < 0 := nI_pos (by omega)
  have zN : ¬ nI N < 0 := nI_pos (by omega)
  have i0 : (nI 0).toInt = ((0 : Nat) : Int) := nI_toInt (by omega)
  have iN : (nI N).toInt = (N : Int) := nI_toInt (by omega)
  have n0 : (nI 0).toNatClampNeg = 0 := nI_clamp (by omega)
  have nN : (nI N).toNatClampNeg = N := nI_clamp (by omega)
  intro T hT X
  obtain ⟨vm', X', step⟩ := X.arraycopy C.1 C.2.2.2.1 (tk _ (List.mem_filter.mpr ⟨hl, rfl⟩)) (tk _ (List.mem_filter.mpr ⟨nt_arraycopy, rfl⟩)) (tk _ (List.mem_filter.mpr ⟨st_acopy, rfl⟩)) (tk _ (List.mem_filter.mpr ⟨it_J10, rfl⟩)) (src := ab_sg B ex a0) (dst := ab_sg B ex a1) (cs := arrV (dA 0) N (fun j => .int (ab_i h a0 j))) (cd := arrV (dA 0) N (fun j => .int (ab_i h a1 j))) (srcPos := nI 0) (destPos := nI 0) (n := nI N) (by rw [hT]; exact hc0) (by rw [hT]; exact hc1)
    (fun _ h => by cases h) (fun _ h => by cases h) (fun h => by cases h) (fun h => by cases h) hk0 hk1 hkk0 hkk1 (by simp [refKind]) z0 z0 zN
    (by rw [i0, iN, arrV_size]; omega) (by rw [i0, iN, arrV_size]; omega)
    (fun vm₁ _ i hi => by
      rw [nN] at hi
      rw [n0, Nat.zero_add]
      have e : (arrV (dA 0) N (fun j => .int (ab_i h a0 j))).slots.getD i .null = .int (ab_i h a0 i) := by
        rw [Array.getD_eq_getD_getElem?, arrV_read _ _ hi]
        rfl
      exact ⟨by rw [e]; rfl, by rw [e]; exact trivial⟩)
    (g := F0 m pc A (.int (nI N) :: .int (nI 0) :: .ref (ab_sg B ex a1) :: .int (nI 0) :: .ref (ab_sg B ex a0) :: st.map (ab_vv B ex))) rfl (hA.1.trans C.2.2.1.symm) (rest := st.map (ab_vv B ex)) rfl (by rw [C.2.1]; exact hd) (Nat.le_trans hk q1) (by
      have hw : nativeFrameWords "java/lang/System" "arraycopy" 5 ≤ 20 := by decide
      show 2 * 0 + ((st.map (ab_vv B ex)).map fun v => v.category).sum + _ ≤ _
      rw [ab_cat_sum]; omega)
  have e1 : copied (arrV (dA 0) N (fun j => .int (ab_i h a0 j))) (arrV (dA 0) N (fun j => .int (ab_i h a1 j))) (nI 0) (nI 0) (nI N) = arrV (dA 0) N (fun j => .int (ab_i h a0 j)) := by
    refine (va_copied (fun z => .int z) (dA 0) (dA 0) (sp := (nI 0).toNatClampNeg) (dp := (nI 0).toNatClampNeg) (n := (nI N).toNatClampNeg) (ab_i h a0) (ab_i h a1) (by rw [n0, nN]; omega)).trans ?_
    apply ab_arrV_congr
    intro j hj
    simp only [va_cpy, n0, nN]
    rw [if_pos (by omega)]
    congr 2
    omega
  rw [e1] at X' step
  have hl : ab_sg B ex a1 < H.size := (Array.getElem?_eq_some_iff.mp hc1).1
  have hge : B ≤ ab_sg B ex a1 := by unfold ab_sg; rw [if_neg (by omega)]; exact Nat.le_add_right _ _
  have hheap : ((T.setVm vm').setCell (ab_sg B ex a1) (arrV (dA 0) N (fun j => .int (ab_i h a0 j)))).heap = H.setIfInBounds (ab_sg B ex a1) (arrV (dA 0) N (fun j => .int (ab_i h a0 j))) := by rw [← hT]; rfl
  have oq : ∀ q : Nat, q ≠ ab_sg B ex a1 → (H.setIfInBounds (ab_sg B ex a1) (arrV (dA 0) N (fun j => .int (ab_i h a0 j))))[q]? = H[q]? := fun q hq => by simp [Array.getElem?_setIfInBounds, Ne.symm hq]
  have es : ab_i (ab_sI h a1 (ab_i h a0)) a1 = ab_i h a0 := ab_up_self _ _ _
  have e2 : ab_cell B ex dA (ab_sI h a1 (ab_i h a0)) a1 = .inl (dA 0, N, .inl (ab_i h a0)) := by
    refine Eq.trans (ab_cell_arr (B := B) (ex := ex) (dA := dA) (t := 0) (show ab_sh (ab_sI h a1 (ab_i h a0)) a1 = (100, N) from hs1) (Or.inl rfl)) ?_
    rw [es]
  obtain ⟨r1, r2⟩ := ab_ast (h' := ab_sI h a1 (ab_i h a0)) (j := 0) hr ha1 rfl rfl rfl e2 (fun b hb => ab_cell_sI_ne b hb) hS (H1 := H.setIfInBounds (ab_sg B ex a1) (arrV (dA 0) N (fun j => .int (ab_i h a0 j)))) (by
    show (H.setIfInBounds _ _)[ab_sg B ex a1]? = some (arrV (dA 0) N (fun j => .int (ab_i h a0 j)))
    simp [Array.getElem?_setIfInBounds, hl]) (by simp) oq
  obtain ⟨t, a1', b1⟩ := kk B ex eA dA D p l e R s m args below meth c cm sm Q C hcm hsm hex _ _ A cells slots r1 ⟨r2.1, r2.2.1, fun q hq => by
      rcases List.mem_append.mp hq with h | h
      · exact hS.2.2 q h
      · obtain ⟨z, -, hz⟩ := List.mem_map.mp h
        rw [← hz]
        exact hge⟩ hA h1 h2 _ hheap X'
  exact ⟨t, step t a1', b1⟩
theorem ab_copyL {i a0 a1 N : Nat} {sp dp n : Int32} (hd : decode M.2.1 pc = .ok (.invokestatic i, 3)) (hl : Cond.methodLink M.1.cls i arraycopyName ∈ lw_tbl) (hs0 : ab_sh h a0 = (101, N)) (hs1 : ab_sh h a1 = (101, N)) (hsp : sp = nI 0) (hdp : dp = nI 0) (hnn : n = nI N) (kk : ab_R k b M (pc + 3) ls st (ab_sL h a1 (ab_l h a0)) post) (hN : N ≤ 1000 := by decide) (hk : 1 ≤ k := by omega) (hW : (st.map fun v => v.category).sum ≤ 8 := by exact Nat.le_of_ble_eq_true rfl) : ab_R k b M pc ls (.int n :: .int dp :: .ref a1 :: .int sp :: .ref a0 :: st) h post := by
  intro B ex eA dA D p l e R s m args below meth c cm sm Q C hcm hsm hex H locs A cells slots hr hS hA h1 h2
  subst hsp hdp hnn
  have tk := C.2.2.2.2.1
  have q1 := C.2.2.2.2.2.2.2.1
  have q2 := C.2.2.2.2.2.2.2.2.1
  have ha0 := hr.2.2.1 a0 (by rw [hs0]; exact Nat.noConfusion)
  have ha1 := hr.2.2.1 a1 (by rw [hs1]; exact Nat.noConfusion)
  have e9 : ab_vv B ex (.ref a0) = .ref (ab_sg B ex a0) := ab_rf_pos (by omega)
  have e8 : ab_vv B ex (.ref a1) = .ref (ab_sg B ex a1) := ab_rf_pos (by omega)
  have hm0 : (.int (nI N) :: .int (nI 0) :: .ref a1 :: .int (nI 0) :: .ref a0 :: st : List Value).map (ab_vv B ex) = .int (nI N) :: .int (nI 0) :: .ref (ab_sg B ex a1) :: .int (nI 0) :: .ref (ab_sg B ex a0) :: st.map (ab_vv B ex) := by
    simp only [List.map_cons, e8, e9]; rfl
  rw [hm0]
  have c0 := ab_cell_arl (B := B) (ex := ex) (dA := dA) hs0
  have c1 := ab_cell_arl (B := B) (ex := ex) (dA := dA) hs1
  have hc0 : H[ab_sg B ex a0]? = some (arrV (dA 1) N (fun j => .long (ab_l h a0 j))) := hr.1 (a0 - 5) (ab_sg B ex a0, .inl (dA 1, N, .inr (.inl (ab_l h a0)))) ((ab_ws_at ha0.1 ha0.2).trans (by rw [c0]))
  have hc1 : H[ab_sg B ex a1]? = some (arrV (dA 1) N (fun j => .long (ab_l h a1 j))) := hr.1 (a1 - 5) (ab_sg B ex a1, .inl (dA 1, N, .inr (.inl (ab_l h a1)))) ((ab_ws_at ha1.1 ha1.2).trans (by rw [c1]))
  have hty := C.2.2.2.2.2.1.1.2 1 _ rfl
  obtain ⟨-, k0, hk0, cm0, hkk0⟩ := hty.1 N (fun j => .long (ab_l h a0 j))
  obtain ⟨-, k1, hk1, cm1, hkk1⟩ := hty.1 N (fun j => .long (ab_l h a1 j))
  have z0 : ¬ nI 0 < 0 := nI_pos (by omega)
  have zN : ¬ nI N < 0 := nI_pos (by omega)
  have i0 : (nI 0).toInt = ((0 : Nat) : Int) := nI_toInt (by omega)
  have iN : (nI N).toInt = (N : Int) := nI_toInt (by omega)
  have n0 : (nI 0).toNatClampNeg = 0 := nI_clamp (by omega)
  have nN : (nI N).toNatClampNeg = N := nI_clamp (by omega)
  intro T hT X
  obtain ⟨vm', X', step⟩ := X.arraycopy C.1 C.2.2.2.1 (tk _ (List.mem_filter.mpr ⟨hl, rfl⟩)) (tk _ (List.mem_filter.mpr ⟨nt_arraycopy, rfl⟩)) (tk _ (List.mem_filter.mpr ⟨st_acopy, rfl⟩)) (tk _ (List.mem_filter.mpr ⟨it_J10, rfl⟩)) (src := ab_sg B ex a0) (dst := ab_sg B ex a1) (cs := arrV (dA 1) N (fun j => .long (ab_l h a0 j))) (cd := arrV (dA 1) N (fun j => .long (ab_l h a1 j))) (srcPos := nI 0) (destPos := nI 0) (n := nI N) (by rw [hT]; exact hc0) (by rw [hT]; exact hc1)
    (fun _ h => by cases h) (fun _ h => by cases h) (fun h => by cases h) (fun h => by cases h) hk0 hk1 hkk0 hkk1 (by simp [refKind]) z0 z0 zN
    (by rw [i0, iN, arrV_size]; omega) (by rw [i0, iN, arrV_size]; omega)
    (fun vm₁ _ i hi => by
      rw [nN] at hi
      rw [n0, Nat.zero_add]
      have e : (arrV (dA 1) N (fun j => .long (ab_l h a0 j))).slots.getD i .null = .long (ab_l h a0 i) := by
        rw [Array.getD_eq_getD_getElem?, arrV_read _ _ hi]
        rfl
      exact ⟨by rw [e]; rfl, by rw [e]; exact trivial⟩)
    (g := F0 m pc A (.int (nI N) :: .int (nI 0) :: .ref (ab_sg B ex a1) :: .int (nI 0) :: .ref (ab_sg B ex a0) :: st.map (ab_vv B ex))) rfl (hA.1.trans C.2.2.1.symm) (rest := st.map (ab_vv B ex)) rfl (by rw [C.2.1]; exact hd) (Nat.le_trans hk q1) (by
      have hw : nativeFrameWords "java/lang/System" "arraycopy" 5 ≤ 20 := by decide
      show 2 * 0 + ((st.map (ab_vv B ex)).map fun v => v.category).sum + _ ≤ _
      rw [ab_cat_sum]; omega)
  have e1 : copied (arrV (dA 1) N (fun j => .long (ab_l h a0 j))) (arrV (dA 1) N (fun j => .long (ab_l h a1 j))) (nI 0) (nI 0) (nI N) = arrV (dA 1) N (fun j => .long (ab_l h a0 j)) := by
    refine (va_copied (fun z => .long z) (dA 1) (dA 1) (sp := (nI 0).toNatClampNeg) (dp := (nI 0).toNatClampNeg) (n := (nI N).toNatClampNeg) (ab_l h a0) (ab_l h a1) (by rw [n0, nN]; omega)).trans ?_
    apply ab_arrV_congr
    intro j hj
    simp only [va_cpy, n0, nN]
    rw [if_pos (by omega)]
    congr 2
    omega
  rw [e1] at X' step
  have hl : ab_sg B ex a1 < H.size := (Array.getElem?_eq_some_iff.mp hc1).1
  have hge : B ≤ ab_sg B ex a1 := by unfold ab_sg; rw [if_neg (by omega)]; exact Nat.le_add_right _ _
  have hheap : ((T.setVm vm').setCell (ab_sg B ex a1) (arrV (dA 1) N (fun j => .long (ab_l h a0 j)))).heap = H.setIfInBounds (ab_sg B ex a1) (arrV (dA 1) N (fun j => .long (ab_l h a0 j))) := by rw [← hT]; rfl
  have oq : ∀ q : Nat, q ≠ ab_sg B ex a1 → (H.setIfInBounds (ab_sg B ex a1) (arrV (dA 1) N (fun j => .long (ab_l h a0 j))))[q]? = H[q]? := fun q hq => by simp [Array.getElem?_setIfInBounds, Ne.symm hq]
  have es : ab_l (ab_sL h a1 (ab_l h a0)) a1 = ab_l h a0 := ab_up_self _ _ _
  have e2 : ab_cell B ex dA (ab_sL h a1 (ab_l h a0)) a1 = .inl (dA 1, N, .inr (.inl (ab_l h a0))) := by
    refine Eq.trans (ab_cell_arl (B := B) (ex := ex) (dA := dA) (show ab_sh (ab_sL h a1 (ab_l h a0)) a1 = (101, N) from hs1)) ?_
    rw [es]
  obtain ⟨r1, r2⟩ := ab_ast (h' := ab_sL h a1 (ab_l h a0)) (j := 0) hr ha1 rfl rfl rfl e2 (fun b hb => ab_cell_sL_ne b hb) hS (H1 := H.setIfInBounds (ab_sg B ex a1) (arrV (dA 1) N (fun j => .long (ab_l h a0 j)))) (by
    show (H.setIfInBounds _ _)[ab_sg B ex a1]? = some (arrV (dA 1) N (fun j => .long (ab_l h a0 j)))
    simp [Array.getElem?_setIfInBounds, hl]) (by simp) oq
  obtain ⟨t, a1', b1⟩ := kk B ex eA dA D p l e R s m args below meth c cm sm Q C hcm hsm hex _ _ A cells slots r1 ⟨r2.1, r2.2.1, fun q hq => by
      rcases List.mem_append.mp hq with h | h
      · exact hS.2.2 q h
      · obtain ⟨z, -, hz⟩ := List.mem_map.mp h
        rw [← hz]
        exact hge⟩ hA h1 h2 _ hheap X'
  exact ⟨t, step t a1', b1⟩
end ABY
end
section
theorem dX0_init_0 : decode cX0_init 0 = .ok (.aload_n 0, 1) := by decide +kernel
theorem dX0_init_1 : decode cX0_init 1 = .ok (.invokespecial 5, 3) := by decide +kernel
theorem dX0_init_4 : decode cX0_init 4 = .ok (.aload_n 0, 1) := by decide +kernel
theorem dX0_init_5 : decode cX0_init 5 = .ok (.sipush 256, 3) := by decide +kernel
theorem dX0_init_8 : decode cX0_init 8 = .ok (.newarray .int, 2) := by decide +kernel
theorem dX0_init_10 : decode cX0_init 10 = .ok (.putfield 11, 3) := by decide +kernel
theorem dX0_init_13 : decode cX0_init 13 = .ok (.aload_n 0, 1) := by decide +kernel
theorem dX0_init_14 : decode cX0_init 14 = .ok (.bipush 85, 2) := by decide +kernel
theorem dX0_init_16 : decode cX0_init 16 = .ok (.newarray .int, 2) := by decide +kernel
theorem dX0_init_18 : decode cX0_init 18 = .ok (.putfield 15, 3) := by decide +kernel
theorem dX0_init_21 : decode cX0_init 21 = .ok (.aload_n 0, 1) := by decide +kernel
theorem dX0_init_22 : decode cX0_init 22 = .ok (.bipush 85, 2) := by decide +kernel
theorem dX0_init_24 : decode cX0_init 24 = .ok (.newarray .int, 2) := by decide +kernel
theorem dX0_init_26 : decode cX0_init 26 = .ok (.putfield 18, 3) := by decide +kernel
theorem dX0_init_29 : decode cX0_init 29 = .ok (.aload_n 0, 1) := by decide +kernel
theorem dX0_init_30 : decode cX0_init 30 = .ok (.bipush 85, 2) := by decide +kernel
theorem dX0_init_32 : decode cX0_init 32 = .ok (.newarray .int, 2) := by decide +kernel
theorem dX0_init_34 : decode cX0_init 34 = .ok (.putfield 21, 3) := by decide +kernel
theorem dX0_init_37 : decode cX0_init 37 = .ok (.aload_n 0, 1) := by decide +kernel
theorem dX0_init_38 : decode cX0_init 38 = .ok (.bipush 85, 2) := by decide +kernel
theorem dX0_init_40 : decode cX0_init 40 = .ok (.newarray .int, 2) := by decide +kernel
theorem dX0_init_42 : decode cX0_init 42 = .ok (.putfield 24, 3) := by decide +kernel
theorem dX0_init_45 : decode cX0_init 45 = .ok (.aload_n 0, 1) := by decide +kernel
theorem dX0_init_46 : decode cX0_init 46 = .ok (.bipush 85, 2) := by decide +kernel
theorem dX0_init_48 : decode cX0_init 48 = .ok (.newarray .boolean, 2) := by decide +kernel
theorem dX0_init_50 : decode cX0_init 50 = .ok (.putfield 27, 3) := by decide +kernel
theorem dX0_init_53 : decode cX0_init 53 = .ok (.return_, 1) := by decide +kernel
theorem dX0_isCell_0 : decode cX0_isCell 0 = .ok (.iconst 1, 1) := by decide +kernel
theorem dX0_isCell_1 : decode cX0_isCell 1 = .ok (.iload_n 0, 1) := by decide +kernel
theorem dX0_isCell_2 : decode cX0_isCell 2 = .ok (.ishl, 1) := by decide +kernel
theorem dX0_isCell_3 : decode cX0_isCell 3 = .ok (.istore_n 3, 1) := by decide +kernel
theorem dX0_isCell_4 : decode cX0_isCell 4 = .ok (.iload_n 1, 1) := by decide +kernel
theorem dX0_isCell_5 : decode cX0_isCell 5 = .ok (.ifCond .lt 21, 3) := by decide +kernel
theorem dX0_isCell_8 : decode cX0_isCell 8 = .ok (.iload_n 1, 1) := by decide +kernel
theorem dX0_isCell_9 : decode cX0_isCell 9 = .ok (.iload_n 3, 1) := by decide +kernel
theorem dX0_isCell_10 : decode cX0_isCell 10 = .ok (.if_icmp .ge 16, 3) := by decide +kernel
theorem dX0_isCell_13 : decode cX0_isCell 13 = .ok (.iload_n 2, 1) := by decide +kernel
theorem dX0_isCell_14 : decode cX0_isCell 14 = .ok (.ifCond .lt 12, 3) := by decide +kernel
theorem dX0_isCell_17 : decode cX0_isCell 17 = .ok (.iload_n 2, 1) := by decide +kernel
theorem dX0_isCell_18 : decode cX0_isCell 18 = .ok (.iload_n 3, 1) := by decide +kernel
theorem dX0_isCell_19 : decode cX0_isCell 19 = .ok (.if_icmp .ge 7, 3) := by decide +kernel
theorem dX0_isCell_22 : decode cX0_isCell 22 = .ok (.iconst 1, 1) := by decide +kernel
theorem dX0_isCell_23 : decode cX0_isCell 23 = .ok (.goto 4, 3) := by decide +kernel
theorem dX0_isCell_26 : decode cX0_isCell 26 = .ok (.iconst 0, 1) := by decide +kernel
theorem dX0_isCell_27 : decode cX0_isCell 27 = .ok (.ireturn, 1) := by decide +kernel
theorem dX0_cutAnew_0 : decode cX0_cutAnew 0 = .ok (.aload_n 0, 1) := by decide +kernel
theorem dX0_cutAnew_1 : decode cX0_cutAnew 1 = .ok (.iload_n 1, 1) := by decide +kernel
theorem dX0_cutAnew_2 : decode cX0_cutAnew 2 = .ok (.putfield 31, 3) := by decide +kernel
theorem dX0_cutAnew_5 : decode cX0_cutAnew 5 = .ok (.aload_n 0, 1) := by decide +kernel
theorem dX0_cutAnew_6 : decode cX0_cutAnew 6 = .ok (.iconst 1, 1) := by decide +kernel
theorem dX0_cutAnew_7 : decode cX0_cutAnew 7 = .ok (.iload_n 1, 1) := by decide +kernel
theorem dX0_cutAnew_8 : decode cX0_cutAnew 8 = .ok (.ishl, 1) := by decide +kernel
theorem dX0_cutAnew_9 : decode cX0_cutAnew 9 = .ok (.putfield 35, 3) := by decide +kernel
theorem dX0_cutAnew_12 : decode cX0_cutAnew 12 = .ok (.aload_n 0, 1) := by decide +kernel
theorem dX0_cutAnew_13 : decode cX0_cutAnew 13 = .ok (.iload_n 2, 1) := by decide +kernel
theorem dX0_cutAnew_14 : decode cX0_cutAnew 14 = .ok (.putfield 38, 3) := by decide +kernel
theorem dX0_cutAnew_17 : decode cX0_cutAnew 17 = .ok (.aload_n 0, 1) := by decide +kernel
theorem dX0_cutAnew_18 : decode cX0_cutAnew 18 = .ok (.iload_n 3, 1) := by decide +kernel
theorem dX0_cutAnew_19 : decode cX0_cutAnew 19 = .ok (.putfield 41, 3) := by decide +kernel
theorem dX0_cutAnew_22 : decode cX0_cutAnew 22 = .ok (.aload_n 0, 1) := by decide +kernel
theorem dX0_cutAnew_23 : decode cX0_cutAnew 23 = .ok (.iconst 0, 1) := by decide +kernel
theorem dX0_cutAnew_24 : decode cX0_cutAnew 24 = .ok (.putfield 44, 3) := by decide +kernel
theorem dX0_cutAnew_27 : decode cX0_cutAnew 27 = .ok (.iconst 0, 1) := by decide +kernel
theorem dX0_cutAnew_28 : decode cX0_cutAnew 28 = .ok (.istore 4, 2) := by decide +kernel
theorem dX0_cutAnew_30 : decode cX0_cutAnew 30 = .ok (.iload 4, 2) := by decide +kernel
theorem dX0_cutAnew_32 : decode cX0_cutAnew 32 = .ok (.aload_n 0, 1) := by decide +kernel
theorem dX0_cutAnew_33 : decode cX0_cutAnew 33 = .ok (.getfield 11, 3) := by decide +kernel
theorem dX0_cutAnew_36 : decode cX0_cutAnew 36 = .ok (.arraylength, 1) := by decide +kernel
theorem dX0_cutAnew_37 : decode cX0_cutAnew 37 = .ok (.if_icmp .ge 18, 3) := by decide +kernel
theorem dX0_cutAnew_40 : decode cX0_cutAnew 40 = .ok (.aload_n 0, 1) := by decide +kernel
theorem dX0_cutAnew_41 : decode cX0_cutAnew 41 = .ok (.getfield 11, 3) := by decide +kernel
theorem dX0_cutAnew_44 : decode cX0_cutAnew 44 = .ok (.iload 4, 2) := by decide +kernel
theorem dX0_cutAnew_46 : decode cX0_cutAnew 46 = .ok (.bipush (-9), 2) := by decide +kernel
theorem dX0_cutAnew_48 : decode cX0_cutAnew 48 = .ok (.iastore, 1) := by decide +kernel
theorem dX0_cutAnew_49 : decode cX0_cutAnew 49 = .ok (.iinc 4 1, 3) := by decide +kernel
theorem dX0_cutAnew_52 : decode cX0_cutAnew 52 = .ok (.goto (-22), 3) := by decide +kernel
theorem dX0_cutAnew_55 : decode cX0_cutAnew 55 = .ok (.aload_n 0, 1) := by decide +kernel
theorem dX0_cutAnew_56 : decode cX0_cutAnew 56 = .ok (.iload_n 1, 1) := by decide +kernel
theorem dX0_cutAnew_57 : decode cX0_cutAnew 57 = .ok (.iconst 0, 1) := by decide +kernel
theorem dX0_cutAnew_58 : decode cX0_cutAnew 58 = .ok (.iconst 0, 1) := by decide +kernel
theorem dX0_cutAnew_59 : decode cX0_cutAnew 59 = .ok (.iload_n 2, 1) := by decide +kernel
theorem dX0_cutAnew_60 : decode cX0_cutAnew 60 = .ok (.iload_n 3, 1) := by decide +kernel
theorem dX0_cutAnew_61 : decode cX0_cutAnew 61 = .ok (.invokestatic 47, 3) := by decide +kernel
theorem dX0_cutAnew_64 : decode cX0_cutAnew 64 = .ok (.return_, 1) := by decide +kernel
theorem dX0_cutBlock_0 : decode cX0_cutBlock 0 = .ok (.iload_n 1, 1) := by decide +kernel
theorem dX0_cutBlock_1 : decode cX0_cutBlock 1 = .ok (.iconst 1, 1) := by decide +kernel
theorem dX0_cutBlock_2 : decode cX0_cutBlock 2 = .ok (.if_icmp .lt 8, 3) := by decide +kernel
theorem dX0_cutBlock_5 : decode cX0_cutBlock 5 = .ok (.iload_n 1, 1) := by decide +kernel
theorem dX0_cutBlock_6 : decode cX0_cutBlock 6 = .ok (.iconst 4, 1) := by decide +kernel
theorem dX0_cutBlock_7 : decode cX0_cutBlock 7 = .ok (.if_icmp .le 4, 3) := by decide +kernel
theorem dX0_cutBlock_10 : decode cX0_cutBlock 10 = .ok (.return_, 1) := by decide +kernel
theorem dX0_cutBlock_11 : decode cX0_cutBlock 11 = .ok (.iconst 1, 1) := by decide +kernel
theorem dX0_cutBlock_12 : decode cX0_cutBlock 12 = .ok (.iload_n 1, 1) := by decide +kernel
theorem dX0_cutBlock_13 : decode cX0_cutBlock 13 = .ok (.iconst 1, 1) := by decide +kernel
theorem dX0_cutBlock_14 : decode cX0_cutBlock 14 = .ok (.isub, 1) := by decide +kernel
theorem dX0_cutBlock_15 : decode cX0_cutBlock 15 = .ok (.ishl, 1) := by decide +kernel
theorem dX0_cutBlock_16 : decode cX0_cutBlock 16 = .ok (.istore 6, 2) := by decide +kernel
theorem dX0_cutBlock_18 : decode cX0_cutBlock 18 = .ok (.iload 4, 2) := by decide +kernel
theorem dX0_cutBlock_20 : decode cX0_cutBlock 20 = .ok (.iload_n 2, 1) := by decide +kernel
theorem dX0_cutBlock_21 : decode cX0_cutBlock 21 = .ok (.iload 6, 2) := by decide +kernel
theorem dX0_cutBlock_23 : decode cX0_cutBlock 23 = .ok (.iadd, 1) := by decide +kernel
theorem dX0_cutBlock_24 : decode cX0_cutBlock 24 = .ok (.if_icmp .lt 7, 3) := by decide +kernel
theorem dX0_cutBlock_27 : decode cX0_cutBlock 27 = .ok (.iconst 1, 1) := by decide +kernel
theorem dX0_cutBlock_28 : decode cX0_cutBlock 28 = .ok (.goto 4, 3) := by decide +kernel
theorem dX0_cutBlock_31 : decode cX0_cutBlock 31 = .ok (.iconst 0, 1) := by decide +kernel
theorem dX0_cutBlock_32 : decode cX0_cutBlock 32 = .ok (.iload 5, 2) := by decide +kernel
theorem dX0_cutBlock_34 : decode cX0_cutBlock 34 = .ok (.iload_n 3, 1) := by decide +kernel
theorem dX0_cutBlock_35 : decode cX0_cutBlock 35 = .ok (.iload 6, 2) := by decide +kernel
theorem dX0_cutBlock_37 : decode cX0_cutBlock 37 = .ok (.iadd, 1) := by decide +kernel
theorem dX0_cutBlock_38 : decode cX0_cutBlock 38 = .ok (.if_icmp .lt 7, 3) := by decide +kernel
theorem dX0_cutBlock_41 : decode cX0_cutBlock 41 = .ok (.iconst 2, 1) := by decide +kernel
theorem dX0_cutBlock_42 : decode cX0_cutBlock 42 = .ok (.goto 4, 3) := by decide +kernel
theorem dX0_cutBlock_45 : decode cX0_cutBlock 45 = .ok (.iconst 0, 1) := by decide +kernel
theorem dX0_cutBlock_46 : decode cX0_cutBlock 46 = .ok (.iadd, 1) := by decide +kernel
theorem dX0_cutBlock_47 : decode cX0_cutBlock 47 = .ok (.istore 7, 2) := by decide +kernel
theorem dX0_cutBlock_49 : decode cX0_cutBlock 49 = .ok (.aload_n 0, 1) := by decide +kernel
theorem dX0_cutBlock_50 : decode cX0_cutBlock 50 = .ok (.iload 7, 2) := by decide +kernel
theorem dX0_cutBlock_52 : decode cX0_cutBlock 52 = .ok (.iconst 2, 1) := by decide +kernel
theorem dX0_cutBlock_53 : decode cX0_cutBlock 53 = .ok (.iload 6, 2) := by decide +kernel
theorem dX0_cutBlock_55 : decode cX0_cutBlock 55 = .ok (.imul, 1) := by decide +kernel
theorem dX0_cutBlock_56 : decode cX0_cutBlock 56 = .ok (.iload_n 2, 1) := by decide +kernel
theorem dX0_cutBlock_57 : decode cX0_cutBlock 57 = .ok (.iload 6, 2) := by decide +kernel
theorem dX0_cutBlock_59 : decode cX0_cutBlock 59 = .ok (.iadd, 1) := by decide +kernel
theorem dX0_cutBlock_60 : decode cX0_cutBlock 60 = .ok (.iconst 1, 1) := by decide +kernel
theorem dX0_cutBlock_61 : decode cX0_cutBlock 61 = .ok (.isub, 1) := by decide +kernel
theorem dX0_cutBlock_62 : decode cX0_cutBlock 62 = .ok (.iload_n 3, 1) := by decide +kernel
theorem dX0_cutBlock_63 : decode cX0_cutBlock 63 = .ok (.iload 6, 2) := by decide +kernel
theorem dX0_cutBlock_65 : decode cX0_cutBlock 65 = .ok (.iadd, 1) := by decide +kernel
theorem dX0_cutBlock_66 : decode cX0_cutBlock 66 = .ok (.iconst 1, 1) := by decide +kernel
theorem dX0_cutBlock_67 : decode cX0_cutBlock 67 = .ok (.isub, 1) := by decide +kernel
theorem dX0_cutBlock_68 : decode cX0_cutBlock 68 = .ok (.invokevirtual 51, 3) := by decide +kernel
theorem dX0_cutBlock_71 : decode cX0_cutBlock 71 = .ok (.iconst 0, 1) := by decide +kernel
theorem dX0_cutBlock_72 : decode cX0_cutBlock 72 = .ok (.istore 8, 2) := by decide +kernel
theorem dX0_cutBlock_74 : decode cX0_cutBlock 74 = .ok (.iload 8, 2) := by decide +kernel
theorem dX0_cutBlock_76 : decode cX0_cutBlock 76 = .ok (.iconst 4, 1) := by decide +kernel
theorem dX0_cutBlock_77 : decode cX0_cutBlock 77 = .ok (.if_icmp .ge 92, 3) := by decide +kernel
theorem dX0_cutBlock_80 : decode cX0_cutBlock 80 = .ok (.iload 8, 2) := by decide +kernel
theorem dX0_cutBlock_82 : decode cX0_cutBlock 82 = .ok (.iconst 1, 1) := by decide +kernel
theorem dX0_cutBlock_83 : decode cX0_cutBlock 83 = .ok (.iand, 1) := by decide +kernel
theorem dX0_cutBlock_84 : decode cX0_cutBlock 84 = .ok (.istore 9, 2) := by decide +kernel
theorem dX0_cutBlock_86 : decode cX0_cutBlock 86 = .ok (.iload 8, 2) := by decide +kernel
theorem dX0_cutBlock_88 : decode cX0_cutBlock 88 = .ok (.iconst 1, 1) := by decide +kernel
theorem dX0_cutBlock_89 : decode cX0_cutBlock 89 = .ok (.ishr, 1) := by decide +kernel
theorem dX0_cutBlock_90 : decode cX0_cutBlock 90 = .ok (.istore 10, 2) := by decide +kernel
theorem dX0_cutBlock_92 : decode cX0_cutBlock 92 = .ok (.iload 8, 2) := by decide +kernel
theorem dX0_cutBlock_94 : decode cX0_cutBlock 94 = .ok (.iload 7, 2) := by decide +kernel
theorem dX0_cutBlock_96 : decode cX0_cutBlock 96 = .ok (.if_icmp .ne 8, 3) := by decide +kernel
theorem dX0_cutBlock_99 : decode cX0_cutBlock 99 = .ok (.iload 4, 2) := by decide +kernel
theorem dX0_cutBlock_101 : decode cX0_cutBlock 101 = .ok (.goto 12, 3) := by decide +kernel
theorem dX0_cutBlock_104 : decode cX0_cutBlock 104 = .ok (.iload_n 2, 1) := by decide +kernel
theorem dX0_cutBlock_105 : decode cX0_cutBlock 105 = .ok (.iload 6, 2) := by decide +kernel
theorem dX0_cutBlock_107 : decode cX0_cutBlock 107 = .ok (.iadd, 1) := by decide +kernel
theorem dX0_cutBlock_108 : decode cX0_cutBlock 108 = .ok (.iconst 1, 1) := by decide +kernel
theorem dX0_cutBlock_109 : decode cX0_cutBlock 109 = .ok (.isub, 1) := by decide +kernel
theorem dX0_cutBlock_110 : decode cX0_cutBlock 110 = .ok (.iload 9, 2) := by decide +kernel
theorem dX0_cutBlock_112 : decode cX0_cutBlock 112 = .ok (.iadd, 1) := by decide +kernel
theorem dX0_cutBlock_113 : decode cX0_cutBlock 113 = .ok (.istore 11, 2) := by decide +kernel
theorem dX0_cutBlock_115 : decode cX0_cutBlock 115 = .ok (.iload 8, 2) := by decide +kernel
theorem dX0_cutBlock_117 : decode cX0_cutBlock 117 = .ok (.iload 7, 2) := by decide +kernel
theorem dX0_cutBlock_119 : decode cX0_cutBlock 119 = .ok (.if_icmp .ne 8, 3) := by decide +kernel
theorem dX0_cutBlock_122 : decode cX0_cutBlock 122 = .ok (.iload 5, 2) := by decide +kernel
theorem dX0_cutBlock_124 : decode cX0_cutBlock 124 = .ok (.goto 12, 3) := by decide +kernel
theorem dX0_cutBlock_127 : decode cX0_cutBlock 127 = .ok (.iload_n 3, 1) := by decide +kernel
theorem dX0_cutBlock_128 : decode cX0_cutBlock 128 = .ok (.iload 6, 2) := by decide +kernel
theorem dX0_cutBlock_130 : decode cX0_cutBlock 130 = .ok (.iadd, 1) := by decide +kernel
theorem dX0_cutBlock_131 : decode cX0_cutBlock 131 = .ok (.iconst 1, 1) := by decide +kernel
theorem dX0_cutBlock_132 : decode cX0_cutBlock 132 = .ok (.isub, 1) := by decide +kernel
theorem dX0_cutBlock_133 : decode cX0_cutBlock 133 = .ok (.iload 10, 2) := by decide +kernel
theorem dX0_cutBlock_135 : decode cX0_cutBlock 135 = .ok (.iadd, 1) := by decide +kernel
theorem dX0_cutBlock_136 : decode cX0_cutBlock 136 = .ok (.istore 12, 2) := by decide +kernel
theorem dX0_cutBlock_138 : decode cX0_cutBlock 138 = .ok (.aload_n 0, 1) := by decide +kernel
theorem dX0_cutBlock_139 : decode cX0_cutBlock 139 = .ok (.iload_n 1, 1) := by decide +kernel
theorem dX0_cutBlock_140 : decode cX0_cutBlock 140 = .ok (.iconst 1, 1) := by decide +kernel
theorem dX0_cutBlock_141 : decode cX0_cutBlock 141 = .ok (.isub, 1) := by decide +kernel
theorem dX0_cutBlock_142 : decode cX0_cutBlock 142 = .ok (.iload_n 2, 1) := by decide +kernel
theorem dX0_cutBlock_143 : decode cX0_cutBlock 143 = .ok (.iload 9, 2) := by decide +kernel
theorem dX0_cutBlock_145 : decode cX0_cutBlock 145 = .ok (.iload 6, 2) := by decide +kernel
theorem dX0_cutBlock_147 : decode cX0_cutBlock 147 = .ok (.imul, 1) := by decide +kernel
theorem dX0_cutBlock_148 : decode cX0_cutBlock 148 = .ok (.iadd, 1) := by decide +kernel
theorem dX0_cutBlock_149 : decode cX0_cutBlock 149 = .ok (.iload_n 3, 1) := by decide +kernel
theorem dX0_cutBlock_150 : decode cX0_cutBlock 150 = .ok (.iload 10, 2) := by decide +kernel
theorem dX0_cutBlock_152 : decode cX0_cutBlock 152 = .ok (.iload 6, 2) := by decide +kernel
theorem dX0_cutBlock_154 : decode cX0_cutBlock 154 = .ok (.imul, 1) := by decide +kernel
theorem dX0_cutBlock_155 : decode cX0_cutBlock 155 = .ok (.iadd, 1) := by decide +kernel
theorem dX0_cutBlock_156 : decode cX0_cutBlock 156 = .ok (.iload 11, 2) := by decide +kernel
theorem dX0_cutBlock_158 : decode cX0_cutBlock 158 = .ok (.iload 12, 2) := by decide +kernel
theorem dX0_cutBlock_160 : decode cX0_cutBlock 160 = .ok (.invokestatic 47, 3) := by decide +kernel
theorem dX0_cutBlock_163 : decode cX0_cutBlock 163 = .ok (.iinc 8 1, 3) := by decide +kernel
theorem dX0_cutBlock_166 : decode cX0_cutBlock 166 = .ok (.goto (-92), 3) := by decide +kernel
theorem dX0_cutBlock_169 : decode cX0_cutBlock 169 = .ok (.return_, 1) := by decide +kernel
theorem dX0_lay_0 : decode cX0_lay 0 = .ok (.aload_n 0, 1) := by decide +kernel
theorem dX0_lay_1 : decode cX0_lay 1 = .ok (.getfield 44, 3) := by decide +kernel
theorem dX0_lay_4 : decode cX0_lay 4 = .ok (.bipush 85, 2) := by decide +kernel
theorem dX0_lay_6 : decode cX0_lay 6 = .ok (.if_icmp .lt 4, 3) := by decide +kernel
theorem dX0_lay_9 : decode cX0_lay 9 = .ok (.return_, 1) := by decide +kernel
theorem dX0_lay_10 : decode cX0_lay 10 = .ok (.aload_n 0, 1) := by decide +kernel
theorem dX0_lay_11 : decode cX0_lay 11 = .ok (.getfield 15, 3) := by decide +kernel
theorem dX0_lay_14 : decode cX0_lay 14 = .ok (.aload_n 0, 1) := by decide +kernel
theorem dX0_lay_15 : decode cX0_lay 15 = .ok (.getfield 44, 3) := by decide +kernel
theorem dX0_lay_18 : decode cX0_lay 18 = .ok (.iload_n 1, 1) := by decide +kernel
theorem dX0_lay_19 : decode cX0_lay 19 = .ok (.iastore, 1) := by decide +kernel
theorem dX0_lay_20 : decode cX0_lay 20 = .ok (.aload_n 0, 1) := by decide +kernel
theorem dX0_lay_21 : decode cX0_lay 21 = .ok (.getfield 18, 3) := by decide +kernel
theorem dX0_lay_24 : decode cX0_lay 24 = .ok (.aload_n 0, 1) := by decide +kernel
theorem dX0_lay_25 : decode cX0_lay 25 = .ok (.getfield 44, 3) := by decide +kernel
theorem dX0_lay_28 : decode cX0_lay 28 = .ok (.iload_n 2, 1) := by decide +kernel
theorem dX0_lay_29 : decode cX0_lay 29 = .ok (.iastore, 1) := by decide +kernel
theorem dX0_lay_30 : decode cX0_lay 30 = .ok (.aload_n 0, 1) := by decide +kernel
theorem dX0_lay_31 : decode cX0_lay 31 = .ok (.getfield 21, 3) := by decide +kernel
theorem dX0_lay_34 : decode cX0_lay 34 = .ok (.aload_n 0, 1) := by decide +kernel
theorem dX0_lay_35 : decode cX0_lay 35 = .ok (.getfield 44, 3) := by decide +kernel
theorem dX0_lay_38 : decode cX0_lay 38 = .ok (.iload_n 3, 1) := by decide +kernel
theorem dX0_lay_39 : decode cX0_lay 39 = .ok (.iastore, 1) := by decide +kernel
theorem dX0_lay_40 : decode cX0_lay 40 = .ok (.aload_n 0, 1) := by decide +kernel
theorem dX0_lay_41 : decode cX0_lay 41 = .ok (.getfield 24, 3) := by decide +kernel
theorem dX0_lay_44 : decode cX0_lay 44 = .ok (.aload_n 0, 1) := by decide +kernel
theorem dX0_lay_45 : decode cX0_lay 45 = .ok (.getfield 44, 3) := by decide +kernel
theorem dX0_lay_48 : decode cX0_lay 48 = .ok (.iload 4, 2) := by decide +kernel
theorem dX0_lay_50 : decode cX0_lay 50 = .ok (.iastore, 1) := by decide +kernel
theorem dX0_lay_51 : decode cX0_lay 51 = .ok (.iconst 0, 1) := by decide +kernel
theorem dX0_lay_52 : decode cX0_lay 52 = .ok (.istore 5, 2) := by decide +kernel
theorem dX0_lay_54 : decode cX0_lay 54 = .ok (.iload 5, 2) := by decide +kernel
theorem dX0_lay_56 : decode cX0_lay 56 = .ok (.iconst 4, 1) := by decide +kernel
theorem dX0_lay_57 : decode cX0_lay 57 = .ok (.if_icmp .ge 60, 3) := by decide +kernel
theorem dX0_lay_60 : decode cX0_lay 60 = .ok (.iload_n 3, 1) := by decide +kernel
theorem dX0_lay_61 : decode cX0_lay 61 = .ok (.iload 5, 2) := by decide +kernel
theorem dX0_lay_63 : decode cX0_lay 63 = .ok (.iconst 1, 1) := by decide +kernel
theorem dX0_lay_64 : decode cX0_lay 64 = .ok (.iand, 1) := by decide +kernel
theorem dX0_lay_65 : decode cX0_lay 65 = .ok (.iadd, 1) := by decide +kernel
theorem dX0_lay_66 : decode cX0_lay 66 = .ok (.istore 6, 2) := by decide +kernel
theorem dX0_lay_68 : decode cX0_lay 68 = .ok (.iload 4, 2) := by decide +kernel
theorem dX0_lay_70 : decode cX0_lay 70 = .ok (.iload 5, 2) := by decide +kernel
theorem dX0_lay_72 : decode cX0_lay 72 = .ok (.iconst 1, 1) := by decide +kernel
theorem dX0_lay_73 : decode cX0_lay 73 = .ok (.ishr, 1) := by decide +kernel
theorem dX0_lay_74 : decode cX0_lay 74 = .ok (.iadd, 1) := by decide +kernel
theorem dX0_lay_75 : decode cX0_lay 75 = .ok (.istore 7, 2) := by decide +kernel
theorem dX0_lay_77 : decode cX0_lay 77 = .ok (.iload 5, 2) := by decide +kernel
theorem dX0_lay_79 : decode cX0_lay 79 = .ok (.iload_n 1, 1) := by decide +kernel
theorem dX0_lay_80 : decode cX0_lay 80 = .ok (.if_icmp .eq 31, 3) := by decide +kernel
theorem dX0_lay_83 : decode cX0_lay 83 = .ok (.aload_n 0, 1) := by decide +kernel
theorem dX0_lay_84 : decode cX0_lay 84 = .ok (.iload 6, 2) := by decide +kernel
theorem dX0_lay_86 : decode cX0_lay 86 = .ok (.iload 7, 2) := by decide +kernel
theorem dX0_lay_88 : decode cX0_lay 88 = .ok (.invokevirtual 55, 3) := by decide +kernel
theorem dX0_lay_91 : decode cX0_lay 91 = .ok (.ifCond .eq 20, 3) := by decide +kernel
theorem dX0_lay_94 : decode cX0_lay 94 = .ok (.aload_n 0, 1) := by decide +kernel
theorem dX0_lay_95 : decode cX0_lay 95 = .ok (.getfield 11, 3) := by decide +kernel
theorem dX0_lay_98 : decode cX0_lay 98 = .ok (.iload 7, 2) := by decide +kernel
theorem dX0_lay_100 : decode cX0_lay 100 = .ok (.bipush 16, 2) := by decide +kernel
theorem dX0_lay_102 : decode cX0_lay 102 = .ok (.imul, 1) := by decide +kernel
theorem dX0_lay_103 : decode cX0_lay 103 = .ok (.iload 6, 2) := by decide +kernel
theorem dX0_lay_105 : decode cX0_lay 105 = .ok (.iadd, 1) := by decide +kernel
theorem dX0_lay_106 : decode cX0_lay 106 = .ok (.aload_n 0, 1) := by decide +kernel
theorem dX0_lay_107 : decode cX0_lay 107 = .ok (.getfield 44, 3) := by decide +kernel
theorem dX0_lay_110 : decode cX0_lay 110 = .ok (.iastore, 1) := by decide +kernel
theorem dX0_lay_111 : decode cX0_lay 111 = .ok (.iinc 5 1, 3) := by decide +kernel
theorem dX0_lay_114 : decode cX0_lay 114 = .ok (.goto (-60), 3) := by decide +kernel
theorem dX0_lay_117 : decode cX0_lay 117 = .ok (.aload_n 0, 1) := by decide +kernel
theorem dX0_lay_118 : decode cX0_lay 118 = .ok (.dup, 1) := by decide +kernel
theorem dX0_lay_119 : decode cX0_lay 119 = .ok (.getfield 44, 3) := by decide +kernel
theorem dX0_lay_122 : decode cX0_lay 122 = .ok (.iconst 1, 1) := by decide +kernel
theorem dX0_lay_123 : decode cX0_lay 123 = .ok (.iadd, 1) := by decide +kernel
theorem dX0_lay_124 : decode cX0_lay 124 = .ok (.putfield 44, 3) := by decide +kernel
theorem dX0_lay_127 : decode cX0_lay 127 = .ok (.return_, 1) := by decide +kernel
theorem dX0_has_0 : decode cX0_has 0 = .ok (.aload_n 0, 1) := by decide +kernel
theorem dX0_has_1 : decode cX0_has 1 = .ok (.getfield 31, 3) := by decide +kernel
theorem dX0_has_4 : decode cX0_has 4 = .ok (.iload_n 1, 1) := by decide +kernel
theorem dX0_has_5 : decode cX0_has 5 = .ok (.iload_n 2, 1) := by decide +kernel
theorem dX0_has_6 : decode cX0_has 6 = .ok (.invokestatic 59, 3) := by decide +kernel
theorem dX0_has_9 : decode cX0_has 9 = .ok (.ireturn, 1) := by decide +kernel
theorem dX0_hasPiece_0 : decode cX0_hasPiece 0 = .ok (.iload_n 1, 1) := by decide +kernel
theorem dX0_hasPiece_1 : decode cX0_hasPiece 1 = .ok (.ifCond .lt 15, 3) := by decide +kernel
theorem dX0_hasPiece_4 : decode cX0_hasPiece 4 = .ok (.iload_n 1, 1) := by decide +kernel
theorem dX0_hasPiece_5 : decode cX0_hasPiece 5 = .ok (.aload_n 0, 1) := by decide +kernel
theorem dX0_hasPiece_6 : decode cX0_hasPiece 6 = .ok (.getfield 44, 3) := by decide +kernel
theorem dX0_hasPiece_9 : decode cX0_hasPiece 9 = .ok (.if_icmp .ge 7, 3) := by decide +kernel
theorem dX0_hasPiece_12 : decode cX0_hasPiece 12 = .ok (.iconst 1, 1) := by decide +kernel
theorem dX0_hasPiece_13 : decode cX0_hasPiece 13 = .ok (.goto 4, 3) := by decide +kernel
theorem dX0_hasPiece_16 : decode cX0_hasPiece 16 = .ok (.iconst 0, 1) := by decide +kernel
theorem dX0_hasPiece_17 : decode cX0_hasPiece 17 = .ok (.ireturn, 1) := by decide +kernel
theorem dX0_pieceAt_0 : decode cX0_pieceAt 0 = .ok (.aload_n 0, 1) := by decide +kernel
theorem dX0_pieceAt_1 : decode cX0_pieceAt 1 = .ok (.iload_n 1, 1) := by decide +kernel
theorem dX0_pieceAt_2 : decode cX0_pieceAt 2 = .ok (.iload_n 2, 1) := by decide +kernel
theorem dX0_pieceAt_3 : decode cX0_pieceAt 3 = .ok (.invokevirtual 55, 3) := by decide +kernel
theorem dX0_pieceAt_6 : decode cX0_pieceAt 6 = .ok (.ifCond .eq 17, 3) := by decide +kernel
theorem dX0_pieceAt_9 : decode cX0_pieceAt 9 = .ok (.aload_n 0, 1) := by decide +kernel
theorem dX0_pieceAt_10 : decode cX0_pieceAt 10 = .ok (.getfield 11, 3) := by decide +kernel
theorem dX0_pieceAt_13 : decode cX0_pieceAt 13 = .ok (.iload_n 2, 1) := by decide +kernel
theorem dX0_pieceAt_14 : decode cX0_pieceAt 14 = .ok (.bipush 16, 2) := by decide +kernel
theorem dX0_pieceAt_16 : decode cX0_pieceAt 16 = .ok (.imul, 1) := by decide +kernel
theorem dX0_pieceAt_17 : decode cX0_pieceAt 17 = .ok (.iload_n 1, 1) := by decide +kernel
theorem dX0_pieceAt_18 : decode cX0_pieceAt 18 = .ok (.iadd, 1) := by decide +kernel
theorem dX0_pieceAt_19 : decode cX0_pieceAt 19 = .ok (.iaload, 1) := by decide +kernel
theorem dX0_pieceAt_20 : decode cX0_pieceAt 20 = .ok (.goto 5, 3) := by decide +kernel
theorem dX0_pieceAt_23 : decode cX0_pieceAt 23 = .ok (.bipush (-9), 2) := by decide +kernel
theorem dX0_pieceAt_25 : decode cX0_pieceAt 25 = .ok (.ireturn, 1) := by decide +kernel
theorem dX0_wayOf_0 : decode cX0_wayOf 0 = .ok (.aload_n 0, 1) := by decide +kernel
theorem dX0_wayOf_1 : decode cX0_wayOf 1 = .ok (.getfield 15, 3) := by decide +kernel
theorem dX0_wayOf_4 : decode cX0_wayOf 4 = .ok (.iload_n 1, 1) := by decide +kernel
theorem dX0_wayOf_5 : decode cX0_wayOf 5 = .ok (.iaload, 1) := by decide +kernel
theorem dX0_wayOf_6 : decode cX0_wayOf 6 = .ok (.ireturn, 1) := by decide +kernel
theorem dX0_sizeOf_0 : decode cX0_sizeOf 0 = .ok (.aload_n 0, 1) := by decide +kernel
theorem dX0_sizeOf_1 : decode cX0_sizeOf 1 = .ok (.getfield 18, 3) := by decide +kernel
theorem dX0_sizeOf_4 : decode cX0_sizeOf 4 = .ok (.iload_n 1, 1) := by decide +kernel
theorem dX0_sizeOf_5 : decode cX0_sizeOf 5 = .ok (.iaload, 1) := by decide +kernel
theorem dX0_sizeOf_6 : decode cX0_sizeOf 6 = .ok (.ireturn, 1) := by decide +kernel
theorem dX0_cornerX_0 : decode cX0_cornerX 0 = .ok (.iconst 3, 1) := by decide +kernel
theorem dX0_cornerX_1 : decode cX0_cornerX 1 = .ok (.aload_n 0, 1) := by decide +kernel
theorem dX0_cornerX_2 : decode cX0_cornerX 2 = .ok (.getfield 15, 3) := by decide +kernel
theorem dX0_cornerX_5 : decode cX0_cornerX 5 = .ok (.iload_n 1, 1) := by decide +kernel
theorem dX0_cornerX_6 : decode cX0_cornerX 6 = .ok (.iaload, 1) := by decide +kernel
theorem dX0_cornerX_7 : decode cX0_cornerX 7 = .ok (.isub, 1) := by decide +kernel
theorem dX0_cornerX_8 : decode cX0_cornerX 8 = .ok (.istore_n 2, 1) := by decide +kernel
theorem dX0_cornerX_9 : decode cX0_cornerX 9 = .ok (.aload_n 0, 1) := by decide +kernel
theorem dX0_cornerX_10 : decode cX0_cornerX 10 = .ok (.getfield 21, 3) := by decide +kernel
theorem dX0_cornerX_13 : decode cX0_cornerX 13 = .ok (.iload_n 1, 1) := by decide +kernel
theorem dX0_cornerX_14 : decode cX0_cornerX 14 = .ok (.iaload, 1) := by decide +kernel
theorem dX0_cornerX_15 : decode cX0_cornerX 15 = .ok (.iload_n 2, 1) := by decide +kernel
theorem dX0_cornerX_16 : decode cX0_cornerX 16 = .ok (.iconst 1, 1) := by decide +kernel
theorem dX0_cornerX_17 : decode cX0_cornerX 17 = .ok (.iand, 1) := by decide +kernel
theorem dX0_cornerX_18 : decode cX0_cornerX 18 = .ok (.iadd, 1) := by decide +kernel
theorem dX0_cornerX_19 : decode cX0_cornerX 19 = .ok (.ireturn, 1) := by decide +kernel
theorem dX0_cornerY_0 : decode cX0_cornerY 0 = .ok (.iconst 3, 1) := by decide +kernel
theorem dX0_cornerY_1 : decode cX0_cornerY 1 = .ok (.aload_n 0, 1) := by decide +kernel
theorem dX0_cornerY_2 : decode cX0_cornerY 2 = .ok (.getfield 15, 3) := by decide +kernel
theorem dX0_cornerY_5 : decode cX0_cornerY 5 = .ok (.iload_n 1, 1) := by decide +kernel
theorem dX0_cornerY_6 : decode cX0_cornerY 6 = .ok (.iaload, 1) := by decide +kernel
theorem dX0_cornerY_7 : decode cX0_cornerY 7 = .ok (.isub, 1) := by decide +kernel
theorem dX0_cornerY_8 : decode cX0_cornerY 8 = .ok (.istore_n 2, 1) := by decide +kernel
theorem dX0_cornerY_9 : decode cX0_cornerY 9 = .ok (.aload_n 0, 1) := by decide +kernel
theorem dX0_cornerY_10 : decode cX0_cornerY 10 = .ok (.getfield 24, 3) := by decide +kernel
theorem dX0_cornerY_13 : decode cX0_cornerY 13 = .ok (.iload_n 1, 1) := by decide +kernel
theorem dX0_cornerY_14 : decode cX0_cornerY 14 = .ok (.iaload, 1) := by decide +kernel
theorem dX0_cornerY_15 : decode cX0_cornerY 15 = .ok (.iload_n 2, 1) := by decide +kernel
theorem dX0_cornerY_16 : decode cX0_cornerY 16 = .ok (.iconst 1, 1) := by decide +kernel
theorem dX0_cornerY_17 : decode cX0_cornerY 17 = .ok (.ishr, 1) := by decide +kernel
theorem dX0_cornerY_18 : decode cX0_cornerY 18 = .ok (.iadd, 1) := by decide +kernel
theorem dX0_cornerY_19 : decode cX0_cornerY 19 = .ok (.ireturn, 1) := by decide +kernel
theorem dX0_touching_0 : decode cX0_touching 0 = .ok (.iconst 0, 1) := by decide +kernel
theorem dX0_touching_1 : decode cX0_touching 1 = .ok (.istore_n 2, 1) := by decide +kernel
theorem dX0_touching_2 : decode cX0_touching 2 = .ok (.iload_n 2, 1) := by decide +kernel
theorem dX0_touching_3 : decode cX0_touching 3 = .ok (.aload_n 0, 1) := by decide +kernel
theorem dX0_touching_4 : decode cX0_touching 4 = .ok (.getfield 27, 3) := by decide +kernel
theorem dX0_touching_7 : decode cX0_touching 7 = .ok (.arraylength, 1) := by decide +kernel
theorem dX0_touching_8 : decode cX0_touching 8 = .ok (.if_icmp .ge 16, 3) := by decide +kernel
theorem dX0_touching_11 : decode cX0_touching 11 = .ok (.aload_n 0, 1) := by decide +kernel
theorem dX0_touching_12 : decode cX0_touching 12 = .ok (.getfield 27, 3) := by decide +kernel
theorem dX0_touching_15 : decode cX0_touching 15 = .ok (.iload_n 2, 1) := by decide +kernel
theorem dX0_touching_16 : decode cX0_touching 16 = .ok (.iconst 0, 1) := by decide +kernel
theorem dX0_touching_17 : decode cX0_touching 17 = .ok (.bastore, 1) := by decide +kernel
theorem dX0_touching_18 : decode cX0_touching 18 = .ok (.iinc 2 1, 3) := by decide +kernel
theorem dX0_touching_21 : decode cX0_touching 21 = .ok (.goto (-19), 3) := by decide +kernel
theorem dX0_touching_24 : decode cX0_touching 24 = .ok (.iconst 0, 1) := by decide +kernel
theorem dX0_touching_25 : decode cX0_touching 25 = .ok (.istore_n 2, 1) := by decide +kernel
theorem dX0_touching_26 : decode cX0_touching 26 = .ok (.iload_n 2, 1) := by decide +kernel
theorem dX0_touching_27 : decode cX0_touching 27 = .ok (.iconst 4, 1) := by decide +kernel
theorem dX0_touching_28 : decode cX0_touching 28 = .ok (.if_icmp .ge 43, 3) := by decide +kernel
theorem dX0_touching_31 : decode cX0_touching 31 = .ok (.iload_n 2, 1) := by decide +kernel
theorem dX0_touching_32 : decode cX0_touching 32 = .ok (.aload_n 0, 1) := by decide +kernel
theorem dX0_touching_33 : decode cX0_touching 33 = .ok (.getfield 15, 3) := by decide +kernel
theorem dX0_touching_36 : decode cX0_touching 36 = .ok (.iload_n 1, 1) := by decide +kernel
theorem dX0_touching_37 : decode cX0_touching 37 = .ok (.iaload, 1) := by decide +kernel
theorem dX0_touching_38 : decode cX0_touching 38 = .ok (.if_icmp .eq 27, 3) := by decide +kernel
theorem dX0_touching_41 : decode cX0_touching 41 = .ok (.aload_n 0, 1) := by decide +kernel
theorem dX0_touching_42 : decode cX0_touching 42 = .ok (.aload_n 0, 1) := by decide +kernel
theorem dX0_touching_43 : decode cX0_touching 43 = .ok (.getfield 21, 3) := by decide +kernel
theorem dX0_touching_46 : decode cX0_touching 46 = .ok (.iload_n 1, 1) := by decide +kernel
theorem dX0_touching_47 : decode cX0_touching 47 = .ok (.iaload, 1) := by decide +kernel
theorem dX0_touching_48 : decode cX0_touching 48 = .ok (.iload_n 2, 1) := by decide +kernel
theorem dX0_touching_49 : decode cX0_touching 49 = .ok (.iconst 1, 1) := by decide +kernel
theorem dX0_touching_50 : decode cX0_touching 50 = .ok (.iand, 1) := by decide +kernel
theorem dX0_touching_51 : decode cX0_touching 51 = .ok (.iadd, 1) := by decide +kernel
theorem dX0_touching_52 : decode cX0_touching 52 = .ok (.aload_n 0, 1) := by decide +kernel
theorem dX0_touching_53 : decode cX0_touching 53 = .ok (.getfield 24, 3) := by decide +kernel
theorem dX0_touching_56 : decode cX0_touching 56 = .ok (.iload_n 1, 1) := by decide +kernel
theorem dX0_touching_57 : decode cX0_touching 57 = .ok (.iaload, 1) := by decide +kernel
theorem dX0_touching_58 : decode cX0_touching 58 = .ok (.iload_n 2, 1) := by decide +kernel
theorem dX0_touching_59 : decode cX0_touching 59 = .ok (.iconst 1, 1) := by decide +kernel
theorem dX0_touching_60 : decode cX0_touching 60 = .ok (.ishr, 1) := by decide +kernel
theorem dX0_touching_61 : decode cX0_touching 61 = .ok (.iadd, 1) := by decide +kernel
theorem dX0_touching_62 : decode cX0_touching 62 = .ok (.invokevirtual 63, 3) := by decide +kernel
theorem dX0_touching_65 : decode cX0_touching 65 = .ok (.iinc 2 1, 3) := by decide +kernel
theorem dX0_touching_68 : decode cX0_touching 68 = .ok (.goto (-42), 3) := by decide +kernel
theorem dX0_touching_71 : decode cX0_touching 71 = .ok (.aload_n 0, 1) := by decide +kernel
theorem dX0_touching_72 : decode cX0_touching 72 = .ok (.getfield 27, 3) := by decide +kernel
theorem dX0_touching_75 : decode cX0_touching 75 = .ok (.iload_n 1, 1) := by decide +kernel
theorem dX0_touching_76 : decode cX0_touching 76 = .ok (.iconst 0, 1) := by decide +kernel
theorem dX0_touching_77 : decode cX0_touching 77 = .ok (.bastore, 1) := by decide +kernel
theorem dX0_touching_78 : decode cX0_touching 78 = .ok (.iconst 0, 1) := by decide +kernel
theorem dX0_touching_79 : decode cX0_touching 79 = .ok (.istore_n 2, 1) := by decide +kernel
theorem dX0_touching_80 : decode cX0_touching 80 = .ok (.iconst 0, 1) := by decide +kernel
theorem dX0_touching_81 : decode cX0_touching 81 = .ok (.istore_n 3, 1) := by decide +kernel
theorem dX0_touching_82 : decode cX0_touching 82 = .ok (.iload_n 3, 1) := by decide +kernel
theorem dX0_touching_83 : decode cX0_touching 83 = .ok (.aload_n 0, 1) := by decide +kernel
theorem dX0_touching_84 : decode cX0_touching 84 = .ok (.getfield 44, 3) := by decide +kernel
theorem dX0_touching_87 : decode cX0_touching 87 = .ok (.if_icmp .ge 26, 3) := by decide +kernel
theorem dX0_touching_90 : decode cX0_touching 90 = .ok (.iload_n 2, 1) := by decide +kernel
theorem dX0_touching_91 : decode cX0_touching 91 = .ok (.aload_n 0, 1) := by decide +kernel
theorem dX0_touching_92 : decode cX0_touching 92 = .ok (.getfield 27, 3) := by decide +kernel
theorem dX0_touching_95 : decode cX0_touching 95 = .ok (.iload_n 3, 1) := by decide +kernel
theorem dX0_touching_96 : decode cX0_touching 96 = .ok (.baload, 1) := by decide +kernel
theorem dX0_touching_97 : decode cX0_touching 97 = .ok (.ifCond .eq 7, 3) := by decide +kernel
theorem dX0_touching_100 : decode cX0_touching 100 = .ok (.iconst 1, 1) := by decide +kernel
theorem dX0_touching_101 : decode cX0_touching 101 = .ok (.goto 4, 3) := by decide +kernel
theorem dX0_touching_104 : decode cX0_touching 104 = .ok (.iconst 0, 1) := by decide +kernel
theorem dX0_touching_105 : decode cX0_touching 105 = .ok (.iadd, 1) := by decide +kernel
theorem dX0_touching_106 : decode cX0_touching 106 = .ok (.istore_n 2, 1) := by decide +kernel
theorem dX0_touching_107 : decode cX0_touching 107 = .ok (.iinc 3 1, 3) := by decide +kernel
theorem dX0_touching_110 : decode cX0_touching 110 = .ok (.goto (-28), 3) := by decide +kernel
theorem dX0_touching_113 : decode cX0_touching 113 = .ok (.iload_n 2, 1) := by decide +kernel
theorem dX0_touching_114 : decode cX0_touching 114 = .ok (.ireturn, 1) := by decide +kernel
theorem dX0_touchAround_0 : decode cX0_touchAround 0 = .ok (.aload_n 0, 1) := by decide +kernel
theorem dX0_touchAround_1 : decode cX0_touchAround 1 = .ok (.iload_n 1, 1) := by decide +kernel
theorem dX0_touchAround_2 : decode cX0_touchAround 2 = .ok (.iconst 1, 1) := by decide +kernel
theorem dX0_touchAround_3 : decode cX0_touchAround 3 = .ok (.isub, 1) := by decide +kernel
theorem dX0_touchAround_4 : decode cX0_touchAround 4 = .ok (.iload_n 2, 1) := by decide +kernel
theorem dX0_touchAround_5 : decode cX0_touchAround 5 = .ok (.invokevirtual 67, 3) := by decide +kernel
theorem dX0_touchAround_8 : decode cX0_touchAround 8 = .ok (.aload_n 0, 1) := by decide +kernel
theorem dX0_touchAround_9 : decode cX0_touchAround 9 = .ok (.iload_n 1, 1) := by decide +kernel
theorem dX0_touchAround_10 : decode cX0_touchAround 10 = .ok (.iconst 1, 1) := by decide +kernel
theorem dX0_touchAround_11 : decode cX0_touchAround 11 = .ok (.iadd, 1) := by decide +kernel
theorem dX0_touchAround_12 : decode cX0_touchAround 12 = .ok (.iload_n 2, 1) := by decide +kernel
theorem dX0_touchAround_13 : decode cX0_touchAround 13 = .ok (.invokevirtual 67, 3) := by decide +kernel
theorem dX0_touchAround_16 : decode cX0_touchAround 16 = .ok (.aload_n 0, 1) := by decide +kernel
theorem dX0_touchAround_17 : decode cX0_touchAround 17 = .ok (.iload_n 1, 1) := by decide +kernel
theorem dX0_touchAround_18 : decode cX0_touchAround 18 = .ok (.iload_n 2, 1) := by decide +kernel
theorem dX0_touchAround_19 : decode cX0_touchAround 19 = .ok (.iconst 1, 1) := by decide +kernel
theorem dX0_touchAround_20 : decode cX0_touchAround 20 = .ok (.isub, 1) := by decide +kernel
theorem dX0_touchAround_21 : decode cX0_touchAround 21 = .ok (.invokevirtual 67, 3) := by decide +kernel
theorem dX0_touchAround_24 : decode cX0_touchAround 24 = .ok (.aload_n 0, 1) := by decide +kernel
theorem dX0_touchAround_25 : decode cX0_touchAround 25 = .ok (.iload_n 1, 1) := by decide +kernel
theorem dX0_touchAround_26 : decode cX0_touchAround 26 = .ok (.iload_n 2, 1) := by decide +kernel
theorem dX0_touchAround_27 : decode cX0_touchAround 27 = .ok (.iconst 1, 1) := by decide +kernel
theorem dX0_touchAround_28 : decode cX0_touchAround 28 = .ok (.iadd, 1) := by decide +kernel
theorem dX0_touchAround_29 : decode cX0_touchAround 29 = .ok (.invokevirtual 67, 3) := by decide +kernel
theorem dX0_touchAround_32 : decode cX0_touchAround 32 = .ok (.return_, 1) := by decide +kernel
theorem dX0_touch_0 : decode cX0_touch 0 = .ok (.aload_n 0, 1) := by decide +kernel
theorem dX0_touch_1 : decode cX0_touch 1 = .ok (.iload_n 1, 1) := by decide +kernel
theorem dX0_touch_2 : decode cX0_touch 2 = .ok (.iload_n 2, 1) := by decide +kernel
theorem dX0_touch_3 : decode cX0_touch 3 = .ok (.invokevirtual 70, 3) := by decide +kernel
theorem dX0_touch_6 : decode cX0_touch 6 = .ok (.istore_n 3, 1) := by decide +kernel
theorem dX0_touch_7 : decode cX0_touch 7 = .ok (.aload_n 0, 1) := by decide +kernel
theorem dX0_touch_8 : decode cX0_touch 8 = .ok (.iload_n 3, 1) := by decide +kernel
theorem dX0_touch_9 : decode cX0_touch 9 = .ok (.invokevirtual 74, 3) := by decide +kernel
theorem dX0_touch_12 : decode cX0_touch 12 = .ok (.ifCond .eq 10, 3) := by decide +kernel
theorem dX0_touch_15 : decode cX0_touch 15 = .ok (.aload_n 0, 1) := by decide +kernel
theorem dX0_touch_16 : decode cX0_touch 16 = .ok (.getfield 27, 3) := by decide +kernel
theorem dX0_touch_19 : decode cX0_touch 19 = .ok (.iload_n 3, 1) := by decide +kernel
theorem dX0_touch_20 : decode cX0_touch 20 = .ok (.iconst 1, 1) := by decide +kernel
theorem dX0_touch_21 : decode cX0_touch 21 = .ok (.bastore, 1) := by decide +kernel
theorem dX0_touch_22 : decode cX0_touch 22 = .ok (.return_, 1) := by decide +kernel
theorem dX0_inWindow_0 : decode cX0_inWindow 0 = .ok (.iconst 0, 1) := by decide +kernel
theorem dX0_inWindow_1 : decode cX0_inWindow 1 = .ok (.istore 5, 2) := by decide +kernel
theorem dX0_inWindow_3 : decode cX0_inWindow 3 = .ok (.iconst 0, 1) := by decide +kernel
theorem dX0_inWindow_4 : decode cX0_inWindow 4 = .ok (.istore 6, 2) := by decide +kernel
theorem dX0_inWindow_6 : decode cX0_inWindow 6 = .ok (.iload 6, 2) := by decide +kernel
theorem dX0_inWindow_8 : decode cX0_inWindow 8 = .ok (.aload_n 0, 1) := by decide +kernel
theorem dX0_inWindow_9 : decode cX0_inWindow 9 = .ok (.getfield 44, 3) := by decide +kernel
theorem dX0_inWindow_12 : decode cX0_inWindow 12 = .ok (.if_icmp .ge 92, 3) := by decide +kernel
theorem dX0_inWindow_15 : decode cX0_inWindow 15 = .ok (.aload_n 0, 1) := by decide +kernel
theorem dX0_inWindow_16 : decode cX0_inWindow 16 = .ok (.getfield 21, 3) := by decide +kernel
theorem dX0_inWindow_19 : decode cX0_inWindow 19 = .ok (.iload 6, 2) := by decide +kernel
theorem dX0_inWindow_21 : decode cX0_inWindow 21 = .ok (.iaload, 1) := by decide +kernel
theorem dX0_inWindow_22 : decode cX0_inWindow 22 = .ok (.iload_n 1, 1) := by decide +kernel
theorem dX0_inWindow_23 : decode cX0_inWindow 23 = .ok (.if_icmp .lt 20, 3) := by decide +kernel
theorem dX0_inWindow_26 : decode cX0_inWindow 26 = .ok (.aload_n 0, 1) := by decide +kernel
theorem dX0_inWindow_27 : decode cX0_inWindow 27 = .ok (.getfield 21, 3) := by decide +kernel
theorem dX0_inWindow_30 : decode cX0_inWindow 30 = .ok (.iload 6, 2) := by decide +kernel
theorem dX0_inWindow_32 : decode cX0_inWindow 32 = .ok (.iaload, 1) := by decide +kernel
theorem dX0_inWindow_33 : decode cX0_inWindow 33 = .ok (.iconst 1, 1) := by decide +kernel
theorem dX0_inWindow_34 : decode cX0_inWindow 34 = .ok (.iadd, 1) := by decide +kernel
theorem dX0_inWindow_35 : decode cX0_inWindow 35 = .ok (.iload_n 2, 1) := by decide +kernel
theorem dX0_inWindow_36 : decode cX0_inWindow 36 = .ok (.if_icmp .gt 7, 3) := by decide +kernel
theorem dX0_inWindow_39 : decode cX0_inWindow 39 = .ok (.iconst 1, 1) := by decide +kernel
theorem dX0_inWindow_40 : decode cX0_inWindow 40 = .ok (.goto 4, 3) := by decide +kernel
theorem dX0_inWindow_43 : decode cX0_inWindow 43 = .ok (.iconst 0, 1) := by decide +kernel
theorem dX0_inWindow_44 : decode cX0_inWindow 44 = .ok (.istore 7, 2) := by decide +kernel
theorem dX0_inWindow_46 : decode cX0_inWindow 46 = .ok (.aload_n 0, 1) := by decide +kernel
theorem dX0_inWindow_47 : decode cX0_inWindow 47 = .ok (.getfield 24, 3) := by decide +kernel
theorem dX0_inWindow_50 : decode cX0_inWindow 50 = .ok (.iload 6, 2) := by decide +kernel
theorem dX0_inWindow_52 : decode cX0_inWindow 52 = .ok (.iaload, 1) := by decide +kernel
theorem dX0_inWindow_53 : decode cX0_inWindow 53 = .ok (.iload_n 3, 1) := by decide +kernel
theorem dX0_inWindow_54 : decode cX0_inWindow 54 = .ok (.if_icmp .lt 21, 3) := by decide +kernel
theorem dX0_inWindow_57 : decode cX0_inWindow 57 = .ok (.aload_n 0, 1) := by decide +kernel
theorem dX0_inWindow_58 : decode cX0_inWindow 58 = .ok (.getfield 24, 3) := by decide +kernel
theorem dX0_inWindow_61 : decode cX0_inWindow 61 = .ok (.iload 6, 2) := by decide +kernel
theorem dX0_inWindow_63 : decode cX0_inWindow 63 = .ok (.iaload, 1) := by decide +kernel
theorem dX0_inWindow_64 : decode cX0_inWindow 64 = .ok (.iconst 1, 1) := by decide +kernel
theorem dX0_inWindow_65 : decode cX0_inWindow 65 = .ok (.iadd, 1) := by decide +kernel
theorem dX0_inWindow_66 : decode cX0_inWindow 66 = .ok (.iload 4, 2) := by decide +kernel
theorem dX0_inWindow_68 : decode cX0_inWindow 68 = .ok (.if_icmp .gt 7, 3) := by decide +kernel
theorem dX0_inWindow_71 : decode cX0_inWindow 71 = .ok (.iconst 1, 1) := by decide +kernel
theorem dX0_inWindow_72 : decode cX0_inWindow 72 = .ok (.goto 4, 3) := by decide +kernel
theorem dX0_inWindow_75 : decode cX0_inWindow 75 = .ok (.iconst 0, 1) := by decide +kernel
theorem dX0_inWindow_76 : decode cX0_inWindow 76 = .ok (.istore 8, 2) := by decide +kernel
theorem dX0_inWindow_78 : decode cX0_inWindow 78 = .ok (.iload 5, 2) := by decide +kernel
theorem dX0_inWindow_80 : decode cX0_inWindow 80 = .ok (.iload 7, 2) := by decide +kernel
theorem dX0_inWindow_82 : decode cX0_inWindow 82 = .ok (.ifCond .eq 12, 3) := by decide +kernel
theorem dX0_inWindow_85 : decode cX0_inWindow 85 = .ok (.iload 8, 2) := by decide +kernel
theorem dX0_inWindow_87 : decode cX0_inWindow 87 = .ok (.ifCond .eq 7, 3) := by decide +kernel
theorem dX0_inWindow_90 : decode cX0_inWindow 90 = .ok (.iconst 1, 1) := by decide +kernel
theorem dX0_inWindow_91 : decode cX0_inWindow 91 = .ok (.goto 4, 3) := by decide +kernel
theorem dX0_inWindow_94 : decode cX0_inWindow 94 = .ok (.iconst 0, 1) := by decide +kernel
theorem dX0_inWindow_95 : decode cX0_inWindow 95 = .ok (.iadd, 1) := by decide +kernel
theorem dX0_inWindow_96 : decode cX0_inWindow 96 = .ok (.istore 5, 2) := by decide +kernel
theorem dX0_inWindow_98 : decode cX0_inWindow 98 = .ok (.iinc 6 1, 3) := by decide +kernel
theorem dX0_inWindow_101 : decode cX0_inWindow 101 = .ok (.goto (-95), 3) := by decide +kernel
theorem dX0_inWindow_104 : decode cX0_inWindow 104 = .ok (.iload 5, 2) := by decide +kernel
theorem dX0_inWindow_106 : decode cX0_inWindow 106 = .ok (.ireturn, 1) := by decide +kernel
theorem dX0_atBorder_0 : decode cX0_atBorder 0 = .ok (.aload_n 0, 1) := by decide +kernel
theorem dX0_atBorder_1 : decode cX0_atBorder 1 = .ok (.getfield 44, 3) := by decide +kernel
theorem dX0_atBorder_4 : decode cX0_atBorder 4 = .ok (.aload_n 0, 1) := by decide +kernel
theorem dX0_atBorder_5 : decode cX0_atBorder 5 = .ok (.iconst 1, 1) := by decide +kernel
theorem dX0_atBorder_6 : decode cX0_atBorder 6 = .ok (.aload_n 0, 1) := by decide +kernel
theorem dX0_atBorder_7 : decode cX0_atBorder 7 = .ok (.getfield 35, 3) := by decide +kernel
theorem dX0_atBorder_10 : decode cX0_atBorder 10 = .ok (.iconst 2, 1) := by decide +kernel
theorem dX0_atBorder_11 : decode cX0_atBorder 11 = .ok (.isub, 1) := by decide +kernel
theorem dX0_atBorder_12 : decode cX0_atBorder 12 = .ok (.iconst 1, 1) := by decide +kernel
theorem dX0_atBorder_13 : decode cX0_atBorder 13 = .ok (.aload_n 0, 1) := by decide +kernel
theorem dX0_atBorder_14 : decode cX0_atBorder 14 = .ok (.getfield 35, 3) := by decide +kernel
theorem dX0_atBorder_17 : decode cX0_atBorder 17 = .ok (.iconst 2, 1) := by decide +kernel
theorem dX0_atBorder_18 : decode cX0_atBorder 18 = .ok (.isub, 1) := by decide +kernel
theorem dX0_atBorder_19 : decode cX0_atBorder 19 = .ok (.invokevirtual 78, 3) := by decide +kernel
theorem dX0_atBorder_22 : decode cX0_atBorder 22 = .ok (.isub, 1) := by decide +kernel
theorem dX0_atBorder_23 : decode cX0_atBorder 23 = .ok (.ireturn, 1) := by decide +kernel
theorem dX0_lyingIn_0 : decode cX0_lyingIn 0 = .ok (.iconst 0, 1) := by decide +kernel
theorem dX0_lyingIn_1 : decode cX0_lyingIn 1 = .ok (.istore_n 2, 1) := by decide +kernel
theorem dX0_lyingIn_2 : decode cX0_lyingIn 2 = .ok (.iconst 0, 1) := by decide +kernel
theorem dX0_lyingIn_3 : decode cX0_lyingIn 3 = .ok (.istore_n 3, 1) := by decide +kernel
theorem dX0_lyingIn_4 : decode cX0_lyingIn 4 = .ok (.iload_n 3, 1) := by decide +kernel
theorem dX0_lyingIn_5 : decode cX0_lyingIn 5 = .ok (.aload_n 0, 1) := by decide +kernel
theorem dX0_lyingIn_6 : decode cX0_lyingIn 6 = .ok (.getfield 44, 3) := by decide +kernel
theorem dX0_lyingIn_9 : decode cX0_lyingIn 9 = .ok (.if_icmp .ge 27, 3) := by decide +kernel
theorem dX0_lyingIn_12 : decode cX0_lyingIn 12 = .ok (.iload_n 2, 1) := by decide +kernel
theorem dX0_lyingIn_13 : decode cX0_lyingIn 13 = .ok (.aload_n 0, 1) := by decide +kernel
theorem dX0_lyingIn_14 : decode cX0_lyingIn 14 = .ok (.getfield 15, 3) := by decide +kernel
theorem dX0_lyingIn_17 : decode cX0_lyingIn 17 = .ok (.iload_n 3, 1) := by decide +kernel
theorem dX0_lyingIn_18 : decode cX0_lyingIn 18 = .ok (.iaload, 1) := by decide +kernel
theorem dX0_lyingIn_19 : decode cX0_lyingIn 19 = .ok (.iload_n 1, 1) := by decide +kernel
theorem dX0_lyingIn_20 : decode cX0_lyingIn 20 = .ok (.if_icmp .ne 7, 3) := by decide +kernel
theorem dX0_lyingIn_23 : decode cX0_lyingIn 23 = .ok (.iconst 1, 1) := by decide +kernel
theorem dX0_lyingIn_24 : decode cX0_lyingIn 24 = .ok (.goto 4, 3) := by decide +kernel
theorem dX0_lyingIn_27 : decode cX0_lyingIn 27 = .ok (.iconst 0, 1) := by decide +kernel
theorem dX0_lyingIn_28 : decode cX0_lyingIn 28 = .ok (.iadd, 1) := by decide +kernel
theorem dX0_lyingIn_29 : decode cX0_lyingIn 29 = .ok (.istore_n 2, 1) := by decide +kernel
theorem dX0_lyingIn_30 : decode cX0_lyingIn 30 = .ok (.iinc 3 1, 3) := by decide +kernel
theorem dX0_lyingIn_33 : decode cX0_lyingIn 33 = .ok (.goto (-29), 3) := by decide +kernel
theorem dX0_lyingIn_36 : decode cX0_lyingIn 36 = .ok (.iload_n 2, 1) := by decide +kernel
theorem dX0_lyingIn_37 : decode cX0_lyingIn 37 = .ok (.ireturn, 1) := by decide +kernel
theorem dX0_likelihood_0 : decode cX0_likelihood 0 = .ok (.aload_n 0, 1) := by decide +kernel
theorem dX0_likelihood_1 : decode cX0_likelihood 1 = .ok (.getfield 44, 3) := by decide +kernel
theorem dX0_likelihood_4 : decode cX0_likelihood 4 = .ok (.ifCond .ne 11, 3) := by decide +kernel
theorem dX0_likelihood_7 : decode cX0_likelihood 7 = .ok (.lconst 0, 1) := by decide +kernel
theorem dX0_likelihood_8 : decode cX0_likelihood 8 = .ok (.lconst 1, 1) := by decide +kernel
theorem dX0_likelihood_9 : decode cX0_likelihood 9 = .ok (.invokestatic 82, 3) := by decide +kernel
theorem dX0_likelihood_12 : decode cX0_likelihood 12 = .ok (.goto 17, 3) := by decide +kernel
theorem dX0_likelihood_15 : decode cX0_likelihood 15 = .ok (.aload_n 0, 1) := by decide +kernel
theorem dX0_likelihood_16 : decode cX0_likelihood 16 = .ok (.iload_n 1, 1) := by decide +kernel
theorem dX0_likelihood_17 : decode cX0_likelihood 17 = .ok (.invokevirtual 88, 3) := by decide +kernel
theorem dX0_likelihood_20 : decode cX0_likelihood 20 = .ok (.i2l, 1) := by decide +kernel
theorem dX0_likelihood_21 : decode cX0_likelihood 21 = .ok (.aload_n 0, 1) := by decide +kernel
theorem dX0_likelihood_22 : decode cX0_likelihood 22 = .ok (.getfield 44, 3) := by decide +kernel
theorem dX0_likelihood_25 : decode cX0_likelihood 25 = .ok (.i2l, 1) := by decide +kernel
theorem dX0_likelihood_26 : decode cX0_likelihood 26 = .ok (.invokestatic 82, 3) := by decide +kernel
theorem dX0_likelihood_29 : decode cX0_likelihood 29 = .ok (.areturn, 1) := by decide +kernel
theorem dX1_intBits_0 : decode cX1_intBits 0 = .ok (.fload_n 0, 1) := by decide +kernel
theorem dX1_intBits_1 : decode cX1_intBits 1 = .ok (.fconst 0, 1) := by decide +kernel
theorem dX1_intBits_2 : decode cX1_intBits 2 = .ok (.fcmp .g, 1) := by decide +kernel
theorem dX1_intBits_3 : decode cX1_intBits 3 = .ok (.ifCond .gt 5, 3) := by decide +kernel
theorem dX1_intBits_6 : decode cX1_intBits 6 = .ok (.iconst 0, 1) := by decide +kernel
theorem dX1_intBits_7 : decode cX1_intBits 7 = .ok (.ireturn, 1) := by decide +kernel
theorem dX1_intBits_8 : decode cX1_intBits 8 = .ok (.fload_n 0, 1) := by decide +kernel
theorem dX1_intBits_9 : decode cX1_intBits 9 = .ok (.fstore_n 1, 1) := by decide +kernel
theorem dX1_intBits_10 : decode cX1_intBits 10 = .ok (.bipush 127, 2) := by decide +kernel
theorem dX1_intBits_12 : decode cX1_intBits 12 = .ok (.istore_n 2, 1) := by decide +kernel
theorem dX1_intBits_13 : decode cX1_intBits 13 = .ok (.iconst 0, 1) := by decide +kernel
theorem dX1_intBits_14 : decode cX1_intBits 14 = .ok (.istore_n 3, 1) := by decide +kernel
theorem dX1_intBits_15 : decode cX1_intBits 15 = .ok (.iload_n 3, 1) := by decide +kernel
theorem dX1_intBits_16 : decode cX1_intBits 16 = .ok (.sipush 1100, 3) := by decide +kernel
theorem dX1_intBits_19 : decode cX1_intBits 19 = .ok (.if_icmp .ge 23, 3) := by decide +kernel
theorem dX1_intBits_22 : decode cX1_intBits 22 = .ok (.fload_n 1, 1) := by decide +kernel
theorem dX1_intBits_23 : decode cX1_intBits 23 = .ok (.fconst 2, 1) := by decide +kernel
theorem dX1_intBits_24 : decode cX1_intBits 24 = .ok (.fcmp .l, 1) := by decide +kernel
theorem dX1_intBits_25 : decode cX1_intBits 25 = .ok (.ifCond .lt 17, 3) := by decide +kernel
theorem dX1_intBits_28 : decode cX1_intBits 28 = .ok (.fload_n 1, 1) := by decide +kernel
theorem dX1_intBits_29 : decode cX1_intBits 29 = .ok (.ldc 9, 2) := by decide +kernel
theorem dX1_intBits_31 : decode cX1_intBits 31 = .ok (.fmul, 1) := by decide +kernel
theorem dX1_intBits_32 : decode cX1_intBits 32 = .ok (.fstore_n 1, 1) := by decide +kernel
theorem dX1_intBits_33 : decode cX1_intBits 33 = .ok (.iinc 2 1, 3) := by decide +kernel
theorem dX1_intBits_36 : decode cX1_intBits 36 = .ok (.iinc 3 1, 3) := by decide +kernel
theorem dX1_intBits_39 : decode cX1_intBits 39 = .ok (.goto (-24), 3) := by decide +kernel
theorem dX1_intBits_42 : decode cX1_intBits 42 = .ok (.iconst 0, 1) := by decide +kernel
theorem dX1_intBits_43 : decode cX1_intBits 43 = .ok (.istore_n 3, 1) := by decide +kernel
theorem dX1_intBits_44 : decode cX1_intBits 44 = .ok (.iload_n 3, 1) := by decide +kernel
theorem dX1_intBits_45 : decode cX1_intBits 45 = .ok (.sipush 1100, 3) := by decide +kernel
theorem dX1_intBits_48 : decode cX1_intBits 48 = .ok (.if_icmp .ge 22, 3) := by decide +kernel
theorem dX1_intBits_51 : decode cX1_intBits 51 = .ok (.fload_n 1, 1) := by decide +kernel
theorem dX1_intBits_52 : decode cX1_intBits 52 = .ok (.fconst 1, 1) := by decide +kernel
theorem dX1_intBits_53 : decode cX1_intBits 53 = .ok (.fcmp .g, 1) := by decide +kernel
theorem dX1_intBits_54 : decode cX1_intBits 54 = .ok (.ifCond .ge 16, 3) := by decide +kernel
theorem dX1_intBits_57 : decode cX1_intBits 57 = .ok (.fload_n 1, 1) := by decide +kernel
theorem dX1_intBits_58 : decode cX1_intBits 58 = .ok (.fconst 2, 1) := by decide +kernel
theorem dX1_intBits_59 : decode cX1_intBits 59 = .ok (.fmul, 1) := by decide +kernel
theorem dX1_intBits_60 : decode cX1_intBits 60 = .ok (.fstore_n 1, 1) := by decide +kernel
theorem dX1_intBits_61 : decode cX1_intBits 61 = .ok (.iinc 2 (-1), 3) := by decide +kernel
theorem dX1_intBits_64 : decode cX1_intBits 64 = .ok (.iinc 3 1, 3) := by decide +kernel
theorem dX1_intBits_67 : decode cX1_intBits 67 = .ok (.goto (-23), 3) := by decide +kernel
theorem dX1_intBits_70 : decode cX1_intBits 70 = .ok (.iload_n 2, 1) := by decide +kernel
theorem dX1_intBits_71 : decode cX1_intBits 71 = .ok (.bipush 23, 2) := by decide +kernel
theorem dX1_intBits_73 : decode cX1_intBits 73 = .ok (.ishl, 1) := by decide +kernel
theorem dX1_intBits_74 : decode cX1_intBits 74 = .ok (.fload_n 1, 1) := by decide +kernel
theorem dX1_intBits_75 : decode cX1_intBits 75 = .ok (.fconst 1, 1) := by decide +kernel
theorem dX1_intBits_76 : decode cX1_intBits 76 = .ok (.fsub, 1) := by decide +kernel
theorem dX1_intBits_77 : decode cX1_intBits 77 = .ok (.ldc 10, 2) := by decide +kernel
theorem dX1_intBits_79 : decode cX1_intBits 79 = .ok (.fmul, 1) := by decide +kernel
theorem dX1_intBits_80 : decode cX1_intBits 80 = .ok (.f2i, 1) := by decide +kernel
theorem dX1_intBits_81 : decode cX1_intBits 81 = .ok (.iadd, 1) := by decide +kernel
theorem dX1_intBits_82 : decode cX1_intBits 82 = .ok (.ireturn, 1) := by decide +kernel
theorem dX1_longBitsOfDouble_0 : decode cX1_longBitsOfDouble 0 = .ok (.dload_n 0, 1) := by decide +kernel
theorem dX1_longBitsOfDouble_1 : decode cX1_longBitsOfDouble 1 = .ok (.dconst 0, 1) := by decide +kernel
theorem dX1_longBitsOfDouble_2 : decode cX1_longBitsOfDouble 2 = .ok (.dcmp .g, 1) := by decide +kernel
theorem dX1_longBitsOfDouble_3 : decode cX1_longBitsOfDouble 3 = .ok (.ifCond .gt 5, 3) := by decide +kernel
theorem dX1_longBitsOfDouble_6 : decode cX1_longBitsOfDouble 6 = .ok (.lconst 0, 1) := by decide +kernel
theorem dX1_longBitsOfDouble_7 : decode cX1_longBitsOfDouble 7 = .ok (.lreturn, 1) := by decide +kernel
theorem dX1_longBitsOfDouble_8 : decode cX1_longBitsOfDouble 8 = .ok (.dload_n 0, 1) := by decide +kernel
theorem dX1_longBitsOfDouble_9 : decode cX1_longBitsOfDouble 9 = .ok (.dstore_n 2, 1) := by decide +kernel
theorem dX1_longBitsOfDouble_10 : decode cX1_longBitsOfDouble 10 = .ok (.ldc2_w 11, 3) := by decide +kernel
theorem dX1_longBitsOfDouble_13 : decode cX1_longBitsOfDouble 13 = .ok (.lstore 4, 2) := by decide +kernel
theorem dX1_longBitsOfDouble_15 : decode cX1_longBitsOfDouble 15 = .ok (.iconst 0, 1) := by decide +kernel
theorem dX1_longBitsOfDouble_16 : decode cX1_longBitsOfDouble 16 = .ok (.istore 6, 2) := by decide +kernel
theorem dX1_longBitsOfDouble_18 : decode cX1_longBitsOfDouble 18 = .ok (.iload 6, 2) := by decide +kernel
theorem dX1_longBitsOfDouble_20 : decode cX1_longBitsOfDouble 20 = .ok (.sipush 1100, 3) := by decide +kernel
theorem dX1_longBitsOfDouble_23 : decode cX1_longBitsOfDouble 23 = .ok (.if_icmp .ge 29, 3) := by decide +kernel
theorem dX1_longBitsOfDouble_26 : decode cX1_longBitsOfDouble 26 = .ok (.dload_n 2, 1) := by decide +kernel
theorem dX1_longBitsOfDouble_27 : decode cX1_longBitsOfDouble 27 = .ok (.ldc2_w 13, 3) := by decide +kernel
theorem dX1_longBitsOfDouble_30 : decode cX1_longBitsOfDouble 30 = .ok (.dcmp .l, 1) := by decide +kernel
theorem dX1_longBitsOfDouble_31 : decode cX1_longBitsOfDouble 31 = .ok (.ifCond .lt 21, 3) := by decide +kernel
theorem dX1_longBitsOfDouble_34 : decode cX1_longBitsOfDouble 34 = .ok (.dload_n 2, 1) := by decide +kernel
theorem dX1_longBitsOfDouble_35 : decode cX1_longBitsOfDouble 35 = .ok (.ldc2_w 15, 3) := by decide +kernel
theorem dX1_longBitsOfDouble_38 : decode cX1_longBitsOfDouble 38 = .ok (.dmul, 1) := by decide +kernel
theorem dX1_longBitsOfDouble_39 : decode cX1_longBitsOfDouble 39 = .ok (.dstore_n 2, 1) := by decide +kernel
theorem dX1_longBitsOfDouble_40 : decode cX1_longBitsOfDouble 40 = .ok (.lload 4, 2) := by decide +kernel
theorem dX1_longBitsOfDouble_42 : decode cX1_longBitsOfDouble 42 = .ok (.lconst 1, 1) := by decide +kernel
theorem dX1_longBitsOfDouble_43 : decode cX1_longBitsOfDouble 43 = .ok (.ladd, 1) := by decide +kernel
theorem dX1_longBitsOfDouble_44 : decode cX1_longBitsOfDouble 44 = .ok (.lstore 4, 2) := by decide +kernel
theorem dX1_longBitsOfDouble_46 : decode cX1_longBitsOfDouble 46 = .ok (.iinc 6 1, 3) := by decide +kernel
theorem dX1_longBitsOfDouble_49 : decode cX1_longBitsOfDouble 49 = .ok (.goto (-31), 3) := by decide +kernel
theorem dX1_longBitsOfDouble_52 : decode cX1_longBitsOfDouble 52 = .ok (.iconst 0, 1) := by decide +kernel
theorem dX1_longBitsOfDouble_53 : decode cX1_longBitsOfDouble 53 = .ok (.istore 6, 2) := by decide +kernel
theorem dX1_longBitsOfDouble_55 : decode cX1_longBitsOfDouble 55 = .ok (.iload 6, 2) := by decide +kernel
theorem dX1_longBitsOfDouble_57 : decode cX1_longBitsOfDouble 57 = .ok (.sipush 1100, 3) := by decide +kernel
theorem dX1_longBitsOfDouble_60 : decode cX1_longBitsOfDouble 60 = .ok (.if_icmp .ge 27, 3) := by decide +kernel
theorem dX1_longBitsOfDouble_63 : decode cX1_longBitsOfDouble 63 = .ok (.dload_n 2, 1) := by decide +kernel
theorem dX1_longBitsOfDouble_64 : decode cX1_longBitsOfDouble 64 = .ok (.dconst 1, 1) := by decide +kernel
theorem dX1_longBitsOfDouble_65 : decode cX1_longBitsOfDouble 65 = .ok (.dcmp .g, 1) := by decide +kernel
theorem dX1_longBitsOfDouble_66 : decode cX1_longBitsOfDouble 66 = .ok (.ifCond .ge 21, 3) := by decide +kernel
theorem dX1_longBitsOfDouble_69 : decode cX1_longBitsOfDouble 69 = .ok (.dload_n 2, 1) := by decide +kernel
theorem dX1_longBitsOfDouble_70 : decode cX1_longBitsOfDouble 70 = .ok (.ldc2_w 13, 3) := by decide +kernel
theorem dX1_longBitsOfDouble_73 : decode cX1_longBitsOfDouble 73 = .ok (.dmul, 1) := by decide +kernel
theorem dX1_longBitsOfDouble_74 : decode cX1_longBitsOfDouble 74 = .ok (.dstore_n 2, 1) := by decide +kernel
theorem dX1_longBitsOfDouble_75 : decode cX1_longBitsOfDouble 75 = .ok (.lload 4, 2) := by decide +kernel
theorem dX1_longBitsOfDouble_77 : decode cX1_longBitsOfDouble 77 = .ok (.lconst 1, 1) := by decide +kernel
theorem dX1_longBitsOfDouble_78 : decode cX1_longBitsOfDouble 78 = .ok (.lsub, 1) := by decide +kernel
theorem dX1_longBitsOfDouble_79 : decode cX1_longBitsOfDouble 79 = .ok (.lstore 4, 2) := by decide +kernel
theorem dX1_longBitsOfDouble_81 : decode cX1_longBitsOfDouble 81 = .ok (.iinc 6 1, 3) := by decide +kernel
theorem dX1_longBitsOfDouble_84 : decode cX1_longBitsOfDouble 84 = .ok (.goto (-29), 3) := by decide +kernel
theorem dX1_longBitsOfDouble_87 : decode cX1_longBitsOfDouble 87 = .ok (.lload 4, 2) := by decide +kernel
theorem dX1_longBitsOfDouble_89 : decode cX1_longBitsOfDouble 89 = .ok (.bipush 52, 2) := by decide +kernel
theorem dX1_longBitsOfDouble_91 : decode cX1_longBitsOfDouble 91 = .ok (.lshl, 1) := by decide +kernel
theorem dX1_longBitsOfDouble_92 : decode cX1_longBitsOfDouble 92 = .ok (.dload_n 2, 1) := by decide +kernel
theorem dX1_longBitsOfDouble_93 : decode cX1_longBitsOfDouble 93 = .ok (.dconst 1, 1) := by decide +kernel
theorem dX1_longBitsOfDouble_94 : decode cX1_longBitsOfDouble 94 = .ok (.dsub, 1) := by decide +kernel
theorem dX1_longBitsOfDouble_95 : decode cX1_longBitsOfDouble 95 = .ok (.ldc2_w 17, 3) := by decide +kernel
theorem dX1_longBitsOfDouble_98 : decode cX1_longBitsOfDouble 98 = .ok (.dmul, 1) := by decide +kernel
theorem dX1_longBitsOfDouble_99 : decode cX1_longBitsOfDouble 99 = .ok (.d2l, 1) := by decide +kernel
theorem dX1_longBitsOfDouble_100 : decode cX1_longBitsOfDouble 100 = .ok (.ladd, 1) := by decide +kernel
theorem dX1_longBitsOfDouble_101 : decode cX1_longBitsOfDouble 101 = .ok (.lreturn, 1) := by decide +kernel
theorem dX2_init_0 : decode cX2_init 0 = .ok (.aload_n 0, 1) := by decide +kernel
theorem dX2_init_1 : decode cX2_init 1 = .ok (.invokespecial 1, 3) := by decide +kernel
theorem dX2_init_4 : decode cX2_init 4 = .ok (.aload_n 0, 1) := by decide +kernel
theorem dX2_init_5 : decode cX2_init 5 = .ok (.lload_n 1, 1) := by decide +kernel
theorem dX2_init_6 : decode cX2_init 6 = .ok (.putfield 7, 3) := by decide +kernel
theorem dX2_init_9 : decode cX2_init 9 = .ok (.aload_n 0, 1) := by decide +kernel
theorem dX2_init_10 : decode cX2_init 10 = .ok (.lload_n 3, 1) := by decide +kernel
theorem dX2_init_11 : decode cX2_init 11 = .ok (.putfield 13, 3) := by decide +kernel
theorem dX2_init_14 : decode cX2_init 14 = .ok (.return_, 1) := by decide +kernel
theorem dX2_inLeastTerms_0 : decode cX2_inLeastTerms 0 = .ok (.lload_n 0, 1) := by decide +kernel
theorem dX2_inLeastTerms_1 : decode cX2_inLeastTerms 1 = .ok (.invokestatic 16, 3) := by decide +kernel
theorem dX2_inLeastTerms_4 : decode cX2_inLeastTerms 4 = .ok (.lload_n 2, 1) := by decide +kernel
theorem dX2_inLeastTerms_5 : decode cX2_inLeastTerms 5 = .ok (.invokestatic 22, 3) := by decide +kernel
theorem dX2_inLeastTerms_8 : decode cX2_inLeastTerms 8 = .ok (.lstore 4, 2) := by decide +kernel
theorem dX2_inLeastTerms_10 : decode cX2_inLeastTerms 10 = .ok (.lload 4, 2) := by decide +kernel
theorem dX2_inLeastTerms_12 : decode cX2_inLeastTerms 12 = .ok (.lconst 1, 1) := by decide +kernel
theorem dX2_inLeastTerms_13 : decode cX2_inLeastTerms 13 = .ok (.lcmp, 1) := by decide +kernel
theorem dX2_inLeastTerms_14 : decode cX2_inLeastTerms 14 = .ok (.ifCond .le 21, 3) := by decide +kernel
theorem dX2_inLeastTerms_17 : decode cX2_inLeastTerms 17 = .ok (.new 8, 3) := by decide +kernel
theorem dX2_inLeastTerms_20 : decode cX2_inLeastTerms 20 = .ok (.dup, 1) := by decide +kernel
theorem dX2_inLeastTerms_21 : decode cX2_inLeastTerms 21 = .ok (.lload_n 0, 1) := by decide +kernel
theorem dX2_inLeastTerms_22 : decode cX2_inLeastTerms 22 = .ok (.lload 4, 2) := by decide +kernel
theorem dX2_inLeastTerms_24 : decode cX2_inLeastTerms 24 = .ok (.ldiv, 1) := by decide +kernel
theorem dX2_inLeastTerms_25 : decode cX2_inLeastTerms 25 = .ok (.lload_n 2, 1) := by decide +kernel
theorem dX2_inLeastTerms_26 : decode cX2_inLeastTerms 26 = .ok (.lload 4, 2) := by decide +kernel
theorem dX2_inLeastTerms_28 : decode cX2_inLeastTerms 28 = .ok (.ldiv, 1) := by decide +kernel
theorem dX2_inLeastTerms_29 : decode cX2_inLeastTerms 29 = .ok (.invokespecial 26, 3) := by decide +kernel
theorem dX2_inLeastTerms_32 : decode cX2_inLeastTerms 32 = .ok (.goto 12, 3) := by decide +kernel
theorem dX2_inLeastTerms_35 : decode cX2_inLeastTerms 35 = .ok (.new 8, 3) := by decide +kernel
theorem dX2_inLeastTerms_38 : decode cX2_inLeastTerms 38 = .ok (.dup, 1) := by decide +kernel
theorem dX2_inLeastTerms_39 : decode cX2_inLeastTerms 39 = .ok (.lload_n 0, 1) := by decide +kernel
theorem dX2_inLeastTerms_40 : decode cX2_inLeastTerms 40 = .ok (.lload_n 2, 1) := by decide +kernel
theorem dX2_inLeastTerms_41 : decode cX2_inLeastTerms 41 = .ok (.invokespecial 26, 3) := by decide +kernel
theorem dX2_inLeastTerms_44 : decode cX2_inLeastTerms 44 = .ok (.areturn, 1) := by decide +kernel
theorem dX2_greatestDivisor_0 : decode cX2_greatestDivisor 0 = .ok (.lload_n 0, 1) := by decide +kernel
theorem dX2_greatestDivisor_1 : decode cX2_greatestDivisor 1 = .ok (.lstore 4, 2) := by decide +kernel
theorem dX2_greatestDivisor_3 : decode cX2_greatestDivisor 3 = .ok (.lload_n 2, 1) := by decide +kernel
theorem dX2_greatestDivisor_4 : decode cX2_greatestDivisor 4 = .ok (.lstore 6, 2) := by decide +kernel
theorem dX2_greatestDivisor_6 : decode cX2_greatestDivisor 6 = .ok (.iconst 0, 1) := by decide +kernel
theorem dX2_greatestDivisor_7 : decode cX2_greatestDivisor 7 = .ok (.istore 8, 2) := by decide +kernel
theorem dX2_greatestDivisor_9 : decode cX2_greatestDivisor 9 = .ok (.iload 8, 2) := by decide +kernel
theorem dX2_greatestDivisor_11 : decode cX2_greatestDivisor 11 = .ok (.sipush 200, 3) := by decide +kernel
theorem dX2_greatestDivisor_14 : decode cX2_greatestDivisor 14 = .ok (.if_icmp .ge 31, 3) := by decide +kernel
theorem dX2_greatestDivisor_17 : decode cX2_greatestDivisor 17 = .ok (.lload 6, 2) := by decide +kernel
theorem dX2_greatestDivisor_19 : decode cX2_greatestDivisor 19 = .ok (.lconst 0, 1) := by decide +kernel
theorem dX2_greatestDivisor_20 : decode cX2_greatestDivisor 20 = .ok (.lcmp, 1) := by decide +kernel
theorem dX2_greatestDivisor_21 : decode cX2_greatestDivisor 21 = .ok (.ifCond .eq 24, 3) := by decide +kernel
theorem dX2_greatestDivisor_24 : decode cX2_greatestDivisor 24 = .ok (.lload 4, 2) := by decide +kernel
theorem dX2_greatestDivisor_26 : decode cX2_greatestDivisor 26 = .ok (.lload 6, 2) := by decide +kernel
theorem dX2_greatestDivisor_28 : decode cX2_greatestDivisor 28 = .ok (.lrem, 1) := by decide +kernel
theorem dX2_greatestDivisor_29 : decode cX2_greatestDivisor 29 = .ok (.lstore 9, 2) := by decide +kernel
theorem dX2_greatestDivisor_31 : decode cX2_greatestDivisor 31 = .ok (.lload 6, 2) := by decide +kernel
theorem dX2_greatestDivisor_33 : decode cX2_greatestDivisor 33 = .ok (.lstore 4, 2) := by decide +kernel
theorem dX2_greatestDivisor_35 : decode cX2_greatestDivisor 35 = .ok (.lload 9, 2) := by decide +kernel
theorem dX2_greatestDivisor_37 : decode cX2_greatestDivisor 37 = .ok (.lstore 6, 2) := by decide +kernel
theorem dX2_greatestDivisor_39 : decode cX2_greatestDivisor 39 = .ok (.iinc 8 1, 3) := by decide +kernel
theorem dX2_greatestDivisor_42 : decode cX2_greatestDivisor 42 = .ok (.goto (-33), 3) := by decide +kernel
theorem dX2_greatestDivisor_45 : decode cX2_greatestDivisor 45 = .ok (.lload 4, 2) := by decide +kernel
theorem dX2_greatestDivisor_47 : decode cX2_greatestDivisor 47 = .ok (.lreturn, 1) := by decide +kernel
theorem dX2_plus_0 : decode cX2_plus 0 = .ok (.aload_n 0, 1) := by decide +kernel
theorem dX2_plus_1 : decode cX2_plus 1 = .ok (.getfield 7, 3) := by decide +kernel
theorem dX2_plus_4 : decode cX2_plus 4 = .ok (.aload_n 1, 1) := by decide +kernel
theorem dX2_plus_5 : decode cX2_plus 5 = .ok (.getfield 13, 3) := by decide +kernel
theorem dX2_plus_8 : decode cX2_plus 8 = .ok (.lmul, 1) := by decide +kernel
theorem dX2_plus_9 : decode cX2_plus 9 = .ok (.aload_n 1, 1) := by decide +kernel
theorem dX2_plus_10 : decode cX2_plus 10 = .ok (.getfield 7, 3) := by decide +kernel
theorem dX2_plus_13 : decode cX2_plus 13 = .ok (.aload_n 0, 1) := by decide +kernel
theorem dX2_plus_14 : decode cX2_plus 14 = .ok (.getfield 13, 3) := by decide +kernel
theorem dX2_plus_17 : decode cX2_plus 17 = .ok (.lmul, 1) := by decide +kernel
theorem dX2_plus_18 : decode cX2_plus 18 = .ok (.ladd, 1) := by decide +kernel
theorem dX2_plus_19 : decode cX2_plus 19 = .ok (.aload_n 0, 1) := by decide +kernel
theorem dX2_plus_20 : decode cX2_plus 20 = .ok (.getfield 13, 3) := by decide +kernel
theorem dX2_plus_23 : decode cX2_plus 23 = .ok (.aload_n 1, 1) := by decide +kernel
theorem dX2_plus_24 : decode cX2_plus 24 = .ok (.getfield 13, 3) := by decide +kernel
theorem dX2_plus_27 : decode cX2_plus 27 = .ok (.lmul, 1) := by decide +kernel
theorem dX2_plus_28 : decode cX2_plus 28 = .ok (.invokestatic 29, 3) := by decide +kernel
theorem dX2_plus_31 : decode cX2_plus 31 = .ok (.areturn, 1) := by decide +kernel
theorem dX2_minus_0 : decode cX2_minus 0 = .ok (.aload_n 0, 1) := by decide +kernel
theorem dX2_minus_1 : decode cX2_minus 1 = .ok (.getfield 7, 3) := by decide +kernel
theorem dX2_minus_4 : decode cX2_minus 4 = .ok (.aload_n 1, 1) := by decide +kernel
theorem dX2_minus_5 : decode cX2_minus 5 = .ok (.getfield 13, 3) := by decide +kernel
theorem dX2_minus_8 : decode cX2_minus 8 = .ok (.lmul, 1) := by decide +kernel
theorem dX2_minus_9 : decode cX2_minus 9 = .ok (.aload_n 1, 1) := by decide +kernel
theorem dX2_minus_10 : decode cX2_minus 10 = .ok (.getfield 7, 3) := by decide +kernel
theorem dX2_minus_13 : decode cX2_minus 13 = .ok (.aload_n 0, 1) := by decide +kernel
theorem dX2_minus_14 : decode cX2_minus 14 = .ok (.getfield 13, 3) := by decide +kernel
theorem dX2_minus_17 : decode cX2_minus 17 = .ok (.lmul, 1) := by decide +kernel
theorem dX2_minus_18 : decode cX2_minus 18 = .ok (.lsub, 1) := by decide +kernel
theorem dX2_minus_19 : decode cX2_minus 19 = .ok (.aload_n 0, 1) := by decide +kernel
theorem dX2_minus_20 : decode cX2_minus 20 = .ok (.getfield 13, 3) := by decide +kernel
theorem dX2_minus_23 : decode cX2_minus 23 = .ok (.aload_n 1, 1) := by decide +kernel
theorem dX2_minus_24 : decode cX2_minus 24 = .ok (.getfield 13, 3) := by decide +kernel
theorem dX2_minus_27 : decode cX2_minus 27 = .ok (.lmul, 1) := by decide +kernel
theorem dX2_minus_28 : decode cX2_minus 28 = .ok (.invokestatic 29, 3) := by decide +kernel
theorem dX2_minus_31 : decode cX2_minus 31 = .ok (.areturn, 1) := by decide +kernel
theorem dX2_times_0 : decode cX2_times 0 = .ok (.aload_n 0, 1) := by decide +kernel
theorem dX2_times_1 : decode cX2_times 1 = .ok (.getfield 7, 3) := by decide +kernel
theorem dX2_times_4 : decode cX2_times 4 = .ok (.aload_n 1, 1) := by decide +kernel
theorem dX2_times_5 : decode cX2_times 5 = .ok (.getfield 7, 3) := by decide +kernel
theorem dX2_times_8 : decode cX2_times 8 = .ok (.lmul, 1) := by decide +kernel
theorem dX2_times_9 : decode cX2_times 9 = .ok (.aload_n 0, 1) := by decide +kernel
theorem dX2_times_10 : decode cX2_times 10 = .ok (.getfield 13, 3) := by decide +kernel
theorem dX2_times_13 : decode cX2_times 13 = .ok (.aload_n 1, 1) := by decide +kernel
theorem dX2_times_14 : decode cX2_times 14 = .ok (.getfield 13, 3) := by decide +kernel
theorem dX2_times_17 : decode cX2_times 17 = .ok (.lmul, 1) := by decide +kernel
theorem dX2_times_18 : decode cX2_times 18 = .ok (.invokestatic 29, 3) := by decide +kernel
theorem dX2_times_21 : decode cX2_times 21 = .ok (.areturn, 1) := by decide +kernel
theorem dX2_equalTo_0 : decode cX2_equalTo 0 = .ok (.aload_n 0, 1) := by decide +kernel
theorem dX2_equalTo_1 : decode cX2_equalTo 1 = .ok (.getfield 7, 3) := by decide +kernel
theorem dX2_equalTo_4 : decode cX2_equalTo 4 = .ok (.aload_n 1, 1) := by decide +kernel
theorem dX2_equalTo_5 : decode cX2_equalTo 5 = .ok (.getfield 7, 3) := by decide +kernel
theorem dX2_equalTo_8 : decode cX2_equalTo 8 = .ok (.lcmp, 1) := by decide +kernel
theorem dX2_equalTo_9 : decode cX2_equalTo 9 = .ok (.ifCond .ne 19, 3) := by decide +kernel
theorem dX2_equalTo_12 : decode cX2_equalTo 12 = .ok (.aload_n 0, 1) := by decide +kernel
theorem dX2_equalTo_13 : decode cX2_equalTo 13 = .ok (.getfield 13, 3) := by decide +kernel
theorem dX2_equalTo_16 : decode cX2_equalTo 16 = .ok (.aload_n 1, 1) := by decide +kernel
theorem dX2_equalTo_17 : decode cX2_equalTo 17 = .ok (.getfield 13, 3) := by decide +kernel
theorem dX2_equalTo_20 : decode cX2_equalTo 20 = .ok (.lcmp, 1) := by decide +kernel
theorem dX2_equalTo_21 : decode cX2_equalTo 21 = .ok (.ifCond .ne 7, 3) := by decide +kernel
theorem dX2_equalTo_24 : decode cX2_equalTo 24 = .ok (.iconst 1, 1) := by decide +kernel
theorem dX2_equalTo_25 : decode cX2_equalTo 25 = .ok (.goto 4, 3) := by decide +kernel
theorem dX2_equalTo_28 : decode cX2_equalTo 28 = .ok (.iconst 0, 1) := by decide +kernel
theorem dX2_equalTo_29 : decode cX2_equalTo 29 = .ok (.ireturn, 1) := by decide +kernel
theorem dX2_isAbove_0 : decode cX2_isAbove 0 = .ok (.aload_n 0, 1) := by decide +kernel
theorem dX2_isAbove_1 : decode cX2_isAbove 1 = .ok (.getfield 7, 3) := by decide +kernel
theorem dX2_isAbove_4 : decode cX2_isAbove 4 = .ok (.lload_n 1, 1) := by decide +kernel
theorem dX2_isAbove_5 : decode cX2_isAbove 5 = .ok (.lcmp, 1) := by decide +kernel
theorem dX2_isAbove_6 : decode cX2_isAbove 6 = .ok (.ifCond .gt 12, 3) := by decide +kernel
theorem dX2_isAbove_9 : decode cX2_isAbove 9 = .ok (.aload_n 0, 1) := by decide +kernel
theorem dX2_isAbove_10 : decode cX2_isAbove 10 = .ok (.getfield 13, 3) := by decide +kernel
theorem dX2_isAbove_13 : decode cX2_isAbove 13 = .ok (.lload_n 1, 1) := by decide +kernel
theorem dX2_isAbove_14 : decode cX2_isAbove 14 = .ok (.lcmp, 1) := by decide +kernel
theorem dX2_isAbove_15 : decode cX2_isAbove 15 = .ok (.ifCond .le 7, 3) := by decide +kernel
theorem dX2_isAbove_18 : decode cX2_isAbove 18 = .ok (.iconst 1, 1) := by decide +kernel
theorem dX2_isAbove_19 : decode cX2_isAbove 19 = .ok (.goto 4, 3) := by decide +kernel
theorem dX2_isAbove_22 : decode cX2_isAbove 22 = .ok (.iconst 0, 1) := by decide +kernel
theorem dX2_isAbove_23 : decode cX2_isAbove 23 = .ok (.ireturn, 1) := by decide +kernel
theorem dX2_valuation_0 : decode cX2_valuation 0 = .ok (.aload_n 0, 1) := by decide +kernel
theorem dX2_valuation_1 : decode cX2_valuation 1 = .ok (.getfield 7, 3) := by decide +kernel
theorem dX2_valuation_4 : decode cX2_valuation 4 = .ok (.lconst 0, 1) := by decide +kernel
theorem dX2_valuation_5 : decode cX2_valuation 5 = .ok (.lcmp, 1) := by decide +kernel
theorem dX2_valuation_6 : decode cX2_valuation 6 = .ok (.ifCond .ne 8, 3) := by decide +kernel
theorem dX2_valuation_9 : decode cX2_valuation 9 = .ok (.bipush 99, 2) := by decide +kernel
theorem dX2_valuation_11 : decode cX2_valuation 11 = .ok (.goto 18, 3) := by decide +kernel
theorem dX2_valuation_14 : decode cX2_valuation 14 = .ok (.aload_n 0, 1) := by decide +kernel
theorem dX2_valuation_15 : decode cX2_valuation 15 = .ok (.getfield 7, 3) := by decide +kernel
theorem dX2_valuation_18 : decode cX2_valuation 18 = .ok (.invokestatic 33, 3) := by decide +kernel
theorem dX2_valuation_21 : decode cX2_valuation 21 = .ok (.aload_n 0, 1) := by decide +kernel
theorem dX2_valuation_22 : decode cX2_valuation 22 = .ok (.getfield 13, 3) := by decide +kernel
theorem dX2_valuation_25 : decode cX2_valuation 25 = .ok (.invokestatic 33, 3) := by decide +kernel
theorem dX2_valuation_28 : decode cX2_valuation 28 = .ok (.isub, 1) := by decide +kernel
theorem dX2_valuation_29 : decode cX2_valuation 29 = .ok (.ireturn, 1) := by decide +kernel
theorem dX2_twosIn_0 : decode cX2_twosIn 0 = .ok (.iconst 0, 1) := by decide +kernel
theorem dX2_twosIn_1 : decode cX2_twosIn 1 = .ok (.istore_n 2, 1) := by decide +kernel
theorem dX2_twosIn_2 : decode cX2_twosIn 2 = .ok (.iload_n 2, 1) := by decide +kernel
theorem dX2_twosIn_3 : decode cX2_twosIn 3 = .ok (.bipush 64, 2) := by decide +kernel
theorem dX2_twosIn_5 : decode cX2_twosIn 5 = .ok (.if_icmp .ge 19, 3) := by decide +kernel
theorem dX2_twosIn_8 : decode cX2_twosIn 8 = .ok (.lload_n 0, 1) := by decide +kernel
theorem dX2_twosIn_9 : decode cX2_twosIn 9 = .ok (.iload_n 2, 1) := by decide +kernel
theorem dX2_twosIn_10 : decode cX2_twosIn 10 = .ok (.lshr, 1) := by decide +kernel
theorem dX2_twosIn_11 : decode cX2_twosIn 11 = .ok (.lconst 1, 1) := by decide +kernel
theorem dX2_twosIn_12 : decode cX2_twosIn 12 = .ok (.land, 1) := by decide +kernel
theorem dX2_twosIn_13 : decode cX2_twosIn 13 = .ok (.lconst 0, 1) := by decide +kernel
theorem dX2_twosIn_14 : decode cX2_twosIn 14 = .ok (.lcmp, 1) := by decide +kernel
theorem dX2_twosIn_15 : decode cX2_twosIn 15 = .ok (.ifCond .ne 9, 3) := by decide +kernel
theorem dX2_twosIn_18 : decode cX2_twosIn 18 = .ok (.iinc 2 1, 3) := by decide +kernel
theorem dX2_twosIn_21 : decode cX2_twosIn 21 = .ok (.goto (-19), 3) := by decide +kernel
theorem dX2_twosIn_24 : decode cX2_twosIn 24 = .ok (.iload_n 2, 1) := by decide +kernel
theorem dX2_twosIn_25 : decode cX2_twosIn 25 = .ok (.ireturn, 1) := by decide +kernel
theorem dX2_told_0 : decode cX2_told 0 = .ok (.iload_n 1, 1) := by decide +kernel
theorem dX2_told_1 : decode cX2_told 1 = .ok (.ifCond .ne 10, 3) := by decide +kernel
theorem dX2_told_4 : decode cX2_told 4 = .ok (.aload_n 0, 1) := by decide +kernel
theorem dX2_told_5 : decode cX2_told 5 = .ok (.getfield 7, 3) := by decide +kernel
theorem dX2_told_8 : decode cX2_told 8 = .ok (.goto 7, 3) := by decide +kernel
theorem dX2_told_11 : decode cX2_told 11 = .ok (.aload_n 0, 1) := by decide +kernel
theorem dX2_told_12 : decode cX2_told 12 = .ok (.getfield 13, 3) := by decide +kernel
theorem dX2_told_15 : decode cX2_told 15 = .ok (.lreturn, 1) := by decide +kernel
theorem dX2_asFloat_0 : decode cX2_asFloat 0 = .ok (.aload_n 0, 1) := by decide +kernel
theorem dX2_asFloat_1 : decode cX2_asFloat 1 = .ok (.getfield 7, 3) := by decide +kernel
theorem dX2_asFloat_4 : decode cX2_asFloat 4 = .ok (.l2f, 1) := by decide +kernel
theorem dX2_asFloat_5 : decode cX2_asFloat 5 = .ok (.aload_n 0, 1) := by decide +kernel
theorem dX2_asFloat_6 : decode cX2_asFloat 6 = .ok (.getfield 13, 3) := by decide +kernel
theorem dX2_asFloat_9 : decode cX2_asFloat 9 = .ok (.l2f, 1) := by decide +kernel
theorem dX2_asFloat_10 : decode cX2_asFloat 10 = .ok (.fdiv, 1) := by decide +kernel
theorem dX2_asFloat_11 : decode cX2_asFloat 11 = .ok (.freturn, 1) := by decide +kernel
theorem dX2_asDouble_0 : decode cX2_asDouble 0 = .ok (.aload_n 0, 1) := by decide +kernel
theorem dX2_asDouble_1 : decode cX2_asDouble 1 = .ok (.getfield 7, 3) := by decide +kernel
theorem dX2_asDouble_4 : decode cX2_asDouble 4 = .ok (.l2d, 1) := by decide +kernel
theorem dX2_asDouble_5 : decode cX2_asDouble 5 = .ok (.aload_n 0, 1) := by decide +kernel
theorem dX2_asDouble_6 : decode cX2_asDouble 6 = .ok (.getfield 13, 3) := by decide +kernel
theorem dX2_asDouble_9 : decode cX2_asDouble 9 = .ok (.l2d, 1) := by decide +kernel
theorem dX2_asDouble_10 : decode cX2_asDouble 10 = .ok (.ddiv, 1) := by decide +kernel
theorem dX2_asDouble_11 : decode cX2_asDouble 11 = .ok (.dreturn, 1) := by decide +kernel
theorem dX3_init_0 : decode cX3_init 0 = .ok (.aload_n 0, 1) := by decide +kernel
theorem dX3_init_1 : decode cX3_init 1 = .ok (.invokespecial 1, 3) := by decide +kernel
theorem dX3_init_4 : decode cX3_init 4 = .ok (.aload_n 0, 1) := by decide +kernel
theorem dX3_init_5 : decode cX3_init 5 = .ok (.new 7, 3) := by decide +kernel
theorem dX3_init_8 : decode cX3_init 8 = .ok (.dup, 1) := by decide +kernel
theorem dX3_init_9 : decode cX3_init 9 = .ok (.invokespecial 9, 3) := by decide +kernel
theorem dX3_init_12 : decode cX3_init 12 = .ok (.putfield 10, 3) := by decide +kernel
theorem dX3_init_15 : decode cX3_init 15 = .ok (.aload_n 0, 1) := by decide +kernel
theorem dX3_init_16 : decode cX3_init 16 = .ok (.new 16, 3) := by decide +kernel
theorem dX3_init_19 : decode cX3_init 19 = .ok (.dup, 1) := by decide +kernel
theorem dX3_init_20 : decode cX3_init 20 = .ok (.invokespecial 18, 3) := by decide +kernel
theorem dX3_init_23 : decode cX3_init 23 = .ok (.putfield 19, 3) := by decide +kernel
theorem dX3_init_26 : decode cX3_init 26 = .ok (.return_, 1) := by decide +kernel
theorem dX3_take_0 : decode cX3_take 0 = .ok (.aload_n 0, 1) := by decide +kernel
theorem dX3_take_1 : decode cX3_take 1 = .ok (.aload_n 1, 1) := by decide +kernel
theorem dX3_take_2 : decode cX3_take 2 = .ok (.getfield 23, 3) := by decide +kernel
theorem dX3_take_5 : decode cX3_take 5 = .ok (.putfield 29, 3) := by decide +kernel
theorem dX3_take_8 : decode cX3_take 8 = .ok (.aload_n 0, 1) := by decide +kernel
theorem dX3_take_9 : decode cX3_take 9 = .ok (.aload_n 1, 1) := by decide +kernel
theorem dX3_take_10 : decode cX3_take 10 = .ok (.getfield 30, 3) := by decide +kernel
theorem dX3_take_13 : decode cX3_take 13 = .ok (.putfield 33, 3) := by decide +kernel
theorem dX3_take_16 : decode cX3_take 16 = .ok (.aload_n 0, 1) := by decide +kernel
theorem dX3_take_17 : decode cX3_take 17 = .ok (.aload_n 1, 1) := by decide +kernel
theorem dX3_take_18 : decode cX3_take 18 = .ok (.getfield 34, 3) := by decide +kernel
theorem dX3_take_21 : decode cX3_take 21 = .ok (.putfield 37, 3) := by decide +kernel
theorem dX3_take_24 : decode cX3_take 24 = .ok (.aload_n 0, 1) := by decide +kernel
theorem dX3_take_25 : decode cX3_take 25 = .ok (.getfield 10, 3) := by decide +kernel
theorem dX3_take_28 : decode cX3_take 28 = .ok (.aload_n 2, 1) := by decide +kernel
theorem dX3_take_29 : decode cX3_take 29 = .ok (.invokevirtual 38, 3) := by decide +kernel
theorem dX3_take_32 : decode cX3_take 32 = .ok (.aload_n 0, 1) := by decide +kernel
theorem dX3_take_33 : decode cX3_take 33 = .ok (.getfield 19, 3) := by decide +kernel
theorem dX3_take_36 : decode cX3_take 36 = .ok (.aload_n 3, 1) := by decide +kernel
theorem dX3_take_37 : decode cX3_take 37 = .ok (.invokevirtual 42, 3) := by decide +kernel
theorem dX3_take_40 : decode cX3_take 40 = .ok (.aload_n 0, 1) := by decide +kernel
theorem dX3_take_41 : decode cX3_take 41 = .ok (.iconst 1, 1) := by decide +kernel
theorem dX3_take_42 : decode cX3_take 42 = .ok (.putfield 45, 3) := by decide +kernel
theorem dX3_take_45 : decode cX3_take 45 = .ok (.return_, 1) := by decide +kernel
theorem dX3_giveBack_0 : decode cX3_giveBack 0 = .ok (.aload_n 1, 1) := by decide +kernel
theorem dX3_giveBack_1 : decode cX3_giveBack 1 = .ok (.aload_n 0, 1) := by decide +kernel
theorem dX3_giveBack_2 : decode cX3_giveBack 2 = .ok (.getfield 29, 3) := by decide +kernel
theorem dX3_giveBack_5 : decode cX3_giveBack 5 = .ok (.aload_n 0, 1) := by decide +kernel
theorem dX3_giveBack_6 : decode cX3_giveBack 6 = .ok (.getfield 33, 3) := by decide +kernel
theorem dX3_giveBack_9 : decode cX3_giveBack 9 = .ok (.aload_n 0, 1) := by decide +kernel
theorem dX3_giveBack_10 : decode cX3_giveBack 10 = .ok (.getfield 37, 3) := by decide +kernel
theorem dX3_giveBack_13 : decode cX3_giveBack 13 = .ok (.invokevirtual 49, 3) := by decide +kernel
theorem dX3_giveBack_16 : decode cX3_giveBack 16 = .ok (.aload_n 2, 1) := by decide +kernel
theorem dX3_giveBack_17 : decode cX3_giveBack 17 = .ok (.aload_n 0, 1) := by decide +kernel
theorem dX3_giveBack_18 : decode cX3_giveBack 18 = .ok (.getfield 10, 3) := by decide +kernel
theorem dX3_giveBack_21 : decode cX3_giveBack 21 = .ok (.invokevirtual 38, 3) := by decide +kernel
theorem dX3_giveBack_24 : decode cX3_giveBack 24 = .ok (.aload_n 3, 1) := by decide +kernel
theorem dX3_giveBack_25 : decode cX3_giveBack 25 = .ok (.aload_n 0, 1) := by decide +kernel
theorem dX3_giveBack_26 : decode cX3_giveBack 26 = .ok (.getfield 19, 3) := by decide +kernel
theorem dX3_giveBack_29 : decode cX3_giveBack 29 = .ok (.invokevirtual 42, 3) := by decide +kernel
theorem dX3_giveBack_32 : decode cX3_giveBack 32 = .ok (.return_, 1) := by decide +kernel
theorem dX4_init_0 : decode cX4_init 0 = .ok (.aload_n 0, 1) := by decide +kernel
theorem dX4_init_1 : decode cX4_init 1 = .ok (.invokespecial 5, 3) := by decide +kernel
theorem dX4_init_4 : decode cX4_init 4 = .ok (.aload_n 0, 1) := by decide +kernel
theorem dX4_init_5 : decode cX4_init 5 = .ok (.bipush 12, 2) := by decide +kernel
theorem dX4_init_7 : decode cX4_init 7 = .ok (.newarray .int, 2) := by decide +kernel
theorem dX4_init_9 : decode cX4_init 9 = .ok (.putfield 11, 3) := by decide +kernel
theorem dX4_init_12 : decode cX4_init 12 = .ok (.aload_n 0, 1) := by decide +kernel
theorem dX4_init_13 : decode cX4_init 13 = .ok (.bipush 72, 2) := by decide +kernel
theorem dX4_init_15 : decode cX4_init 15 = .ok (.newarray .char, 2) := by decide +kernel
theorem dX4_init_17 : decode cX4_init 17 = .ok (.putfield 15, 3) := by decide +kernel
theorem dX4_init_20 : decode cX4_init 20 = .ok (.return_, 1) := by decide +kernel
theorem dX4_isFull_0 : decode cX4_isFull 0 = .ok (.aload_n 0, 1) := by decide +kernel
theorem dX4_isFull_1 : decode cX4_isFull 1 = .ok (.getfield 19, 3) := by decide +kernel
theorem dX4_isFull_4 : decode cX4_isFull 4 = .ok (.bipush 72, 2) := by decide +kernel
theorem dX4_isFull_6 : decode cX4_isFull 6 = .ok (.if_icmp .lt 7, 3) := by decide +kernel
theorem dX4_isFull_9 : decode cX4_isFull 9 = .ok (.iconst 1, 1) := by decide +kernel
theorem dX4_isFull_10 : decode cX4_isFull 10 = .ok (.goto 4, 3) := by decide +kernel
theorem dX4_isFull_13 : decode cX4_isFull 13 = .ok (.iconst 0, 1) := by decide +kernel
theorem dX4_isFull_14 : decode cX4_isFull 14 = .ok (.ireturn, 1) := by decide +kernel
theorem dX4_append_0 : decode cX4_append 0 = .ok (.aload_n 0, 1) := by decide +kernel
theorem dX4_append_1 : decode cX4_append 1 = .ok (.getfield 19, 3) := by decide +kernel
theorem dX4_append_4 : decode cX4_append 4 = .ok (.bipush 72, 2) := by decide +kernel
theorem dX4_append_6 : decode cX4_append 6 = .ok (.if_icmp .ge 24, 3) := by decide +kernel
theorem dX4_append_9 : decode cX4_append 9 = .ok (.aload_n 0, 1) := by decide +kernel
theorem dX4_append_10 : decode cX4_append 10 = .ok (.getfield 15, 3) := by decide +kernel
theorem dX4_append_13 : decode cX4_append 13 = .ok (.aload_n 0, 1) := by decide +kernel
theorem dX4_append_14 : decode cX4_append 14 = .ok (.getfield 19, 3) := by decide +kernel
theorem dX4_append_17 : decode cX4_append 17 = .ok (.iload_n 1, 1) := by decide +kernel
theorem dX4_append_18 : decode cX4_append 18 = .ok (.i2c, 1) := by decide +kernel
theorem dX4_append_19 : decode cX4_append 19 = .ok (.castore, 1) := by decide +kernel
theorem dX4_append_20 : decode cX4_append 20 = .ok (.aload_n 0, 1) := by decide +kernel
theorem dX4_append_21 : decode cX4_append 21 = .ok (.dup, 1) := by decide +kernel
theorem dX4_append_22 : decode cX4_append 22 = .ok (.getfield 19, 3) := by decide +kernel
theorem dX4_append_25 : decode cX4_append 25 = .ok (.iconst 1, 1) := by decide +kernel
theorem dX4_append_26 : decode cX4_append 26 = .ok (.iadd, 1) := by decide +kernel
theorem dX4_append_27 : decode cX4_append 27 = .ok (.putfield 19, 3) := by decide +kernel
theorem dX4_append_30 : decode cX4_append 30 = .ok (.return_, 1) := by decide +kernel
theorem dX4_clear_0 : decode cX4_clear 0 = .ok (.aload_n 0, 1) := by decide +kernel
theorem dX4_clear_1 : decode cX4_clear 1 = .ok (.iconst 0, 1) := by decide +kernel
theorem dX4_clear_2 : decode cX4_clear 2 = .ok (.putfield 19, 3) := by decide +kernel
theorem dX4_clear_5 : decode cX4_clear 5 = .ok (.return_, 1) := by decide +kernel
theorem dX4_letterAt_0 : decode cX4_letterAt 0 = .ok (.iload_n 1, 1) := by decide +kernel
theorem dX4_letterAt_1 : decode cX4_letterAt 1 = .ok (.ifCond .lt 20, 3) := by decide +kernel
theorem dX4_letterAt_4 : decode cX4_letterAt 4 = .ok (.iload_n 1, 1) := by decide +kernel
theorem dX4_letterAt_5 : decode cX4_letterAt 5 = .ok (.aload_n 0, 1) := by decide +kernel
theorem dX4_letterAt_6 : decode cX4_letterAt 6 = .ok (.getfield 19, 3) := by decide +kernel
theorem dX4_letterAt_9 : decode cX4_letterAt 9 = .ok (.if_icmp .ge 12, 3) := by decide +kernel
theorem dX4_letterAt_12 : decode cX4_letterAt 12 = .ok (.aload_n 0, 1) := by decide +kernel
theorem dX4_letterAt_13 : decode cX4_letterAt 13 = .ok (.getfield 15, 3) := by decide +kernel
theorem dX4_letterAt_16 : decode cX4_letterAt 16 = .ok (.iload_n 1, 1) := by decide +kernel
theorem dX4_letterAt_17 : decode cX4_letterAt 17 = .ok (.caload, 1) := by decide +kernel
theorem dX4_letterAt_18 : decode cX4_letterAt 18 = .ok (.goto 4, 3) := by decide +kernel
theorem dX4_letterAt_21 : decode cX4_letterAt 21 = .ok (.iconst 0, 1) := by decide +kernel
theorem dX4_letterAt_22 : decode cX4_letterAt 22 = .ok (.ireturn, 1) := by decide +kernel
theorem dX4_digitsBehind_0 : decode cX4_digitsBehind 0 = .ok (.iload_n 0, 1) := by decide +kernel
theorem dX4_digitsBehind_1 : decode cX4_digitsBehind 1 = .ok (.lookupswitch 50 #[(98, 43), (112, 45), (114, 43), (116, 48)], 43) := by decide +kernel
theorem dX4_digitsBehind_44 : decode cX4_digitsBehind 44 = .ok (.iconst 5, 1) := by decide +kernel
theorem dX4_digitsBehind_45 : decode cX4_digitsBehind 45 = .ok (.ireturn, 1) := by decide +kernel
theorem dX4_digitsBehind_46 : decode cX4_digitsBehind 46 = .ok (.bipush 8, 2) := by decide +kernel
theorem dX4_digitsBehind_48 : decode cX4_digitsBehind 48 = .ok (.ireturn, 1) := by decide +kernel
theorem dX4_digitsBehind_49 : decode cX4_digitsBehind 49 = .ok (.iconst 4, 1) := by decide +kernel
theorem dX4_digitsBehind_50 : decode cX4_digitsBehind 50 = .ok (.ireturn, 1) := by decide +kernel
theorem dX4_digitsBehind_51 : decode cX4_digitsBehind 51 = .ok (.iconst 0, 1) := by decide +kernel
theorem dX4_digitsBehind_52 : decode cX4_digitsBehind 52 = .ok (.ireturn, 1) := by decide +kernel
theorem dX4_read_0 : decode cX4_read 0 = .ok (.iconst 0, 1) := by decide +kernel
theorem dX4_read_1 : decode cX4_read 1 = .ok (.istore_n 1, 1) := by decide +kernel
theorem dX4_read_2 : decode cX4_read 2 = .ok (.aload_n 0, 1) := by decide +kernel
theorem dX4_read_3 : decode cX4_read 3 = .ok (.getfield 19, 3) := by decide +kernel
theorem dX4_read_6 : decode cX4_read 6 = .ok (.ifCond .ne 7, 3) := by decide +kernel
theorem dX4_read_9 : decode cX4_read 9 = .ok (.iconst 0, 1) := by decide +kernel
theorem dX4_read_10 : decode cX4_read 10 = .ok (.goto 5, 3) := by decide +kernel
theorem dX4_read_13 : decode cX4_read 13 = .ok (.bipush (-9), 2) := by decide +kernel
theorem dX4_read_15 : decode cX4_read 15 = .ok (.istore_n 2, 1) := by decide +kernel
theorem dX4_read_16 : decode cX4_read 16 = .ok (.aload_n 0, 1) := by decide +kernel
theorem dX4_read_17 : decode cX4_read 17 = .ok (.iconst 0, 1) := by decide +kernel
theorem dX4_read_18 : decode cX4_read 18 = .ok (.putfield 23, 3) := by decide +kernel
theorem dX4_read_21 : decode cX4_read 21 = .ok (.iload_n 1, 1) := by decide +kernel
theorem dX4_read_22 : decode cX4_read 22 = .ok (.aload_n 0, 1) := by decide +kernel
theorem dX4_read_23 : decode cX4_read 23 = .ok (.getfield 19, 3) := by decide +kernel
theorem dX4_read_26 : decode cX4_read 26 = .ok (.if_icmp .ge 60, 3) := by decide +kernel
theorem dX4_read_29 : decode cX4_read 29 = .ok (.iload_n 2, 1) := by decide +kernel
theorem dX4_read_30 : decode cX4_read 30 = .ok (.bipush (-9), 2) := by decide +kernel
theorem dX4_read_32 : decode cX4_read 32 = .ok (.if_icmp .ne 54, 3) := by decide +kernel
theorem dX4_read_35 : decode cX4_read 35 = .ok (.aload_n 0, 1) := by decide +kernel
theorem dX4_read_36 : decode cX4_read 36 = .ok (.getfield 23, 3) := by decide +kernel
theorem dX4_read_39 : decode cX4_read 39 = .ok (.bipush 12, 2) := by decide +kernel
theorem dX4_read_41 : decode cX4_read 41 = .ok (.if_icmp .ge 45, 3) := by decide +kernel
theorem dX4_read_44 : decode cX4_read 44 = .ok (.aload_n 0, 1) := by decide +kernel
theorem dX4_read_45 : decode cX4_read 45 = .ok (.iload_n 1, 1) := by decide +kernel
theorem dX4_read_46 : decode cX4_read 46 = .ok (.invokevirtual 26, 3) := by decide +kernel
theorem dX4_read_49 : decode cX4_read 49 = .ok (.istore_n 2, 1) := by decide +kernel
theorem dX4_read_50 : decode cX4_read 50 = .ok (.aload_n 0, 1) := by decide +kernel
theorem dX4_read_51 : decode cX4_read 51 = .ok (.getfield 11, 3) := by decide +kernel
theorem dX4_read_54 : decode cX4_read 54 = .ok (.aload_n 0, 1) := by decide +kernel
theorem dX4_read_55 : decode cX4_read 55 = .ok (.getfield 23, 3) := by decide +kernel
theorem dX4_read_58 : decode cX4_read 58 = .ok (.iload_n 1, 1) := by decide +kernel
theorem dX4_read_59 : decode cX4_read 59 = .ok (.iastore, 1) := by decide +kernel
theorem dX4_read_60 : decode cX4_read 60 = .ok (.aload_n 0, 1) := by decide +kernel
theorem dX4_read_61 : decode cX4_read 61 = .ok (.dup, 1) := by decide +kernel
theorem dX4_read_62 : decode cX4_read 62 = .ok (.getfield 23, 3) := by decide +kernel
theorem dX4_read_65 : decode cX4_read 65 = .ok (.iconst 1, 1) := by decide +kernel
theorem dX4_read_66 : decode cX4_read 66 = .ok (.iadd, 1) := by decide +kernel
theorem dX4_read_67 : decode cX4_read 67 = .ok (.putfield 23, 3) := by decide +kernel
theorem dX4_read_70 : decode cX4_read 70 = .ok (.iload_n 1, 1) := by decide +kernel
theorem dX4_read_71 : decode cX4_read 71 = .ok (.aload_n 0, 1) := by decide +kernel
theorem dX4_read_72 : decode cX4_read 72 = .ok (.iload_n 1, 1) := by decide +kernel
theorem dX4_read_73 : decode cX4_read 73 = .ok (.invokevirtual 30, 3) := by decide +kernel
theorem dX4_read_76 : decode cX4_read 76 = .ok (.invokestatic 34, 3) := by decide +kernel
theorem dX4_read_79 : decode cX4_read 79 = .ok (.iconst 2, 1) := by decide +kernel
theorem dX4_read_80 : decode cX4_read 80 = .ok (.iadd, 1) := by decide +kernel
theorem dX4_read_81 : decode cX4_read 81 = .ok (.iadd, 1) := by decide +kernel
theorem dX4_read_82 : decode cX4_read 82 = .ok (.istore_n 1, 1) := by decide +kernel
theorem dX4_read_83 : decode cX4_read 83 = .ok (.goto (-62), 3) := by decide +kernel
theorem dX4_read_86 : decode cX4_read 86 = .ok (.iload_n 2, 1) := by decide +kernel
theorem dX4_read_87 : decode cX4_read 87 = .ok (.ireturn, 1) := by decide +kernel
theorem dX4_firstWrongFrom_0 : decode cX4_firstWrongFrom 0 = .ok (.aload_n 0, 1) := by decide +kernel
theorem dX4_firstWrongFrom_1 : decode cX4_firstWrongFrom 1 = .ok (.iload_n 1, 1) := by decide +kernel
theorem dX4_firstWrongFrom_2 : decode cX4_firstWrongFrom 2 = .ok (.invokevirtual 30, 3) := by decide +kernel
theorem dX4_firstWrongFrom_5 : decode cX4_firstWrongFrom 5 = .ok (.invokestatic 34, 3) := by decide +kernel
theorem dX4_firstWrongFrom_8 : decode cX4_firstWrongFrom 8 = .ok (.istore_n 2, 1) := by decide +kernel
theorem dX4_firstWrongFrom_9 : decode cX4_firstWrongFrom 9 = .ok (.iload_n 2, 1) := by decide +kernel
theorem dX4_firstWrongFrom_10 : decode cX4_firstWrongFrom 10 = .ok (.ifCond .ne 5, 3) := by decide +kernel
theorem dX4_firstWrongFrom_13 : decode cX4_firstWrongFrom 13 = .ok (.iload_n 1, 1) := by decide +kernel
theorem dX4_firstWrongFrom_14 : decode cX4_firstWrongFrom 14 = .ok (.ireturn, 1) := by decide +kernel
theorem dX4_firstWrongFrom_15 : decode cX4_firstWrongFrom 15 = .ok (.iload_n 1, 1) := by decide +kernel
theorem dX4_firstWrongFrom_16 : decode cX4_firstWrongFrom 16 = .ok (.iconst 1, 1) := by decide +kernel
theorem dX4_firstWrongFrom_17 : decode cX4_firstWrongFrom 17 = .ok (.iadd, 1) := by decide +kernel
theorem dX4_firstWrongFrom_18 : decode cX4_firstWrongFrom 18 = .ok (.istore_n 3, 1) := by decide +kernel
theorem dX4_firstWrongFrom_19 : decode cX4_firstWrongFrom 19 = .ok (.iload_n 3, 1) := by decide +kernel
theorem dX4_firstWrongFrom_20 : decode cX4_firstWrongFrom 20 = .ok (.iload_n 1, 1) := by decide +kernel
theorem dX4_firstWrongFrom_21 : decode cX4_firstWrongFrom 21 = .ok (.iload_n 2, 1) := by decide +kernel
theorem dX4_firstWrongFrom_22 : decode cX4_firstWrongFrom 22 = .ok (.iadd, 1) := by decide +kernel
theorem dX4_firstWrongFrom_23 : decode cX4_firstWrongFrom 23 = .ok (.if_icmp .gt 31, 3) := by decide +kernel
theorem dX4_firstWrongFrom_26 : decode cX4_firstWrongFrom 26 = .ok (.aload_n 0, 1) := by decide +kernel
theorem dX4_firstWrongFrom_27 : decode cX4_firstWrongFrom 27 = .ok (.iload_n 3, 1) := by decide +kernel
theorem dX4_firstWrongFrom_28 : decode cX4_firstWrongFrom 28 = .ok (.invokevirtual 30, 3) := by decide +kernel
theorem dX4_firstWrongFrom_31 : decode cX4_firstWrongFrom 31 = .ok (.bipush 48, 2) := by decide +kernel
theorem dX4_firstWrongFrom_33 : decode cX4_firstWrongFrom 33 = .ok (.if_icmp .lt 13, 3) := by decide +kernel
theorem dX4_firstWrongFrom_36 : decode cX4_firstWrongFrom 36 = .ok (.aload_n 0, 1) := by decide +kernel
theorem dX4_firstWrongFrom_37 : decode cX4_firstWrongFrom 37 = .ok (.iload_n 3, 1) := by decide +kernel
theorem dX4_firstWrongFrom_38 : decode cX4_firstWrongFrom 38 = .ok (.invokevirtual 30, 3) := by decide +kernel
theorem dX4_firstWrongFrom_41 : decode cX4_firstWrongFrom 41 = .ok (.bipush 57, 2) := by decide +kernel
theorem dX4_firstWrongFrom_43 : decode cX4_firstWrongFrom 43 = .ok (.if_icmp .le 5, 3) := by decide +kernel
theorem dX4_firstWrongFrom_46 : decode cX4_firstWrongFrom 46 = .ok (.iload_n 3, 1) := by decide +kernel
theorem dX4_firstWrongFrom_47 : decode cX4_firstWrongFrom 47 = .ok (.ireturn, 1) := by decide +kernel
theorem dX4_firstWrongFrom_48 : decode cX4_firstWrongFrom 48 = .ok (.iinc 3 1, 3) := by decide +kernel
theorem dX4_firstWrongFrom_51 : decode cX4_firstWrongFrom 51 = .ok (.goto (-32), 3) := by decide +kernel
theorem dX4_firstWrongFrom_54 : decode cX4_firstWrongFrom 54 = .ok (.iload_n 1, 1) := by decide +kernel
theorem dX4_firstWrongFrom_55 : decode cX4_firstWrongFrom 55 = .ok (.iload_n 2, 1) := by decide +kernel
theorem dX4_firstWrongFrom_56 : decode cX4_firstWrongFrom 56 = .ok (.iadd, 1) := by decide +kernel
theorem dX4_firstWrongFrom_57 : decode cX4_firstWrongFrom 57 = .ok (.iconst 1, 1) := by decide +kernel
theorem dX4_firstWrongFrom_58 : decode cX4_firstWrongFrom 58 = .ok (.iadd, 1) := by decide +kernel
theorem dX4_firstWrongFrom_59 : decode cX4_firstWrongFrom 59 = .ok (.istore_n 3, 1) := by decide +kernel
theorem dX4_firstWrongFrom_60 : decode cX4_firstWrongFrom 60 = .ok (.aload_n 0, 1) := by decide +kernel
theorem dX4_firstWrongFrom_61 : decode cX4_firstWrongFrom 61 = .ok (.iload_n 3, 1) := by decide +kernel
theorem dX4_firstWrongFrom_62 : decode cX4_firstWrongFrom 62 = .ok (.invokevirtual 30, 3) := by decide +kernel
theorem dX4_firstWrongFrom_65 : decode cX4_firstWrongFrom 65 = .ok (.bipush 59, 2) := by decide +kernel
theorem dX4_firstWrongFrom_67 : decode cX4_firstWrongFrom 67 = .ok (.if_icmp .ne 8, 3) := by decide +kernel
theorem dX4_firstWrongFrom_70 : decode cX4_firstWrongFrom 70 = .ok (.bipush (-9), 2) := by decide +kernel
theorem dX4_firstWrongFrom_72 : decode cX4_firstWrongFrom 72 = .ok (.goto 4, 3) := by decide +kernel
theorem dX4_firstWrongFrom_75 : decode cX4_firstWrongFrom 75 = .ok (.iload_n 3, 1) := by decide +kernel
theorem dX4_firstWrongFrom_76 : decode cX4_firstWrongFrom 76 = .ok (.ireturn, 1) := by decide +kernel
theorem dX4_digit_0 : decode cX4_digit 0 = .ok (.aload_n 0, 1) := by decide +kernel
theorem dX4_digit_1 : decode cX4_digit 1 = .ok (.iload_n 1, 1) := by decide +kernel
theorem dX4_digit_2 : decode cX4_digit 2 = .ok (.invokevirtual 30, 3) := by decide +kernel
theorem dX4_digit_5 : decode cX4_digit 5 = .ok (.bipush 48, 2) := by decide +kernel
theorem dX4_digit_7 : decode cX4_digit 7 = .ok (.isub, 1) := by decide +kernel
theorem dX4_digit_8 : decode cX4_digit 8 = .ok (.ireturn, 1) := by decide +kernel
theorem dX4_twoDigits_0 : decode cX4_twoDigits 0 = .ok (.aload_n 0, 1) := by decide +kernel
theorem dX4_twoDigits_1 : decode cX4_twoDigits 1 = .ok (.iload_n 1, 1) := by decide +kernel
theorem dX4_twoDigits_2 : decode cX4_twoDigits 2 = .ok (.invokevirtual 38, 3) := by decide +kernel
theorem dX4_twoDigits_5 : decode cX4_twoDigits 5 = .ok (.bipush 10, 2) := by decide +kernel
theorem dX4_twoDigits_7 : decode cX4_twoDigits 7 = .ok (.imul, 1) := by decide +kernel
theorem dX4_twoDigits_8 : decode cX4_twoDigits 8 = .ok (.aload_n 0, 1) := by decide +kernel
theorem dX4_twoDigits_9 : decode cX4_twoDigits 9 = .ok (.iload_n 1, 1) := by decide +kernel
theorem dX4_twoDigits_10 : decode cX4_twoDigits 10 = .ok (.iconst 1, 1) := by decide +kernel
theorem dX4_twoDigits_11 : decode cX4_twoDigits 11 = .ok (.iadd, 1) := by decide +kernel
theorem dX4_twoDigits_12 : decode cX4_twoDigits 12 = .ok (.invokevirtual 38, 3) := by decide +kernel
theorem dX4_twoDigits_15 : decode cX4_twoDigits 15 = .ok (.iadd, 1) := by decide +kernel
theorem dX4_twoDigits_16 : decode cX4_twoDigits 16 = .ok (.ireturn, 1) := by decide +kernel
theorem dX4_fourDigits_0 : decode cX4_fourDigits 0 = .ok (.aload_n 0, 1) := by decide +kernel
theorem dX4_fourDigits_1 : decode cX4_fourDigits 1 = .ok (.iload_n 1, 1) := by decide +kernel
theorem dX4_fourDigits_2 : decode cX4_fourDigits 2 = .ok (.invokevirtual 41, 3) := by decide +kernel
theorem dX4_fourDigits_5 : decode cX4_fourDigits 5 = .ok (.bipush 100, 2) := by decide +kernel
theorem dX4_fourDigits_7 : decode cX4_fourDigits 7 = .ok (.imul, 1) := by decide +kernel
theorem dX4_fourDigits_8 : decode cX4_fourDigits 8 = .ok (.aload_n 0, 1) := by decide +kernel
theorem dX4_fourDigits_9 : decode cX4_fourDigits 9 = .ok (.iload_n 1, 1) := by decide +kernel
theorem dX4_fourDigits_10 : decode cX4_fourDigits 10 = .ok (.iconst 2, 1) := by decide +kernel
theorem dX4_fourDigits_11 : decode cX4_fourDigits 11 = .ok (.iadd, 1) := by decide +kernel
theorem dX4_fourDigits_12 : decode cX4_fourDigits 12 = .ok (.invokevirtual 41, 3) := by decide +kernel
theorem dX4_fourDigits_15 : decode cX4_fourDigits 15 = .ok (.iadd, 1) := by decide +kernel
theorem dX4_fourDigits_16 : decode cX4_fourDigits 16 = .ok (.ireturn, 1) := by decide +kernel
theorem dX5_init_0 : decode cX5_init 0 = .ok (.aload_n 0, 1) := by decide +kernel
theorem dX5_init_1 : decode cX5_init 1 = .ok (.invokespecial 1, 3) := by decide +kernel
theorem dX5_init_4 : decode cX5_init 4 = .ok (.aload_n 0, 1) := by decide +kernel
theorem dX5_init_5 : decode cX5_init 5 = .ok (.bipush 40, 2) := by decide +kernel
theorem dX5_init_7 : decode cX5_init 7 = .ok (.newarray .int, 2) := by decide +kernel
theorem dX5_init_9 : decode cX5_init 9 = .ok (.putfield 9, 3) := by decide +kernel
theorem dX5_init_12 : decode cX5_init 12 = .ok (.aload_n 0, 1) := by decide +kernel
theorem dX5_init_13 : decode cX5_init 13 = .ok (.iconst (-1), 1) := by decide +kernel
theorem dX5_init_14 : decode cX5_init 14 = .ok (.putfield 13, 3) := by decide +kernel
theorem dX5_init_17 : decode cX5_init 17 = .ok (.return_, 1) := by decide +kernel
theorem dX5_isMissing_0 : decode cX5_isMissing 0 = .ok (.aload_n 0, 1) := by decide +kernel
theorem dX5_isMissing_1 : decode cX5_isMissing 1 = .ok (.getfield 13, 3) := by decide +kernel
theorem dX5_isMissing_4 : decode cX5_isMissing 4 = .ok (.ifCond .ge 7, 3) := by decide +kernel
theorem dX5_isMissing_7 : decode cX5_isMissing 7 = .ok (.iconst 1, 1) := by decide +kernel
theorem dX5_isMissing_8 : decode cX5_isMissing 8 = .ok (.goto 4, 3) := by decide +kernel
theorem dX5_isMissing_11 : decode cX5_isMissing 11 = .ok (.iconst 0, 1) := by decide +kernel
theorem dX5_isMissing_12 : decode cX5_isMissing 12 = .ok (.ireturn, 1) := by decide +kernel
theorem dX5_hasPlace_0 : decode cX5_hasPlace 0 = .ok (.iload_n 1, 1) := by decide +kernel
theorem dX5_hasPlace_1 : decode cX5_hasPlace 1 = .ok (.ifCond .lt 15, 3) := by decide +kernel
theorem dX5_hasPlace_4 : decode cX5_hasPlace 4 = .ok (.iload_n 1, 1) := by decide +kernel
theorem dX5_hasPlace_5 : decode cX5_hasPlace 5 = .ok (.aload_n 0, 1) := by decide +kernel
theorem dX5_hasPlace_6 : decode cX5_hasPlace 6 = .ok (.getfield 13, 3) := by decide +kernel
theorem dX5_hasPlace_9 : decode cX5_hasPlace 9 = .ok (.if_icmp .ge 7, 3) := by decide +kernel
theorem dX5_hasPlace_12 : decode cX5_hasPlace 12 = .ok (.iconst 1, 1) := by decide +kernel
theorem dX5_hasPlace_13 : decode cX5_hasPlace 13 = .ok (.goto 4, 3) := by decide +kernel
theorem dX5_hasPlace_16 : decode cX5_hasPlace 16 = .ok (.iconst 0, 1) := by decide +kernel
theorem dX5_hasPlace_17 : decode cX5_hasPlace 17 = .ok (.ireturn, 1) := by decide +kernel
theorem dX5_makeZeros_0 : decode cX5_makeZeros 0 = .ok (.aload_n 0, 1) := by decide +kernel
theorem dX5_makeZeros_1 : decode cX5_makeZeros 1 = .ok (.iload_n 1, 1) := by decide +kernel
theorem dX5_makeZeros_2 : decode cX5_makeZeros 2 = .ok (.putfield 13, 3) := by decide +kernel
theorem dX5_makeZeros_5 : decode cX5_makeZeros 5 = .ok (.iconst 0, 1) := by decide +kernel
theorem dX5_makeZeros_6 : decode cX5_makeZeros 6 = .ok (.istore_n 2, 1) := by decide +kernel
theorem dX5_makeZeros_7 : decode cX5_makeZeros 7 = .ok (.iload_n 2, 1) := by decide +kernel
theorem dX5_makeZeros_8 : decode cX5_makeZeros 8 = .ok (.bipush 40, 2) := by decide +kernel
theorem dX5_makeZeros_10 : decode cX5_makeZeros 10 = .ok (.if_icmp .ge 16, 3) := by decide +kernel
theorem dX5_makeZeros_13 : decode cX5_makeZeros 13 = .ok (.aload_n 0, 1) := by decide +kernel
theorem dX5_makeZeros_14 : decode cX5_makeZeros 14 = .ok (.getfield 9, 3) := by decide +kernel
theorem dX5_makeZeros_17 : decode cX5_makeZeros 17 = .ok (.iload_n 2, 1) := by decide +kernel
theorem dX5_makeZeros_18 : decode cX5_makeZeros 18 = .ok (.iconst 0, 1) := by decide +kernel
theorem dX5_makeZeros_19 : decode cX5_makeZeros 19 = .ok (.iastore, 1) := by decide +kernel
theorem dX5_makeZeros_20 : decode cX5_makeZeros 20 = .ok (.iinc 2 1, 3) := by decide +kernel
theorem dX5_makeZeros_23 : decode cX5_makeZeros 23 = .ok (.goto (-16), 3) := by decide +kernel
theorem dX5_makeZeros_26 : decode cX5_makeZeros 26 = .ok (.return_, 1) := by decide +kernel
theorem dX6_init_0 : decode cX6_init 0 = .ok (.aload_n 0, 1) := by decide +kernel
theorem dX6_init_1 : decode cX6_init 1 = .ok (.invokespecial 1, 3) := by decide +kernel
theorem dX6_init_4 : decode cX6_init 4 = .ok (.aload_n 0, 1) := by decide +kernel
theorem dX6_init_5 : decode cX6_init 5 = .ok (.aload_n 1, 1) := by decide +kernel
theorem dX6_init_6 : decode cX6_init 6 = .ok (.putfield 7, 3) := by decide +kernel
theorem dX6_init_9 : decode cX6_init 9 = .ok (.aload_n 0, 1) := by decide +kernel
theorem dX6_init_10 : decode cX6_init 10 = .ok (.aload_n 2, 1) := by decide +kernel
theorem dX6_init_11 : decode cX6_init 11 = .ok (.putfield 13, 3) := by decide +kernel
theorem dX6_init_14 : decode cX6_init 14 = .ok (.return_, 1) := by decide +kernel
theorem dX6_shade_0 : decode cX6_shade 0 = .ok (.iload_n 1, 1) := by decide +kernel
theorem dX6_shade_1 : decode cX6_shade 1 = .ok (.ifCond .eq 13, 3) := by decide +kernel
theorem dX6_shade_4 : decode cX6_shade 4 = .ok (.aload_n 0, 1) := by decide +kernel
theorem dX6_shade_5 : decode cX6_shade 5 = .ok (.getfield 13, 3) := by decide +kernel
theorem dX6_shade_8 : decode cX6_shade 8 = .ok (.invokevirtual 16, 3) := by decide +kernel
theorem dX6_shade_11 : decode cX6_shade 11 = .ok (.goto 10, 3) := by decide +kernel
theorem dX6_shade_14 : decode cX6_shade 14 = .ok (.aload_n 0, 1) := by decide +kernel
theorem dX6_shade_15 : decode cX6_shade 15 = .ok (.getfield 7, 3) := by decide +kernel
theorem dX6_shade_18 : decode cX6_shade 18 = .ok (.invokevirtual 16, 3) := by decide +kernel
theorem dX6_shade_21 : decode cX6_shade 21 = .ok (.istore_n 2, 1) := by decide +kernel
theorem dX6_shade_22 : decode cX6_shade 22 = .ok (.iload_n 1, 1) := by decide +kernel
theorem dX6_shade_23 : decode cX6_shade 23 = .ok (.ifCond .eq 13, 3) := by decide +kernel
theorem dX6_shade_26 : decode cX6_shade 26 = .ok (.aload_n 0, 1) := by decide +kernel
theorem dX6_shade_27 : decode cX6_shade 27 = .ok (.getfield 7, 3) := by decide +kernel
theorem dX6_shade_30 : decode cX6_shade 30 = .ok (.invokevirtual 16, 3) := by decide +kernel
theorem dX6_shade_33 : decode cX6_shade 33 = .ok (.goto 10, 3) := by decide +kernel
theorem dX6_shade_36 : decode cX6_shade 36 = .ok (.aload_n 0, 1) := by decide +kernel
theorem dX6_shade_37 : decode cX6_shade 37 = .ok (.getfield 13, 3) := by decide +kernel
theorem dX6_shade_40 : decode cX6_shade 40 = .ok (.invokevirtual 16, 3) := by decide +kernel
theorem dX6_shade_43 : decode cX6_shade 43 = .ok (.istore_n 3, 1) := by decide +kernel
theorem dX6_shade_44 : decode cX6_shade 44 = .ok (.iload_n 2, 1) := by decide +kernel
theorem dX6_shade_45 : decode cX6_shade 45 = .ok (.ifCond .le 9, 3) := by decide +kernel
theorem dX6_shade_48 : decode cX6_shade 48 = .ok (.iload_n 3, 1) := by decide +kernel
theorem dX6_shade_49 : decode cX6_shade 49 = .ok (.ifCond .le 5, 3) := by decide +kernel
theorem dX6_shade_52 : decode cX6_shade 52 = .ok (.iconst 0, 1) := by decide +kernel
theorem dX6_shade_53 : decode cX6_shade 53 = .ok (.ireturn, 1) := by decide +kernel
theorem dX6_shade_54 : decode cX6_shade 54 = .ok (.iload_n 2, 1) := by decide +kernel
theorem dX6_shade_55 : decode cX6_shade 55 = .ok (.iload_n 3, 1) := by decide +kernel
theorem dX6_shade_56 : decode cX6_shade 56 = .ok (.if_icmp .gt 7, 3) := by decide +kernel
theorem dX6_shade_59 : decode cX6_shade 59 = .ok (.iconst 1, 1) := by decide +kernel
theorem dX6_shade_60 : decode cX6_shade 60 = .ok (.goto 4, 3) := by decide +kernel
theorem dX6_shade_63 : decode cX6_shade 63 = .ok (.iconst 2, 1) := by decide +kernel
theorem dX6_shade_64 : decode cX6_shade 64 = .ok (.ireturn, 1) := by decide +kernel
theorem dX7_init_0 : decode cX7_init 0 = .ok (.aload_n 0, 1) := by decide +kernel
theorem dX7_init_1 : decode cX7_init 1 = .ok (.invokespecial 1, 3) := by decide +kernel
theorem dX7_init_4 : decode cX7_init 4 = .ok (.aload_n 0, 1) := by decide +kernel
theorem dX7_init_5 : decode cX7_init 5 = .ok (.bipush 9, 2) := by decide +kernel
theorem dX7_init_7 : decode cX7_init 7 = .ok (.anewarray 9, 3) := by decide +kernel
theorem dX7_init_10 : decode cX7_init 10 = .ok (.putfield 11, 3) := by decide +kernel
theorem dX7_init_13 : decode cX7_init 13 = .ok (.aload_n 0, 1) := by decide +kernel
theorem dX7_init_14 : decode cX7_init 14 = .ok (.iconst (-1), 1) := by decide +kernel
theorem dX7_init_15 : decode cX7_init 15 = .ok (.putfield 15, 3) := by decide +kernel
theorem dX7_init_18 : decode cX7_init 18 = .ok (.return_, 1) := by decide +kernel
theorem dX7_isMissing_0 : decode cX7_isMissing 0 = .ok (.aload_n 0, 1) := by decide +kernel
theorem dX7_isMissing_1 : decode cX7_isMissing 1 = .ok (.getfield 15, 3) := by decide +kernel
theorem dX7_isMissing_4 : decode cX7_isMissing 4 = .ok (.ifCond .ge 7, 3) := by decide +kernel
theorem dX7_isMissing_7 : decode cX7_isMissing 7 = .ok (.iconst 1, 1) := by decide +kernel
theorem dX7_isMissing_8 : decode cX7_isMissing 8 = .ok (.goto 4, 3) := by decide +kernel
theorem dX7_isMissing_11 : decode cX7_isMissing 11 = .ok (.iconst 0, 1) := by decide +kernel
theorem dX7_isMissing_12 : decode cX7_isMissing 12 = .ok (.ireturn, 1) := by decide +kernel
theorem dX7_hasPlace_0 : decode cX7_hasPlace 0 = .ok (.iload_n 1, 1) := by decide +kernel
theorem dX7_hasPlace_1 : decode cX7_hasPlace 1 = .ok (.ifCond .lt 15, 3) := by decide +kernel
theorem dX7_hasPlace_4 : decode cX7_hasPlace 4 = .ok (.iload_n 1, 1) := by decide +kernel
theorem dX7_hasPlace_5 : decode cX7_hasPlace 5 = .ok (.aload_n 0, 1) := by decide +kernel
theorem dX7_hasPlace_6 : decode cX7_hasPlace 6 = .ok (.getfield 15, 3) := by decide +kernel
theorem dX7_hasPlace_9 : decode cX7_hasPlace 9 = .ok (.if_icmp .ge 7, 3) := by decide +kernel
theorem dX7_hasPlace_12 : decode cX7_hasPlace 12 = .ok (.iconst 1, 1) := by decide +kernel
theorem dX7_hasPlace_13 : decode cX7_hasPlace 13 = .ok (.goto 4, 3) := by decide +kernel
theorem dX7_hasPlace_16 : decode cX7_hasPlace 16 = .ok (.iconst 0, 1) := by decide +kernel
theorem dX7_hasPlace_17 : decode cX7_hasPlace 17 = .ok (.ireturn, 1) := by decide +kernel
theorem dX7_takes_0 : decode cX7_takes 0 = .ok (.aload_n 1, 1) := by decide +kernel
theorem dX7_takes_1 : decode cX7_takes 1 = .ok (.ifnull 17, 3) := by decide +kernel
theorem dX7_takes_4 : decode cX7_takes 4 = .ok (.aload_n 1, 1) := by decide +kernel
theorem dX7_takes_5 : decode cX7_takes 5 = .ok (.getfield 19, 3) := by decide +kernel
theorem dX7_takes_8 : decode cX7_takes 8 = .ok (.aload_n 0, 1) := by decide +kernel
theorem dX7_takes_9 : decode cX7_takes 9 = .ok (.getfield 22, 3) := by decide +kernel
theorem dX7_takes_12 : decode cX7_takes 12 = .ok (.invokestatic 25, 3) := by decide +kernel
theorem dX7_takes_15 : decode cX7_takes 15 = .ok (.ifCond .eq 7, 3) := by decide +kernel
theorem dX7_takes_18 : decode cX7_takes 18 = .ok (.iconst 1, 1) := by decide +kernel
theorem dX7_takes_19 : decode cX7_takes 19 = .ok (.goto 4, 3) := by decide +kernel
theorem dX7_takes_22 : decode cX7_takes 22 = .ok (.iconst 0, 1) := by decide +kernel
theorem dX7_takes_23 : decode cX7_takes 23 = .ok (.ireturn, 1) := by decide +kernel
theorem dX7_makeFor_0 : decode cX7_makeFor 0 = .ok (.aload_n 0, 1) := by decide +kernel
theorem dX7_makeFor_1 : decode cX7_makeFor 1 = .ok (.iload_n 1, 1) := by decide +kernel
theorem dX7_makeFor_2 : decode cX7_makeFor 2 = .ok (.putfield 22, 3) := by decide +kernel
theorem dX7_makeFor_5 : decode cX7_makeFor 5 = .ok (.aload_n 0, 1) := by decide +kernel
theorem dX7_makeFor_6 : decode cX7_makeFor 6 = .ok (.iload_n 2, 1) := by decide +kernel
theorem dX7_makeFor_7 : decode cX7_makeFor 7 = .ok (.putfield 15, 3) := by decide +kernel
theorem dX7_makeFor_10 : decode cX7_makeFor 10 = .ok (.iconst 0, 1) := by decide +kernel
theorem dX7_makeFor_11 : decode cX7_makeFor 11 = .ok (.istore_n 3, 1) := by decide +kernel
theorem dX7_makeFor_12 : decode cX7_makeFor 12 = .ok (.iload_n 3, 1) := by decide +kernel
theorem dX7_makeFor_13 : decode cX7_makeFor 13 = .ok (.bipush 9, 2) := by decide +kernel
theorem dX7_makeFor_15 : decode cX7_makeFor 15 = .ok (.if_icmp .ge 16, 3) := by decide +kernel
theorem dX7_makeFor_18 : decode cX7_makeFor 18 = .ok (.aload_n 0, 1) := by decide +kernel
theorem dX7_makeFor_19 : decode cX7_makeFor 19 = .ok (.getfield 11, 3) := by decide +kernel
theorem dX7_makeFor_22 : decode cX7_makeFor 22 = .ok (.iload_n 3, 1) := by decide +kernel
theorem dX7_makeFor_23 : decode cX7_makeFor 23 = .ok (.aconst_null, 1) := by decide +kernel
theorem dX7_makeFor_24 : decode cX7_makeFor 24 = .ok (.aastore, 1) := by decide +kernel
theorem dX7_makeFor_25 : decode cX7_makeFor 25 = .ok (.iinc 3 1, 3) := by decide +kernel
theorem dX7_makeFor_28 : decode cX7_makeFor 28 = .ok (.goto (-16), 3) := by decide +kernel
theorem dX7_makeFor_31 : decode cX7_makeFor 31 = .ok (.return_, 1) := by decide +kernel
theorem dX7_copyFrom_0 : decode cX7_copyFrom 0 = .ok (.aload_n 0, 1) := by decide +kernel
theorem dX7_copyFrom_1 : decode cX7_copyFrom 1 = .ok (.aload_n 1, 1) := by decide +kernel
theorem dX7_copyFrom_2 : decode cX7_copyFrom 2 = .ok (.getfield 22, 3) := by decide +kernel
theorem dX7_copyFrom_5 : decode cX7_copyFrom 5 = .ok (.putfield 22, 3) := by decide +kernel
theorem dX7_copyFrom_8 : decode cX7_copyFrom 8 = .ok (.aload_n 0, 1) := by decide +kernel
theorem dX7_copyFrom_9 : decode cX7_copyFrom 9 = .ok (.aload_n 1, 1) := by decide +kernel
theorem dX7_copyFrom_10 : decode cX7_copyFrom 10 = .ok (.getfield 15, 3) := by decide +kernel
theorem dX7_copyFrom_13 : decode cX7_copyFrom 13 = .ok (.putfield 15, 3) := by decide +kernel
theorem dX7_copyFrom_16 : decode cX7_copyFrom 16 = .ok (.iconst 0, 1) := by decide +kernel
theorem dX7_copyFrom_17 : decode cX7_copyFrom 17 = .ok (.istore_n 2, 1) := by decide +kernel
theorem dX7_copyFrom_18 : decode cX7_copyFrom 18 = .ok (.iload_n 2, 1) := by decide +kernel
theorem dX7_copyFrom_19 : decode cX7_copyFrom 19 = .ok (.bipush 9, 2) := by decide +kernel
theorem dX7_copyFrom_21 : decode cX7_copyFrom 21 = .ok (.if_icmp .ge 21, 3) := by decide +kernel
theorem dX7_copyFrom_24 : decode cX7_copyFrom 24 = .ok (.aload_n 0, 1) := by decide +kernel
theorem dX7_copyFrom_25 : decode cX7_copyFrom 25 = .ok (.getfield 11, 3) := by decide +kernel
theorem dX7_copyFrom_28 : decode cX7_copyFrom 28 = .ok (.iload_n 2, 1) := by decide +kernel
theorem dX7_copyFrom_29 : decode cX7_copyFrom 29 = .ok (.aload_n 1, 1) := by decide +kernel
theorem dX7_copyFrom_30 : decode cX7_copyFrom 30 = .ok (.getfield 11, 3) := by decide +kernel
theorem dX7_copyFrom_33 : decode cX7_copyFrom 33 = .ok (.iload_n 2, 1) := by decide +kernel
theorem dX7_copyFrom_34 : decode cX7_copyFrom 34 = .ok (.aaload, 1) := by decide +kernel
theorem dX7_copyFrom_35 : decode cX7_copyFrom 35 = .ok (.aastore, 1) := by decide +kernel
theorem dX7_copyFrom_36 : decode cX7_copyFrom 36 = .ok (.iinc 2 1, 3) := by decide +kernel
theorem dX7_copyFrom_39 : decode cX7_copyFrom 39 = .ok (.goto (-21), 3) := by decide +kernel
theorem dX7_copyFrom_42 : decode cX7_copyFrom 42 = .ok (.return_, 1) := by decide +kernel
theorem dX8_init_0 : decode cX8_init 0 = .ok (.aload_n 0, 1) := by decide +kernel
theorem dX8_init_1 : decode cX8_init 1 = .ok (.invokespecial 3, 3) := by decide +kernel
theorem dX8_init_4 : decode cX8_init 4 = .ok (.aload_n 0, 1) := by decide +kernel
theorem dX8_init_5 : decode cX8_init 5 = .ok (.bipush 16, 2) := by decide +kernel
theorem dX8_init_7 : decode cX8_init 7 = .ok (.newarray .int, 2) := by decide +kernel
theorem dX8_init_9 : decode cX8_init 9 = .ok (.putfield 11, 3) := by decide +kernel
theorem dX8_init_12 : decode cX8_init 12 = .ok (.aload_n 0, 1) := by decide +kernel
theorem dX8_init_13 : decode cX8_init 13 = .ok (.iconst 4, 1) := by decide +kernel
theorem dX8_init_14 : decode cX8_init 14 = .ok (.newarray .long, 2) := by decide +kernel
theorem dX8_init_16 : decode cX8_init 16 = .ok (.putfield 15, 3) := by decide +kernel
theorem dX8_init_19 : decode cX8_init 19 = .ok (.aload_n 0, 1) := by decide +kernel
theorem dX8_init_20 : decode cX8_init 20 = .ok (.iconst 4, 1) := by decide +kernel
theorem dX8_init_21 : decode cX8_init 21 = .ok (.newarray .long, 2) := by decide +kernel
theorem dX8_init_23 : decode cX8_init 23 = .ok (.putfield 19, 3) := by decide +kernel
theorem dX8_init_26 : decode cX8_init 26 = .ok (.aload_n 0, 1) := by decide +kernel
theorem dX8_init_27 : decode cX8_init 27 = .ok (.bipush 16, 2) := by decide +kernel
theorem dX8_init_29 : decode cX8_init 29 = .ok (.newarray .int, 2) := by decide +kernel
theorem dX8_init_31 : decode cX8_init 31 = .ok (.putfield 22, 3) := by decide +kernel
theorem dX8_init_34 : decode cX8_init 34 = .ok (.aload_n 0, 1) := by decide +kernel
theorem dX8_init_35 : decode cX8_init 35 = .ok (.bipush 16, 2) := by decide +kernel
theorem dX8_init_37 : decode cX8_init 37 = .ok (.newarray .int, 2) := by decide +kernel
theorem dX8_init_39 : decode cX8_init 39 = .ok (.putfield 25, 3) := by decide +kernel
theorem dX8_init_42 : decode cX8_init 42 = .ok (.iconst 0, 1) := by decide +kernel
theorem dX8_init_43 : decode cX8_init 43 = .ok (.istore_n 1, 1) := by decide +kernel
theorem dX8_init_44 : decode cX8_init 44 = .ok (.iload_n 1, 1) := by decide +kernel
theorem dX8_init_45 : decode cX8_init 45 = .ok (.iconst 4, 1) := by decide +kernel
theorem dX8_init_46 : decode cX8_init 46 = .ok (.if_icmp .ge 55, 3) := by decide +kernel
theorem dX8_init_49 : decode cX8_init 49 = .ok (.aload_n 0, 1) := by decide +kernel
theorem dX8_init_50 : decode cX8_init 50 = .ok (.getfield 11, 3) := by decide +kernel
theorem dX8_init_53 : decode cX8_init 53 = .ok (.iload_n 1, 1) := by decide +kernel
theorem dX8_init_54 : decode cX8_init 54 = .ok (.iconst 4, 1) := by decide +kernel
theorem dX8_init_55 : decode cX8_init 55 = .ok (.imul, 1) := by decide +kernel
theorem dX8_init_56 : decode cX8_init 56 = .ok (.iload_n 1, 1) := by decide +kernel
theorem dX8_init_57 : decode cX8_init 57 = .ok (.iastore, 1) := by decide +kernel
theorem dX8_init_58 : decode cX8_init 58 = .ok (.aload_n 0, 1) := by decide +kernel
theorem dX8_init_59 : decode cX8_init 59 = .ok (.getfield 11, 3) := by decide +kernel
theorem dX8_init_62 : decode cX8_init 62 = .ok (.iload_n 1, 1) := by decide +kernel
theorem dX8_init_63 : decode cX8_init 63 = .ok (.iconst 4, 1) := by decide +kernel
theorem dX8_init_64 : decode cX8_init 64 = .ok (.imul, 1) := by decide +kernel
theorem dX8_init_65 : decode cX8_init 65 = .ok (.iconst 1, 1) := by decide +kernel
theorem dX8_init_66 : decode cX8_init 66 = .ok (.iadd, 1) := by decide +kernel
theorem dX8_init_67 : decode cX8_init 67 = .ok (.iload_n 1, 1) := by decide +kernel
theorem dX8_init_68 : decode cX8_init 68 = .ok (.iconst 2, 1) := by decide +kernel
theorem dX8_init_69 : decode cX8_init 69 = .ok (.ixor, 1) := by decide +kernel
theorem dX8_init_70 : decode cX8_init 70 = .ok (.iastore, 1) := by decide +kernel
theorem dX8_init_71 : decode cX8_init 71 = .ok (.aload_n 0, 1) := by decide +kernel
theorem dX8_init_72 : decode cX8_init 72 = .ok (.getfield 11, 3) := by decide +kernel
theorem dX8_init_75 : decode cX8_init 75 = .ok (.iload_n 1, 1) := by decide +kernel
theorem dX8_init_76 : decode cX8_init 76 = .ok (.iconst 4, 1) := by decide +kernel
theorem dX8_init_77 : decode cX8_init 77 = .ok (.imul, 1) := by decide +kernel
theorem dX8_init_78 : decode cX8_init 78 = .ok (.iconst 2, 1) := by decide +kernel
theorem dX8_init_79 : decode cX8_init 79 = .ok (.iadd, 1) := by decide +kernel
theorem dX8_init_80 : decode cX8_init 80 = .ok (.iload_n 1, 1) := by decide +kernel
theorem dX8_init_81 : decode cX8_init 81 = .ok (.iconst 1, 1) := by decide +kernel
theorem dX8_init_82 : decode cX8_init 82 = .ok (.ixor, 1) := by decide +kernel
theorem dX8_init_83 : decode cX8_init 83 = .ok (.iastore, 1) := by decide +kernel
theorem dX8_init_84 : decode cX8_init 84 = .ok (.aload_n 0, 1) := by decide +kernel
theorem dX8_init_85 : decode cX8_init 85 = .ok (.getfield 11, 3) := by decide +kernel
theorem dX8_init_88 : decode cX8_init 88 = .ok (.iload_n 1, 1) := by decide +kernel
theorem dX8_init_89 : decode cX8_init 89 = .ok (.iconst 4, 1) := by decide +kernel
theorem dX8_init_90 : decode cX8_init 90 = .ok (.imul, 1) := by decide +kernel
theorem dX8_init_91 : decode cX8_init 91 = .ok (.iconst 3, 1) := by decide +kernel
theorem dX8_init_92 : decode cX8_init 92 = .ok (.iadd, 1) := by decide +kernel
theorem dX8_init_93 : decode cX8_init 93 = .ok (.iload_n 1, 1) := by decide +kernel
theorem dX8_init_94 : decode cX8_init 94 = .ok (.iastore, 1) := by decide +kernel
theorem dX8_init_95 : decode cX8_init 95 = .ok (.iinc 1 1, 3) := by decide +kernel
theorem dX8_init_98 : decode cX8_init 98 = .ok (.goto (-54), 3) := by decide +kernel
theorem dX8_init_101 : decode cX8_init 101 = .ok (.return_, 1) := by decide +kernel
theorem dX8_copyFrom_0 : decode cX8_copyFrom 0 = .ok (.aload_n 1, 1) := by decide +kernel
theorem dX8_copyFrom_1 : decode cX8_copyFrom 1 = .ok (.getfield 11, 3) := by decide +kernel
theorem dX8_copyFrom_4 : decode cX8_copyFrom 4 = .ok (.iconst 0, 1) := by decide +kernel
theorem dX8_copyFrom_5 : decode cX8_copyFrom 5 = .ok (.aload_n 0, 1) := by decide +kernel
theorem dX8_copyFrom_6 : decode cX8_copyFrom 6 = .ok (.getfield 11, 3) := by decide +kernel
theorem dX8_copyFrom_9 : decode cX8_copyFrom 9 = .ok (.iconst 0, 1) := by decide +kernel
theorem dX8_copyFrom_10 : decode cX8_copyFrom 10 = .ok (.bipush 16, 2) := by decide +kernel
theorem dX8_copyFrom_12 : decode cX8_copyFrom 12 = .ok (.invokestatic 28, 3) := by decide +kernel
theorem dX8_copyFrom_15 : decode cX8_copyFrom 15 = .ok (.return_, 1) := by decide +kernel
theorem dX8_wayOfPart_0 : decode cX8_wayOfPart 0 = .ok (.aload_n 0, 1) := by decide +kernel
theorem dX8_wayOfPart_1 : decode cX8_wayOfPart 1 = .ok (.getfield 11, 3) := by decide +kernel
theorem dX8_wayOfPart_4 : decode cX8_wayOfPart 4 = .ok (.iload_n 1, 1) := by decide +kernel
theorem dX8_wayOfPart_5 : decode cX8_wayOfPart 5 = .ok (.iconst 4, 1) := by decide +kernel
theorem dX8_wayOfPart_6 : decode cX8_wayOfPart 6 = .ok (.imul, 1) := by decide +kernel
theorem dX8_wayOfPart_7 : decode cX8_wayOfPart 7 = .ok (.iload_n 2, 1) := by decide +kernel
theorem dX8_wayOfPart_8 : decode cX8_wayOfPart 8 = .ok (.iadd, 1) := by decide +kernel
theorem dX8_wayOfPart_9 : decode cX8_wayOfPart 9 = .ok (.iaload, 1) := by decide +kernel
theorem dX8_wayOfPart_10 : decode cX8_wayOfPart 10 = .ok (.ireturn, 1) := by decide +kernel
theorem dX8_become_0 : decode cX8_become 0 = .ok (.aload_n 0, 1) := by decide +kernel
theorem dX8_become_1 : decode cX8_become 1 = .ok (.getfield 11, 3) := by decide +kernel
theorem dX8_become_4 : decode cX8_become 4 = .ok (.iload_n 1, 1) := by decide +kernel
theorem dX8_become_5 : decode cX8_become 5 = .ok (.iconst 4, 1) := by decide +kernel
theorem dX8_become_6 : decode cX8_become 6 = .ok (.imul, 1) := by decide +kernel
theorem dX8_become_7 : decode cX8_become 7 = .ok (.iload_n 2, 1) := by decide +kernel
theorem dX8_become_8 : decode cX8_become 8 = .ok (.iadd, 1) := by decide +kernel
theorem dX8_become_9 : decode cX8_become 9 = .ok (.iload_n 3, 1) := by decide +kernel
theorem dX8_become_10 : decode cX8_become 10 = .ok (.iastore, 1) := by decide +kernel
theorem dX8_become_11 : decode cX8_become 11 = .ok (.return_, 1) := by decide +kernel
theorem dX8_lyingBehind_0 : decode cX8_lyingBehind 0 = .ok (.aload_n 0, 1) := by decide +kernel
theorem dX8_lyingBehind_1 : decode cX8_lyingBehind 1 = .ok (.iload_n 1, 1) := by decide +kernel
theorem dX8_lyingBehind_2 : decode cX8_lyingBehind 2 = .ok (.invokevirtual 34, 3) := by decide +kernel
theorem dX8_lyingBehind_5 : decode cX8_lyingBehind 5 = .ok (.iconst 0, 1) := by decide +kernel
theorem dX8_lyingBehind_6 : decode cX8_lyingBehind 6 = .ok (.istore 4, 2) := by decide +kernel
theorem dX8_lyingBehind_8 : decode cX8_lyingBehind 8 = .ok (.iload 4, 2) := by decide +kernel
theorem dX8_lyingBehind_10 : decode cX8_lyingBehind 10 = .ok (.iload_n 2, 1) := by decide +kernel
theorem dX8_lyingBehind_11 : decode cX8_lyingBehind 11 = .ok (.if_icmp .ge 13, 3) := by decide +kernel
theorem dX8_lyingBehind_14 : decode cX8_lyingBehind 14 = .ok (.aload_n 0, 1) := by decide +kernel
theorem dX8_lyingBehind_15 : decode cX8_lyingBehind 15 = .ok (.invokevirtual 38, 3) := by decide +kernel
theorem dX8_lyingBehind_18 : decode cX8_lyingBehind 18 = .ok (.iinc 4 1, 3) := by decide +kernel
theorem dX8_lyingBehind_21 : decode cX8_lyingBehind 21 = .ok (.goto (-13), 3) := by decide +kernel
theorem dX8_lyingBehind_24 : decode cX8_lyingBehind 24 = .ok (.aload_n 0, 1) := by decide +kernel
theorem dX8_lyingBehind_25 : decode cX8_lyingBehind 25 = .ok (.getfield 15, 3) := by decide +kernel
theorem dX8_lyingBehind_28 : decode cX8_lyingBehind 28 = .ok (.iload_n 3, 1) := by decide +kernel
theorem dX8_lyingBehind_29 : decode cX8_lyingBehind 29 = .ok (.laload, 1) := by decide +kernel
theorem dX8_lyingBehind_30 : decode cX8_lyingBehind 30 = .ok (.lreturn, 1) := by decide +kernel
theorem dX8_startWith_0 : decode cX8_startWith 0 = .ok (.iconst 0, 1) := by decide +kernel
theorem dX8_startWith_1 : decode cX8_startWith 1 = .ok (.istore_n 2, 1) := by decide +kernel
theorem dX8_startWith_2 : decode cX8_startWith 2 = .ok (.iload_n 2, 1) := by decide +kernel
theorem dX8_startWith_3 : decode cX8_startWith 3 = .ok (.iconst 4, 1) := by decide +kernel
theorem dX8_startWith_4 : decode cX8_startWith 4 = .ok (.if_icmp .ge 25, 3) := by decide +kernel
theorem dX8_startWith_7 : decode cX8_startWith 7 = .ok (.aload_n 0, 1) := by decide +kernel
theorem dX8_startWith_8 : decode cX8_startWith 8 = .ok (.getfield 15, 3) := by decide +kernel
theorem dX8_startWith_11 : decode cX8_startWith 11 = .ok (.iload_n 2, 1) := by decide +kernel
theorem dX8_startWith_12 : decode cX8_startWith 12 = .ok (.iload_n 2, 1) := by decide +kernel
theorem dX8_startWith_13 : decode cX8_startWith 13 = .ok (.iload_n 1, 1) := by decide +kernel
theorem dX8_startWith_14 : decode cX8_startWith 14 = .ok (.if_icmp .ne 7, 3) := by decide +kernel
theorem dX8_startWith_17 : decode cX8_startWith 17 = .ok (.lconst 1, 1) := by decide +kernel
theorem dX8_startWith_18 : decode cX8_startWith 18 = .ok (.goto 4, 3) := by decide +kernel
theorem dX8_startWith_21 : decode cX8_startWith 21 = .ok (.lconst 0, 1) := by decide +kernel
theorem dX8_startWith_22 : decode cX8_startWith 22 = .ok (.lastore, 1) := by decide +kernel
theorem dX8_startWith_23 : decode cX8_startWith 23 = .ok (.iinc 2 1, 3) := by decide +kernel
theorem dX8_startWith_26 : decode cX8_startWith 26 = .ok (.goto (-24), 3) := by decide +kernel
theorem dX8_startWith_29 : decode cX8_startWith 29 = .ok (.return_, 1) := by decide +kernel
theorem dX8_cutOnce_0 : decode cX8_cutOnce 0 = .ok (.iconst 0, 1) := by decide +kernel
theorem dX8_cutOnce_1 : decode cX8_cutOnce 1 = .ok (.istore_n 1, 1) := by decide +kernel
theorem dX8_cutOnce_2 : decode cX8_cutOnce 2 = .ok (.iload_n 1, 1) := by decide +kernel
theorem dX8_cutOnce_3 : decode cX8_cutOnce 3 = .ok (.iconst 4, 1) := by decide +kernel
theorem dX8_cutOnce_4 : decode cX8_cutOnce 4 = .ok (.if_icmp .ge 16, 3) := by decide +kernel
theorem dX8_cutOnce_7 : decode cX8_cutOnce 7 = .ok (.aload_n 0, 1) := by decide +kernel
theorem dX8_cutOnce_8 : decode cX8_cutOnce 8 = .ok (.getfield 19, 3) := by decide +kernel
theorem dX8_cutOnce_11 : decode cX8_cutOnce 11 = .ok (.iload_n 1, 1) := by decide +kernel
theorem dX8_cutOnce_12 : decode cX8_cutOnce 12 = .ok (.lconst 0, 1) := by decide +kernel
theorem dX8_cutOnce_13 : decode cX8_cutOnce 13 = .ok (.lastore, 1) := by decide +kernel
theorem dX8_cutOnce_14 : decode cX8_cutOnce 14 = .ok (.iinc 1 1, 3) := by decide +kernel
theorem dX8_cutOnce_17 : decode cX8_cutOnce 17 = .ok (.goto (-15), 3) := by decide +kernel
theorem dX8_cutOnce_20 : decode cX8_cutOnce 20 = .ok (.iconst 0, 1) := by decide +kernel
theorem dX8_cutOnce_21 : decode cX8_cutOnce 21 = .ok (.istore_n 1, 1) := by decide +kernel
theorem dX8_cutOnce_22 : decode cX8_cutOnce 22 = .ok (.iload_n 1, 1) := by decide +kernel
theorem dX8_cutOnce_23 : decode cX8_cutOnce 23 = .ok (.iconst 4, 1) := by decide +kernel
theorem dX8_cutOnce_24 : decode cX8_cutOnce 24 = .ok (.if_icmp .ge 42, 3) := by decide +kernel
theorem dX8_cutOnce_27 : decode cX8_cutOnce 27 = .ok (.iconst 0, 1) := by decide +kernel
theorem dX8_cutOnce_28 : decode cX8_cutOnce 28 = .ok (.istore_n 2, 1) := by decide +kernel
theorem dX8_cutOnce_29 : decode cX8_cutOnce 29 = .ok (.iload_n 2, 1) := by decide +kernel
theorem dX8_cutOnce_30 : decode cX8_cutOnce 30 = .ok (.iconst 4, 1) := by decide +kernel
theorem dX8_cutOnce_31 : decode cX8_cutOnce 31 = .ok (.if_icmp .ge 29, 3) := by decide +kernel
theorem dX8_cutOnce_34 : decode cX8_cutOnce 34 = .ok (.aload_n 0, 1) := by decide +kernel
theorem dX8_cutOnce_35 : decode cX8_cutOnce 35 = .ok (.getfield 19, 3) := by decide +kernel
theorem dX8_cutOnce_38 : decode cX8_cutOnce 38 = .ok (.aload_n 0, 1) := by decide +kernel
theorem dX8_cutOnce_39 : decode cX8_cutOnce 39 = .ok (.iload_n 1, 1) := by decide +kernel
theorem dX8_cutOnce_40 : decode cX8_cutOnce 40 = .ok (.iload_n 2, 1) := by decide +kernel
theorem dX8_cutOnce_41 : decode cX8_cutOnce 41 = .ok (.invokevirtual 41, 3) := by decide +kernel
theorem dX8_cutOnce_44 : decode cX8_cutOnce 44 = .ok (.dup2, 1) := by decide +kernel
theorem dX8_cutOnce_45 : decode cX8_cutOnce 45 = .ok (.laload, 1) := by decide +kernel
theorem dX8_cutOnce_46 : decode cX8_cutOnce 46 = .ok (.aload_n 0, 1) := by decide +kernel
theorem dX8_cutOnce_47 : decode cX8_cutOnce 47 = .ok (.getfield 15, 3) := by decide +kernel
theorem dX8_cutOnce_50 : decode cX8_cutOnce 50 = .ok (.iload_n 1, 1) := by decide +kernel
theorem dX8_cutOnce_51 : decode cX8_cutOnce 51 = .ok (.laload, 1) := by decide +kernel
theorem dX8_cutOnce_52 : decode cX8_cutOnce 52 = .ok (.ladd, 1) := by decide +kernel
theorem dX8_cutOnce_53 : decode cX8_cutOnce 53 = .ok (.lastore, 1) := by decide +kernel
theorem dX8_cutOnce_54 : decode cX8_cutOnce 54 = .ok (.iinc 2 1, 3) := by decide +kernel
theorem dX8_cutOnce_57 : decode cX8_cutOnce 57 = .ok (.goto (-28), 3) := by decide +kernel
theorem dX8_cutOnce_60 : decode cX8_cutOnce 60 = .ok (.iinc 1 1, 3) := by decide +kernel
theorem dX8_cutOnce_63 : decode cX8_cutOnce 63 = .ok (.goto (-41), 3) := by decide +kernel
theorem dX8_cutOnce_66 : decode cX8_cutOnce 66 = .ok (.aload_n 0, 1) := by decide +kernel
theorem dX8_cutOnce_67 : decode cX8_cutOnce 67 = .ok (.getfield 19, 3) := by decide +kernel
theorem dX8_cutOnce_70 : decode cX8_cutOnce 70 = .ok (.iconst 0, 1) := by decide +kernel
theorem dX8_cutOnce_71 : decode cX8_cutOnce 71 = .ok (.aload_n 0, 1) := by decide +kernel
theorem dX8_cutOnce_72 : decode cX8_cutOnce 72 = .ok (.getfield 15, 3) := by decide +kernel
theorem dX8_cutOnce_75 : decode cX8_cutOnce 75 = .ok (.iconst 0, 1) := by decide +kernel
theorem dX8_cutOnce_76 : decode cX8_cutOnce 76 = .ok (.iconst 4, 1) := by decide +kernel
theorem dX8_cutOnce_77 : decode cX8_cutOnce 77 = .ok (.invokestatic 28, 3) := by decide +kernel
theorem dX8_cutOnce_80 : decode cX8_cutOnce 80 = .ok (.return_, 1) := by decide +kernel
theorem dX8_cutsToAlike_0 : decode cX8_cutsToAlike 0 = .ok (.aload_n 0, 1) := by decide +kernel
theorem dX8_cutsToAlike_1 : decode cX8_cutsToAlike 1 = .ok (.iload_n 1, 1) := by decide +kernel
theorem dX8_cutsToAlike_2 : decode cX8_cutsToAlike 2 = .ok (.invokevirtual 34, 3) := by decide +kernel
theorem dX8_cutsToAlike_5 : decode cX8_cutsToAlike 5 = .ok (.iconst 1, 1) := by decide +kernel
theorem dX8_cutsToAlike_6 : decode cX8_cutsToAlike 6 = .ok (.istore_n 2, 1) := by decide +kernel
theorem dX8_cutsToAlike_7 : decode cX8_cutsToAlike 7 = .ok (.iload_n 2, 1) := by decide +kernel
theorem dX8_cutsToAlike_8 : decode cX8_cutsToAlike 8 = .ok (.bipush 15, 2) := by decide +kernel
theorem dX8_cutsToAlike_10 : decode cX8_cutsToAlike 10 = .ok (.if_icmp .gt 63, 3) := by decide +kernel
theorem dX8_cutsToAlike_13 : decode cX8_cutsToAlike 13 = .ok (.aload_n 0, 1) := by decide +kernel
theorem dX8_cutsToAlike_14 : decode cX8_cutsToAlike 14 = .ok (.invokevirtual 38, 3) := by decide +kernel
theorem dX8_cutsToAlike_17 : decode cX8_cutsToAlike 17 = .ok (.aload_n 0, 1) := by decide +kernel
theorem dX8_cutsToAlike_18 : decode cX8_cutsToAlike 18 = .ok (.getfield 15, 3) := by decide +kernel
theorem dX8_cutsToAlike_21 : decode cX8_cutsToAlike 21 = .ok (.iconst 0, 1) := by decide +kernel
theorem dX8_cutsToAlike_22 : decode cX8_cutsToAlike 22 = .ok (.laload, 1) := by decide +kernel
theorem dX8_cutsToAlike_23 : decode cX8_cutsToAlike 23 = .ok (.aload_n 0, 1) := by decide +kernel
theorem dX8_cutsToAlike_24 : decode cX8_cutsToAlike 24 = .ok (.getfield 15, 3) := by decide +kernel
theorem dX8_cutsToAlike_27 : decode cX8_cutsToAlike 27 = .ok (.iconst 1, 1) := by decide +kernel
theorem dX8_cutsToAlike_28 : decode cX8_cutsToAlike 28 = .ok (.laload, 1) := by decide +kernel
theorem dX8_cutsToAlike_29 : decode cX8_cutsToAlike 29 = .ok (.lcmp, 1) := by decide +kernel
theorem dX8_cutsToAlike_30 : decode cX8_cutsToAlike 30 = .ok (.ifCond .ne 37, 3) := by decide +kernel
theorem dX8_cutsToAlike_33 : decode cX8_cutsToAlike 33 = .ok (.aload_n 0, 1) := by decide +kernel
theorem dX8_cutsToAlike_34 : decode cX8_cutsToAlike 34 = .ok (.getfield 15, 3) := by decide +kernel
theorem dX8_cutsToAlike_37 : decode cX8_cutsToAlike 37 = .ok (.iconst 1, 1) := by decide +kernel
theorem dX8_cutsToAlike_38 : decode cX8_cutsToAlike 38 = .ok (.laload, 1) := by decide +kernel
theorem dX8_cutsToAlike_39 : decode cX8_cutsToAlike 39 = .ok (.aload_n 0, 1) := by decide +kernel
theorem dX8_cutsToAlike_40 : decode cX8_cutsToAlike 40 = .ok (.getfield 15, 3) := by decide +kernel
theorem dX8_cutsToAlike_43 : decode cX8_cutsToAlike 43 = .ok (.iconst 2, 1) := by decide +kernel
theorem dX8_cutsToAlike_44 : decode cX8_cutsToAlike 44 = .ok (.laload, 1) := by decide +kernel
theorem dX8_cutsToAlike_45 : decode cX8_cutsToAlike 45 = .ok (.lcmp, 1) := by decide +kernel
theorem dX8_cutsToAlike_46 : decode cX8_cutsToAlike 46 = .ok (.ifCond .ne 21, 3) := by decide +kernel
theorem dX8_cutsToAlike_49 : decode cX8_cutsToAlike 49 = .ok (.aload_n 0, 1) := by decide +kernel
theorem dX8_cutsToAlike_50 : decode cX8_cutsToAlike 50 = .ok (.getfield 15, 3) := by decide +kernel
theorem dX8_cutsToAlike_53 : decode cX8_cutsToAlike 53 = .ok (.iconst 2, 1) := by decide +kernel
theorem dX8_cutsToAlike_54 : decode cX8_cutsToAlike 54 = .ok (.laload, 1) := by decide +kernel
theorem dX8_cutsToAlike_55 : decode cX8_cutsToAlike 55 = .ok (.aload_n 0, 1) := by decide +kernel
theorem dX8_cutsToAlike_56 : decode cX8_cutsToAlike 56 = .ok (.getfield 15, 3) := by decide +kernel
theorem dX8_cutsToAlike_59 : decode cX8_cutsToAlike 59 = .ok (.iconst 3, 1) := by decide +kernel
theorem dX8_cutsToAlike_60 : decode cX8_cutsToAlike 60 = .ok (.laload, 1) := by decide +kernel
theorem dX8_cutsToAlike_61 : decode cX8_cutsToAlike 61 = .ok (.lcmp, 1) := by decide +kernel
theorem dX8_cutsToAlike_62 : decode cX8_cutsToAlike 62 = .ok (.ifCond .ne 5, 3) := by decide +kernel
theorem dX8_cutsToAlike_65 : decode cX8_cutsToAlike 65 = .ok (.iload_n 2, 1) := by decide +kernel
theorem dX8_cutsToAlike_66 : decode cX8_cutsToAlike 66 = .ok (.ireturn, 1) := by decide +kernel
theorem dX8_cutsToAlike_67 : decode cX8_cutsToAlike 67 = .ok (.iinc 2 1, 3) := by decide +kernel
theorem dX8_cutsToAlike_70 : decode cX8_cutsToAlike 70 = .ok (.goto (-63), 3) := by decide +kernel
theorem dX8_cutsToAlike_73 : decode cX8_cutsToAlike 73 = .ok (.bipush (-9), 2) := by decide +kernel
theorem dX8_cutsToAlike_75 : decode cX8_cutsToAlike 75 = .ok (.ireturn, 1) := by decide +kernel
theorem dX8_wayAt_0 : decode cX8_wayAt 0 = .ok (.iload_n 1, 1) := by decide +kernel
theorem dX8_wayAt_1 : decode cX8_wayAt 1 = .ok (.istore 4, 2) := by decide +kernel
theorem dX8_wayAt_3 : decode cX8_wayAt 3 = .ok (.iload_n 2, 1) := by decide +kernel
theorem dX8_wayAt_4 : decode cX8_wayAt 4 = .ok (.istore 5, 2) := by decide +kernel
theorem dX8_wayAt_6 : decode cX8_wayAt 6 = .ok (.iconst 0, 1) := by decide +kernel
theorem dX8_wayAt_7 : decode cX8_wayAt 7 = .ok (.istore 6, 2) := by decide +kernel
theorem dX8_wayAt_9 : decode cX8_wayAt 9 = .ok (.iload 6, 2) := by decide +kernel
theorem dX8_wayAt_11 : decode cX8_wayAt 11 = .ok (.iload_n 3, 1) := by decide +kernel
theorem dX8_wayAt_12 : decode cX8_wayAt 12 = .ok (.if_icmp .ge 27, 3) := by decide +kernel
theorem dX8_wayAt_15 : decode cX8_wayAt 15 = .ok (.aload_n 0, 1) := by decide +kernel
theorem dX8_wayAt_16 : decode cX8_wayAt 16 = .ok (.iload 4, 2) := by decide +kernel
theorem dX8_wayAt_18 : decode cX8_wayAt 18 = .ok (.iload 5, 2) := by decide +kernel
theorem dX8_wayAt_20 : decode cX8_wayAt 20 = .ok (.iconst 3, 1) := by decide +kernel
theorem dX8_wayAt_21 : decode cX8_wayAt 21 = .ok (.iand, 1) := by decide +kernel
theorem dX8_wayAt_22 : decode cX8_wayAt 22 = .ok (.invokevirtual 41, 3) := by decide +kernel
theorem dX8_wayAt_25 : decode cX8_wayAt 25 = .ok (.istore 4, 2) := by decide +kernel
theorem dX8_wayAt_27 : decode cX8_wayAt 27 = .ok (.iload 5, 2) := by decide +kernel
theorem dX8_wayAt_29 : decode cX8_wayAt 29 = .ok (.iconst 2, 1) := by decide +kernel
theorem dX8_wayAt_30 : decode cX8_wayAt 30 = .ok (.ishr, 1) := by decide +kernel
theorem dX8_wayAt_31 : decode cX8_wayAt 31 = .ok (.istore 5, 2) := by decide +kernel
theorem dX8_wayAt_33 : decode cX8_wayAt 33 = .ok (.iinc 6 1, 3) := by decide +kernel
theorem dX8_wayAt_36 : decode cX8_wayAt 36 = .ok (.goto (-27), 3) := by decide +kernel
theorem dX8_wayAt_39 : decode cX8_wayAt 39 = .ok (.iload 4, 2) := by decide +kernel
theorem dX8_wayAt_41 : decode cX8_wayAt 41 = .ok (.ireturn, 1) := by decide +kernel
theorem dX8_meeting_0 : decode cX8_meeting 0 = .ok (.iconst 0, 1) := by decide +kernel
theorem dX8_meeting_1 : decode cX8_meeting 1 = .ok (.istore 4, 2) := by decide +kernel
theorem dX8_meeting_3 : decode cX8_meeting 3 = .ok (.iload 4, 2) := by decide +kernel
theorem dX8_meeting_5 : decode cX8_meeting 5 = .ok (.bipush 16, 2) := by decide +kernel
theorem dX8_meeting_7 : decode cX8_meeting 7 = .ok (.if_icmp .ge 33, 3) := by decide +kernel
theorem dX8_meeting_10 : decode cX8_meeting 10 = .ok (.aload_n 0, 1) := by decide +kernel
theorem dX8_meeting_11 : decode cX8_meeting 11 = .ok (.getfield 22, 3) := by decide +kernel
theorem dX8_meeting_14 : decode cX8_meeting 14 = .ok (.iload 4, 2) := by decide +kernel
theorem dX8_meeting_16 : decode cX8_meeting 16 = .ok (.iload 4, 2) := by decide +kernel
theorem dX8_meeting_18 : decode cX8_meeting 18 = .ok (.iconst 4, 1) := by decide +kernel
theorem dX8_meeting_19 : decode cX8_meeting 19 = .ok (.idiv, 1) := by decide +kernel
theorem dX8_meeting_20 : decode cX8_meeting 20 = .ok (.iload 4, 2) := by decide +kernel
theorem dX8_meeting_22 : decode cX8_meeting 22 = .ok (.iconst 4, 1) := by decide +kernel
theorem dX8_meeting_23 : decode cX8_meeting 23 = .ok (.irem, 1) := by decide +kernel
theorem dX8_meeting_24 : decode cX8_meeting 24 = .ok (.if_icmp .ne 7, 3) := by decide +kernel
theorem dX8_meeting_27 : decode cX8_meeting 27 = .ok (.iconst 0, 1) := by decide +kernel
theorem dX8_meeting_28 : decode cX8_meeting 28 = .ok (.goto 5, 3) := by decide +kernel
theorem dX8_meeting_31 : decode cX8_meeting 31 = .ok (.bipush (-9), 2) := by decide +kernel
theorem dX8_meeting_33 : decode cX8_meeting 33 = .ok (.iastore, 1) := by decide +kernel
theorem dX8_meeting_34 : decode cX8_meeting 34 = .ok (.iinc 4 1, 3) := by decide +kernel
theorem dX8_meeting_37 : decode cX8_meeting 37 = .ok (.goto (-34), 3) := by decide +kernel
theorem dX8_meeting_40 : decode cX8_meeting 40 = .ok (.iload_n 1, 1) := by decide +kernel
theorem dX8_meeting_41 : decode cX8_meeting 41 = .ok (.iconst 4, 1) := by decide +kernel
theorem dX8_meeting_42 : decode cX8_meeting 42 = .ok (.imul, 1) := by decide +kernel
theorem dX8_meeting_43 : decode cX8_meeting 43 = .ok (.iload_n 2, 1) := by decide +kernel
theorem dX8_meeting_44 : decode cX8_meeting 44 = .ok (.iadd, 1) := by decide +kernel
theorem dX8_meeting_45 : decode cX8_meeting 45 = .ok (.istore 4, 2) := by decide +kernel
theorem dX8_meeting_47 : decode cX8_meeting 47 = .ok (.iconst 0, 1) := by decide +kernel
theorem dX8_meeting_48 : decode cX8_meeting 48 = .ok (.istore 5, 2) := by decide +kernel
theorem dX8_meeting_50 : decode cX8_meeting 50 = .ok (.aload_n 0, 1) := by decide +kernel
theorem dX8_meeting_51 : decode cX8_meeting 51 = .ok (.getfield 22, 3) := by decide +kernel
theorem dX8_meeting_54 : decode cX8_meeting 54 = .ok (.iload 4, 2) := by decide +kernel
theorem dX8_meeting_56 : decode cX8_meeting 56 = .ok (.iaload, 1) := by decide +kernel
theorem dX8_meeting_57 : decode cX8_meeting 57 = .ok (.bipush (-9), 2) := by decide +kernel
theorem dX8_meeting_59 : decode cX8_meeting 59 = .ok (.if_icmp .ne 20, 3) := by decide +kernel
theorem dX8_meeting_62 : decode cX8_meeting 62 = .ok (.iload 5, 2) := by decide +kernel
theorem dX8_meeting_64 : decode cX8_meeting 64 = .ok (.bipush 15, 2) := by decide +kernel
theorem dX8_meeting_66 : decode cX8_meeting 66 = .ok (.if_icmp .ge 13, 3) := by decide +kernel
theorem dX8_meeting_69 : decode cX8_meeting 69 = .ok (.aload_n 0, 1) := by decide +kernel
theorem dX8_meeting_70 : decode cX8_meeting 70 = .ok (.invokevirtual 45, 3) := by decide +kernel
theorem dX8_meeting_73 : decode cX8_meeting 73 = .ok (.iinc 5 1, 3) := by decide +kernel
theorem dX8_meeting_76 : decode cX8_meeting 76 = .ok (.goto (-26), 3) := by decide +kernel
theorem dX8_meeting_79 : decode cX8_meeting 79 = .ok (.aload_n 0, 1) := by decide +kernel
theorem dX8_meeting_80 : decode cX8_meeting 80 = .ok (.getfield 22, 3) := by decide +kernel
theorem dX8_meeting_83 : decode cX8_meeting 83 = .ok (.iload 4, 2) := by decide +kernel
theorem dX8_meeting_85 : decode cX8_meeting 85 = .ok (.iaload, 1) := by decide +kernel
theorem dX8_meeting_86 : decode cX8_meeting 86 = .ok (.bipush (-9), 2) := by decide +kernel
theorem dX8_meeting_88 : decode cX8_meeting 88 = .ok (.if_icmp .eq 7, 3) := by decide +kernel
theorem dX8_meeting_91 : decode cX8_meeting 91 = .ok (.iload_n 3, 1) := by decide +kernel
theorem dX8_meeting_92 : decode cX8_meeting 92 = .ok (.ifCond .eq 11, 3) := by decide +kernel
theorem dX8_meeting_95 : decode cX8_meeting 95 = .ok (.aload_n 0, 1) := by decide +kernel
theorem dX8_meeting_96 : decode cX8_meeting 96 = .ok (.getfield 22, 3) := by decide +kernel
theorem dX8_meeting_99 : decode cX8_meeting 99 = .ok (.iload 4, 2) := by decide +kernel
theorem dX8_meeting_101 : decode cX8_meeting 101 = .ok (.iaload, 1) := by decide +kernel
theorem dX8_meeting_102 : decode cX8_meeting 102 = .ok (.ireturn, 1) := by decide +kernel
theorem dX8_meeting_103 : decode cX8_meeting 103 = .ok (.iload 5, 2) := by decide +kernel
theorem dX8_meeting_105 : decode cX8_meeting 105 = .ok (.ireturn, 1) := by decide +kernel
theorem dX8_addFirstDigit_0 : decode cX8_addFirstDigit 0 = .ok (.iconst 0, 1) := by decide +kernel
theorem dX8_addFirstDigit_1 : decode cX8_addFirstDigit 1 = .ok (.istore_n 1, 1) := by decide +kernel
theorem dX8_addFirstDigit_2 : decode cX8_addFirstDigit 2 = .ok (.iload_n 1, 1) := by decide +kernel
theorem dX8_addFirstDigit_3 : decode cX8_addFirstDigit 3 = .ok (.bipush 16, 2) := by decide +kernel
theorem dX8_addFirstDigit_5 : decode cX8_addFirstDigit 5 = .ok (.if_icmp .ge 98, 3) := by decide +kernel
theorem dX8_addFirstDigit_8 : decode cX8_addFirstDigit 8 = .ok (.aload_n 0, 1) := by decide +kernel
theorem dX8_addFirstDigit_9 : decode cX8_addFirstDigit 9 = .ok (.getfield 25, 3) := by decide +kernel
theorem dX8_addFirstDigit_12 : decode cX8_addFirstDigit 12 = .ok (.iload_n 1, 1) := by decide +kernel
theorem dX8_addFirstDigit_13 : decode cX8_addFirstDigit 13 = .ok (.bipush (-9), 2) := by decide +kernel
theorem dX8_addFirstDigit_15 : decode cX8_addFirstDigit 15 = .ok (.iastore, 1) := by decide +kernel
theorem dX8_addFirstDigit_16 : decode cX8_addFirstDigit 16 = .ok (.iconst 0, 1) := by decide +kernel
theorem dX8_addFirstDigit_17 : decode cX8_addFirstDigit 17 = .ok (.istore_n 2, 1) := by decide +kernel
theorem dX8_addFirstDigit_18 : decode cX8_addFirstDigit 18 = .ok (.iload_n 2, 1) := by decide +kernel
theorem dX8_addFirstDigit_19 : decode cX8_addFirstDigit 19 = .ok (.iconst 4, 1) := by decide +kernel
theorem dX8_addFirstDigit_20 : decode cX8_addFirstDigit 20 = .ok (.if_icmp .ge 77, 3) := by decide +kernel
theorem dX8_addFirstDigit_23 : decode cX8_addFirstDigit 23 = .ok (.aload_n 0, 1) := by decide +kernel
theorem dX8_addFirstDigit_24 : decode cX8_addFirstDigit 24 = .ok (.getfield 22, 3) := by decide +kernel
theorem dX8_addFirstDigit_27 : decode cX8_addFirstDigit 27 = .ok (.aload_n 0, 1) := by decide +kernel
theorem dX8_addFirstDigit_28 : decode cX8_addFirstDigit 28 = .ok (.iload_n 1, 1) := by decide +kernel
theorem dX8_addFirstDigit_29 : decode cX8_addFirstDigit 29 = .ok (.iconst 4, 1) := by decide +kernel
theorem dX8_addFirstDigit_30 : decode cX8_addFirstDigit 30 = .ok (.idiv, 1) := by decide +kernel
theorem dX8_addFirstDigit_31 : decode cX8_addFirstDigit 31 = .ok (.iload_n 2, 1) := by decide +kernel
theorem dX8_addFirstDigit_32 : decode cX8_addFirstDigit 32 = .ok (.invokevirtual 41, 3) := by decide +kernel
theorem dX8_addFirstDigit_35 : decode cX8_addFirstDigit 35 = .ok (.iconst 4, 1) := by decide +kernel
theorem dX8_addFirstDigit_36 : decode cX8_addFirstDigit 36 = .ok (.imul, 1) := by decide +kernel
theorem dX8_addFirstDigit_37 : decode cX8_addFirstDigit 37 = .ok (.aload_n 0, 1) := by decide +kernel
theorem dX8_addFirstDigit_38 : decode cX8_addFirstDigit 38 = .ok (.iload_n 1, 1) := by decide +kernel
theorem dX8_addFirstDigit_39 : decode cX8_addFirstDigit 39 = .ok (.iconst 4, 1) := by decide +kernel
theorem dX8_addFirstDigit_40 : decode cX8_addFirstDigit 40 = .ok (.irem, 1) := by decide +kernel
theorem dX8_addFirstDigit_41 : decode cX8_addFirstDigit 41 = .ok (.iload_n 2, 1) := by decide +kernel
theorem dX8_addFirstDigit_42 : decode cX8_addFirstDigit 42 = .ok (.invokevirtual 41, 3) := by decide +kernel
theorem dX8_addFirstDigit_45 : decode cX8_addFirstDigit 45 = .ok (.iadd, 1) := by decide +kernel
theorem dX8_addFirstDigit_46 : decode cX8_addFirstDigit 46 = .ok (.iaload, 1) := by decide +kernel
theorem dX8_addFirstDigit_47 : decode cX8_addFirstDigit 47 = .ok (.istore_n 3, 1) := by decide +kernel
theorem dX8_addFirstDigit_48 : decode cX8_addFirstDigit 48 = .ok (.iload_n 3, 1) := by decide +kernel
theorem dX8_addFirstDigit_49 : decode cX8_addFirstDigit 49 = .ok (.iconst 4, 1) := by decide +kernel
theorem dX8_addFirstDigit_50 : decode cX8_addFirstDigit 50 = .ok (.imul, 1) := by decide +kernel
theorem dX8_addFirstDigit_51 : decode cX8_addFirstDigit 51 = .ok (.iload_n 2, 1) := by decide +kernel
theorem dX8_addFirstDigit_52 : decode cX8_addFirstDigit 52 = .ok (.iadd, 1) := by decide +kernel
theorem dX8_addFirstDigit_53 : decode cX8_addFirstDigit 53 = .ok (.istore 4, 2) := by decide +kernel
theorem dX8_addFirstDigit_55 : decode cX8_addFirstDigit 55 = .ok (.iload_n 3, 1) := by decide +kernel
theorem dX8_addFirstDigit_56 : decode cX8_addFirstDigit 56 = .ok (.bipush (-9), 2) := by decide +kernel
theorem dX8_addFirstDigit_58 : decode cX8_addFirstDigit 58 = .ok (.if_icmp .eq 33, 3) := by decide +kernel
theorem dX8_addFirstDigit_61 : decode cX8_addFirstDigit 61 = .ok (.aload_n 0, 1) := by decide +kernel
theorem dX8_addFirstDigit_62 : decode cX8_addFirstDigit 62 = .ok (.getfield 25, 3) := by decide +kernel
theorem dX8_addFirstDigit_65 : decode cX8_addFirstDigit 65 = .ok (.iload_n 1, 1) := by decide +kernel
theorem dX8_addFirstDigit_66 : decode cX8_addFirstDigit 66 = .ok (.iaload, 1) := by decide +kernel
theorem dX8_addFirstDigit_67 : decode cX8_addFirstDigit 67 = .ok (.bipush (-9), 2) := by decide +kernel
theorem dX8_addFirstDigit_69 : decode cX8_addFirstDigit 69 = .ok (.if_icmp .eq 14, 3) := by decide +kernel
theorem dX8_addFirstDigit_72 : decode cX8_addFirstDigit 72 = .ok (.iload 4, 2) := by decide +kernel
theorem dX8_addFirstDigit_74 : decode cX8_addFirstDigit 74 = .ok (.aload_n 0, 1) := by decide +kernel
theorem dX8_addFirstDigit_75 : decode cX8_addFirstDigit 75 = .ok (.getfield 25, 3) := by decide +kernel
theorem dX8_addFirstDigit_78 : decode cX8_addFirstDigit 78 = .ok (.iload_n 1, 1) := by decide +kernel
theorem dX8_addFirstDigit_79 : decode cX8_addFirstDigit 79 = .ok (.iaload, 1) := by decide +kernel
theorem dX8_addFirstDigit_80 : decode cX8_addFirstDigit 80 = .ok (.if_icmp .ge 11, 3) := by decide +kernel
theorem dX8_addFirstDigit_83 : decode cX8_addFirstDigit 83 = .ok (.aload_n 0, 1) := by decide +kernel
theorem dX8_addFirstDigit_84 : decode cX8_addFirstDigit 84 = .ok (.getfield 25, 3) := by decide +kernel
theorem dX8_addFirstDigit_87 : decode cX8_addFirstDigit 87 = .ok (.iload_n 1, 1) := by decide +kernel
theorem dX8_addFirstDigit_88 : decode cX8_addFirstDigit 88 = .ok (.iload 4, 2) := by decide +kernel
theorem dX8_addFirstDigit_90 : decode cX8_addFirstDigit 90 = .ok (.iastore, 1) := by decide +kernel
theorem dX8_addFirstDigit_91 : decode cX8_addFirstDigit 91 = .ok (.iinc 2 1, 3) := by decide +kernel
theorem dX8_addFirstDigit_94 : decode cX8_addFirstDigit 94 = .ok (.goto (-76), 3) := by decide +kernel
theorem dX8_addFirstDigit_97 : decode cX8_addFirstDigit 97 = .ok (.iinc 1 1, 3) := by decide +kernel
theorem dX8_addFirstDigit_100 : decode cX8_addFirstDigit 100 = .ok (.goto (-98), 3) := by decide +kernel
theorem dX8_addFirstDigit_103 : decode cX8_addFirstDigit 103 = .ok (.aload_n 0, 1) := by decide +kernel
theorem dX8_addFirstDigit_104 : decode cX8_addFirstDigit 104 = .ok (.getfield 25, 3) := by decide +kernel
theorem dX8_addFirstDigit_107 : decode cX8_addFirstDigit 107 = .ok (.iconst 0, 1) := by decide +kernel
theorem dX8_addFirstDigit_108 : decode cX8_addFirstDigit 108 = .ok (.aload_n 0, 1) := by decide +kernel
theorem dX8_addFirstDigit_109 : decode cX8_addFirstDigit 109 = .ok (.getfield 22, 3) := by decide +kernel
theorem dX8_addFirstDigit_112 : decode cX8_addFirstDigit 112 = .ok (.iconst 0, 1) := by decide +kernel
theorem dX8_addFirstDigit_113 : decode cX8_addFirstDigit 113 = .ok (.bipush 16, 2) := by decide +kernel
theorem dX8_addFirstDigit_115 : decode cX8_addFirstDigit 115 = .ok (.invokestatic 28, 3) := by decide +kernel
theorem dX8_addFirstDigit_118 : decode cX8_addFirstDigit 118 = .ok (.return_, 1) := by decide +kernel
theorem dX8_steadyWays_0 : decode cX8_steadyWays 0 = .ok (.iconst 1, 1) := by decide +kernel
theorem dX8_steadyWays_1 : decode cX8_steadyWays 1 = .ok (.iload_n 1, 1) := by decide +kernel
theorem dX8_steadyWays_2 : decode cX8_steadyWays 2 = .ok (.ishl, 1) := by decide +kernel
theorem dX8_steadyWays_3 : decode cX8_steadyWays 3 = .ok (.istore_n 2, 1) := by decide +kernel
theorem dX8_steadyWays_4 : decode cX8_steadyWays 4 = .ok (.iconst 0, 1) := by decide +kernel
theorem dX8_steadyWays_5 : decode cX8_steadyWays 5 = .ok (.istore_n 3, 1) := by decide +kernel
theorem dX8_steadyWays_6 : decode cX8_steadyWays 6 = .ok (.iconst 1, 1) := by decide +kernel
theorem dX8_steadyWays_7 : decode cX8_steadyWays 7 = .ok (.istore 4, 2) := by decide +kernel
theorem dX8_steadyWays_9 : decode cX8_steadyWays 9 = .ok (.iload 4, 2) := by decide +kernel
theorem dX8_steadyWays_11 : decode cX8_steadyWays 11 = .ok (.bipush 15, 2) := by decide +kernel
theorem dX8_steadyWays_13 : decode cX8_steadyWays 13 = .ok (.if_icmp .gt 29, 3) := by decide +kernel
theorem dX8_steadyWays_16 : decode cX8_steadyWays 16 = .ok (.aload_n 0, 1) := by decide +kernel
theorem dX8_steadyWays_17 : decode cX8_steadyWays 17 = .ok (.iload_n 2, 1) := by decide +kernel
theorem dX8_steadyWays_18 : decode cX8_steadyWays 18 = .ok (.invokevirtual 48, 3) := by decide +kernel
theorem dX8_steadyWays_21 : decode cX8_steadyWays 21 = .ok (.istore_n 2, 1) := by decide +kernel
theorem dX8_steadyWays_22 : decode cX8_steadyWays 22 = .ok (.iload_n 3, 1) := by decide +kernel
theorem dX8_steadyWays_23 : decode cX8_steadyWays 23 = .ok (.iload 4, 2) := by decide +kernel
theorem dX8_steadyWays_25 : decode cX8_steadyWays 25 = .ok (.iconst 4, 1) := by decide +kernel
theorem dX8_steadyWays_26 : decode cX8_steadyWays 26 = .ok (.if_icmp .lt 7, 3) := by decide +kernel
theorem dX8_steadyWays_29 : decode cX8_steadyWays 29 = .ok (.iload_n 2, 1) := by decide +kernel
theorem dX8_steadyWays_30 : decode cX8_steadyWays 30 = .ok (.goto 4, 3) := by decide +kernel
theorem dX8_steadyWays_33 : decode cX8_steadyWays 33 = .ok (.iconst 0, 1) := by decide +kernel
theorem dX8_steadyWays_34 : decode cX8_steadyWays 34 = .ok (.ior, 1) := by decide +kernel
theorem dX8_steadyWays_35 : decode cX8_steadyWays 35 = .ok (.istore_n 3, 1) := by decide +kernel
theorem dX8_steadyWays_36 : decode cX8_steadyWays 36 = .ok (.iinc 4 1, 3) := by decide +kernel
theorem dX8_steadyWays_39 : decode cX8_steadyWays 39 = .ok (.goto (-30), 3) := by decide +kernel
theorem dX8_steadyWays_42 : decode cX8_steadyWays 42 = .ok (.iload_n 3, 1) := by decide +kernel
theorem dX8_steadyWays_43 : decode cX8_steadyWays 43 = .ok (.ireturn, 1) := by decide +kernel
theorem dX8_waysBehind_0 : decode cX8_waysBehind 0 = .ok (.iconst 0, 1) := by decide +kernel
theorem dX8_waysBehind_1 : decode cX8_waysBehind 1 = .ok (.istore_n 2, 1) := by decide +kernel
theorem dX8_waysBehind_2 : decode cX8_waysBehind 2 = .ok (.iconst 0, 1) := by decide +kernel
theorem dX8_waysBehind_3 : decode cX8_waysBehind 3 = .ok (.istore_n 3, 1) := by decide +kernel
theorem dX8_waysBehind_4 : decode cX8_waysBehind 4 = .ok (.iload_n 3, 1) := by decide +kernel
theorem dX8_waysBehind_5 : decode cX8_waysBehind 5 = .ok (.bipush 16, 2) := by decide +kernel
theorem dX8_waysBehind_7 : decode cX8_waysBehind 7 = .ok (.if_icmp .ge 31, 3) := by decide +kernel
theorem dX8_waysBehind_10 : decode cX8_waysBehind 10 = .ok (.iload_n 1, 1) := by decide +kernel
theorem dX8_waysBehind_11 : decode cX8_waysBehind 11 = .ok (.iload_n 3, 1) := by decide +kernel
theorem dX8_waysBehind_12 : decode cX8_waysBehind 12 = .ok (.iconst 4, 1) := by decide +kernel
theorem dX8_waysBehind_13 : decode cX8_waysBehind 13 = .ok (.idiv, 1) := by decide +kernel
theorem dX8_waysBehind_14 : decode cX8_waysBehind 14 = .ok (.ishr, 1) := by decide +kernel
theorem dX8_waysBehind_15 : decode cX8_waysBehind 15 = .ok (.iconst 1, 1) := by decide +kernel
theorem dX8_waysBehind_16 : decode cX8_waysBehind 16 = .ok (.iand, 1) := by decide +kernel
theorem dX8_waysBehind_17 : decode cX8_waysBehind 17 = .ok (.iconst 1, 1) := by decide +kernel
theorem dX8_waysBehind_18 : decode cX8_waysBehind 18 = .ok (.if_icmp .ne 14, 3) := by decide +kernel
theorem dX8_waysBehind_21 : decode cX8_waysBehind 21 = .ok (.iload_n 2, 1) := by decide +kernel
theorem dX8_waysBehind_22 : decode cX8_waysBehind 22 = .ok (.iconst 1, 1) := by decide +kernel
theorem dX8_waysBehind_23 : decode cX8_waysBehind 23 = .ok (.aload_n 0, 1) := by decide +kernel
theorem dX8_waysBehind_24 : decode cX8_waysBehind 24 = .ok (.getfield 11, 3) := by decide +kernel
theorem dX8_waysBehind_27 : decode cX8_waysBehind 27 = .ok (.iload_n 3, 1) := by decide +kernel
theorem dX8_waysBehind_28 : decode cX8_waysBehind 28 = .ok (.iaload, 1) := by decide +kernel
theorem dX8_waysBehind_29 : decode cX8_waysBehind 29 = .ok (.ishl, 1) := by decide +kernel
theorem dX8_waysBehind_30 : decode cX8_waysBehind 30 = .ok (.ior, 1) := by decide +kernel
theorem dX8_waysBehind_31 : decode cX8_waysBehind 31 = .ok (.istore_n 2, 1) := by decide +kernel
theorem dX8_waysBehind_32 : decode cX8_waysBehind 32 = .ok (.iinc 3 1, 3) := by decide +kernel
theorem dX8_waysBehind_35 : decode cX8_waysBehind 35 = .ok (.goto (-31), 3) := by decide +kernel
theorem dX8_waysBehind_38 : decode cX8_waysBehind 38 = .ok (.iload_n 2, 1) := by decide +kernel
theorem dX8_waysBehind_39 : decode cX8_waysBehind 39 = .ok (.ireturn, 1) := by decide +kernel
theorem dX8_drawLots_0 : decode cX8_drawLots 0 = .ok (.iload_n 3, 1) := by decide +kernel
theorem dX8_drawLots_1 : decode cX8_drawLots 1 = .ok (.istore 5, 2) := by decide +kernel
theorem dX8_drawLots_3 : decode cX8_drawLots 3 = .ok (.iconst 0, 1) := by decide +kernel
theorem dX8_drawLots_4 : decode cX8_drawLots 4 = .ok (.istore 6, 2) := by decide +kernel
theorem dX8_drawLots_6 : decode cX8_drawLots 6 = .ok (.iconst 0, 1) := by decide +kernel
theorem dX8_drawLots_7 : decode cX8_drawLots 7 = .ok (.istore 7, 2) := by decide +kernel
theorem dX8_drawLots_9 : decode cX8_drawLots 9 = .ok (.iconst 0, 1) := by decide +kernel
theorem dX8_drawLots_10 : decode cX8_drawLots 10 = .ok (.istore 8, 2) := by decide +kernel
theorem dX8_drawLots_12 : decode cX8_drawLots 12 = .ok (.iload 8, 2) := by decide +kernel
theorem dX8_drawLots_14 : decode cX8_drawLots 14 = .ok (.iload_n 2, 1) := by decide +kernel
theorem dX8_drawLots_15 : decode cX8_drawLots 15 = .ok (.if_icmp .ge 79, 3) := by decide +kernel
theorem dX8_drawLots_18 : decode cX8_drawLots 18 = .ok (.iload_n 1, 1) := by decide +kernel
theorem dX8_drawLots_19 : decode cX8_drawLots 19 = .ok (.istore 9, 2) := by decide +kernel
theorem dX8_drawLots_21 : decode cX8_drawLots 21 = .ok (.iconst 0, 1) := by decide +kernel
theorem dX8_drawLots_22 : decode cX8_drawLots 22 = .ok (.istore 10, 2) := by decide +kernel
theorem dX8_drawLots_24 : decode cX8_drawLots 24 = .ok (.iload 10, 2) := by decide +kernel
theorem dX8_drawLots_26 : decode cX8_drawLots 26 = .ok (.bipush 8, 2) := by decide +kernel
theorem dX8_drawLots_28 : decode cX8_drawLots 28 = .ok (.if_icmp .ge 38, 3) := by decide +kernel
theorem dX8_drawLots_31 : decode cX8_drawLots 31 = .ok (.iload 5, 2) := by decide +kernel
theorem dX8_drawLots_33 : decode cX8_drawLots 33 = .ok (.ldc 52, 2) := by decide +kernel
theorem dX8_drawLots_35 : decode cX8_drawLots 35 = .ok (.imul, 1) := by decide +kernel
theorem dX8_drawLots_36 : decode cX8_drawLots 36 = .ok (.ldc 53, 2) := by decide +kernel
theorem dX8_drawLots_38 : decode cX8_drawLots 38 = .ok (.iadd, 1) := by decide +kernel
theorem dX8_drawLots_39 : decode cX8_drawLots 39 = .ok (.istore 5, 2) := by decide +kernel
theorem dX8_drawLots_41 : decode cX8_drawLots 41 = .ok (.aload_n 0, 1) := by decide +kernel
theorem dX8_drawLots_42 : decode cX8_drawLots 42 = .ok (.iload 9, 2) := by decide +kernel
theorem dX8_drawLots_44 : decode cX8_drawLots 44 = .ok (.iload 5, 2) := by decide +kernel
theorem dX8_drawLots_46 : decode cX8_drawLots 46 = .ok (.ldc 54, 2) := by decide +kernel
theorem dX8_drawLots_48 : decode cX8_drawLots 48 = .ok (.iand, 1) := by decide +kernel
theorem dX8_drawLots_49 : decode cX8_drawLots 49 = .ok (.sipush 256, 3) := by decide +kernel
theorem dX8_drawLots_52 : decode cX8_drawLots 52 = .ok (.idiv, 1) := by decide +kernel
theorem dX8_drawLots_53 : decode cX8_drawLots 53 = .ok (.iconst 4, 1) := by decide +kernel
theorem dX8_drawLots_54 : decode cX8_drawLots 54 = .ok (.irem, 1) := by decide +kernel
theorem dX8_drawLots_55 : decode cX8_drawLots 55 = .ok (.invokevirtual 41, 3) := by decide +kernel
theorem dX8_drawLots_58 : decode cX8_drawLots 58 = .ok (.istore 9, 2) := by decide +kernel
theorem dX8_drawLots_60 : decode cX8_drawLots 60 = .ok (.iinc 10 1, 3) := by decide +kernel
theorem dX8_drawLots_63 : decode cX8_drawLots 63 = .ok (.goto (-39), 3) := by decide +kernel
theorem dX8_drawLots_66 : decode cX8_drawLots 66 = .ok (.iload 6, 2) := by decide +kernel
theorem dX8_drawLots_68 : decode cX8_drawLots 68 = .ok (.iload 9, 2) := by decide +kernel
theorem dX8_drawLots_70 : decode cX8_drawLots 70 = .ok (.ifCond .ne 7, 3) := by decide +kernel
theorem dX8_drawLots_73 : decode cX8_drawLots 73 = .ok (.iconst 1, 1) := by decide +kernel
theorem dX8_drawLots_74 : decode cX8_drawLots 74 = .ok (.goto 4, 3) := by decide +kernel
theorem dX8_drawLots_77 : decode cX8_drawLots 77 = .ok (.iconst 0, 1) := by decide +kernel
theorem dX8_drawLots_78 : decode cX8_drawLots 78 = .ok (.iadd, 1) := by decide +kernel
theorem dX8_drawLots_79 : decode cX8_drawLots 79 = .ok (.istore 6, 2) := by decide +kernel
theorem dX8_drawLots_81 : decode cX8_drawLots 81 = .ok (.iload 7, 2) := by decide +kernel
theorem dX8_drawLots_83 : decode cX8_drawLots 83 = .ok (.iload 9, 2) := by decide +kernel
theorem dX8_drawLots_85 : decode cX8_drawLots 85 = .ok (.iadd, 1) := by decide +kernel
theorem dX8_drawLots_86 : decode cX8_drawLots 86 = .ok (.istore 7, 2) := by decide +kernel
theorem dX8_drawLots_88 : decode cX8_drawLots 88 = .ok (.iinc 8 1, 3) := by decide +kernel
theorem dX8_drawLots_91 : decode cX8_drawLots 91 = .ok (.goto (-79), 3) := by decide +kernel
theorem dX8_drawLots_94 : decode cX8_drawLots 94 = .ok (.iload 4, 2) := by decide +kernel
theorem dX8_drawLots_96 : decode cX8_drawLots 96 = .ok (.ifCond .eq 8, 3) := by decide +kernel
theorem dX8_drawLots_99 : decode cX8_drawLots 99 = .ok (.iload 7, 2) := by decide +kernel
theorem dX8_drawLots_101 : decode cX8_drawLots 101 = .ok (.goto 5, 3) := by decide +kernel
theorem dX8_drawLots_104 : decode cX8_drawLots 104 = .ok (.iload 6, 2) := by decide +kernel
theorem dX8_drawLots_106 : decode cX8_drawLots 106 = .ok (.ireturn, 1) := by decide +kernel
theorem dX9_init_0 : decode cX9_init 0 = .ok (.aload_n 0, 1) := by decide +kernel
theorem dX9_init_1 : decode cX9_init 1 = .ok (.invokespecial 1, 3) := by decide +kernel
theorem dX9_init_4 : decode cX9_init 4 = .ok (.aload_n 0, 1) := by decide +kernel
theorem dX9_init_5 : decode cX9_init 5 = .ok (.bipush 10, 2) := by decide +kernel
theorem dX9_init_7 : decode cX9_init 7 = .ok (.anewarray 9, 3) := by decide +kernel
theorem dX9_init_10 : decode cX9_init 10 = .ok (.putfield 11, 3) := by decide +kernel
theorem dX9_init_13 : decode cX9_init 13 = .ok (.aload_n 0, 1) := by decide +kernel
theorem dX9_init_14 : decode cX9_init 14 = .ok (.bipush 10, 2) := by decide +kernel
theorem dX9_init_16 : decode cX9_init 16 = .ok (.anewarray 15, 3) := by decide +kernel
theorem dX9_init_19 : decode cX9_init 19 = .ok (.putfield 17, 3) := by decide +kernel
theorem dX9_init_22 : decode cX9_init 22 = .ok (.return_, 1) := by decide +kernel
theorem dX9_copyFrom_0 : decode cX9_copyFrom 0 = .ok (.aload_n 0, 1) := by decide +kernel
theorem dX9_copyFrom_1 : decode cX9_copyFrom 1 = .ok (.aload_n 1, 1) := by decide +kernel
theorem dX9_copyFrom_2 : decode cX9_copyFrom 2 = .ok (.getfield 21, 3) := by decide +kernel
theorem dX9_copyFrom_5 : decode cX9_copyFrom 5 = .ok (.putfield 21, 3) := by decide +kernel
theorem dX9_copyFrom_8 : decode cX9_copyFrom 8 = .ok (.aload_n 0, 1) := by decide +kernel
theorem dX9_copyFrom_9 : decode cX9_copyFrom 9 = .ok (.aload_n 1, 1) := by decide +kernel
theorem dX9_copyFrom_10 : decode cX9_copyFrom 10 = .ok (.getfield 25, 3) := by decide +kernel
theorem dX9_copyFrom_13 : decode cX9_copyFrom 13 = .ok (.putfield 25, 3) := by decide +kernel
theorem dX9_copyFrom_16 : decode cX9_copyFrom 16 = .ok (.iconst 0, 1) := by decide +kernel
theorem dX9_copyFrom_17 : decode cX9_copyFrom 17 = .ok (.istore_n 2, 1) := by decide +kernel
theorem dX9_copyFrom_18 : decode cX9_copyFrom 18 = .ok (.iload_n 2, 1) := by decide +kernel
theorem dX9_copyFrom_19 : decode cX9_copyFrom 19 = .ok (.bipush 10, 2) := by decide +kernel
theorem dX9_copyFrom_21 : decode cX9_copyFrom 21 = .ok (.if_icmp .ge 33, 3) := by decide +kernel
theorem dX9_copyFrom_24 : decode cX9_copyFrom 24 = .ok (.aload_n 0, 1) := by decide +kernel
theorem dX9_copyFrom_25 : decode cX9_copyFrom 25 = .ok (.getfield 11, 3) := by decide +kernel
theorem dX9_copyFrom_28 : decode cX9_copyFrom 28 = .ok (.iload_n 2, 1) := by decide +kernel
theorem dX9_copyFrom_29 : decode cX9_copyFrom 29 = .ok (.aload_n 1, 1) := by decide +kernel
theorem dX9_copyFrom_30 : decode cX9_copyFrom 30 = .ok (.getfield 11, 3) := by decide +kernel
theorem dX9_copyFrom_33 : decode cX9_copyFrom 33 = .ok (.iload_n 2, 1) := by decide +kernel
theorem dX9_copyFrom_34 : decode cX9_copyFrom 34 = .ok (.aaload, 1) := by decide +kernel
theorem dX9_copyFrom_35 : decode cX9_copyFrom 35 = .ok (.aastore, 1) := by decide +kernel
theorem dX9_copyFrom_36 : decode cX9_copyFrom 36 = .ok (.aload_n 0, 1) := by decide +kernel
theorem dX9_copyFrom_37 : decode cX9_copyFrom 37 = .ok (.getfield 17, 3) := by decide +kernel
theorem dX9_copyFrom_40 : decode cX9_copyFrom 40 = .ok (.iload_n 2, 1) := by decide +kernel
theorem dX9_copyFrom_41 : decode cX9_copyFrom 41 = .ok (.aload_n 1, 1) := by decide +kernel
theorem dX9_copyFrom_42 : decode cX9_copyFrom 42 = .ok (.getfield 17, 3) := by decide +kernel
theorem dX9_copyFrom_45 : decode cX9_copyFrom 45 = .ok (.iload_n 2, 1) := by decide +kernel
theorem dX9_copyFrom_46 : decode cX9_copyFrom 46 = .ok (.aaload, 1) := by decide +kernel
theorem dX9_copyFrom_47 : decode cX9_copyFrom 47 = .ok (.aastore, 1) := by decide +kernel
theorem dX9_copyFrom_48 : decode cX9_copyFrom 48 = .ok (.iinc 2 1, 3) := by decide +kernel
theorem dX9_copyFrom_51 : decode cX9_copyFrom 51 = .ok (.goto (-33), 3) := by decide +kernel
theorem dX9_copyFrom_54 : decode cX9_copyFrom 54 = .ok (.return_, 1) := by decide +kernel
theorem dX9_hasPoint_0 : decode cX9_hasPoint 0 = .ok (.iload_n 1, 1) := by decide +kernel
theorem dX9_hasPoint_1 : decode cX9_hasPoint 1 = .ok (.ifCond .lt 15, 3) := by decide +kernel
theorem dX9_hasPoint_4 : decode cX9_hasPoint 4 = .ok (.iload_n 1, 1) := by decide +kernel
theorem dX9_hasPoint_5 : decode cX9_hasPoint 5 = .ok (.aload_n 0, 1) := by decide +kernel
theorem dX9_hasPoint_6 : decode cX9_hasPoint 6 = .ok (.getfield 21, 3) := by decide +kernel
theorem dX9_hasPoint_9 : decode cX9_hasPoint 9 = .ok (.if_icmp .ge 7, 3) := by decide +kernel
theorem dX9_hasPoint_12 : decode cX9_hasPoint 12 = .ok (.iconst 1, 1) := by decide +kernel
theorem dX9_hasPoint_13 : decode cX9_hasPoint 13 = .ok (.goto 4, 3) := by decide +kernel
theorem dX9_hasPoint_16 : decode cX9_hasPoint 16 = .ok (.iconst 0, 1) := by decide +kernel
theorem dX9_hasPoint_17 : decode cX9_hasPoint 17 = .ok (.ireturn, 1) := by decide +kernel
theorem dX9_hasTriangle_0 : decode cX9_hasTriangle 0 = .ok (.iload_n 1, 1) := by decide +kernel
theorem dX9_hasTriangle_1 : decode cX9_hasTriangle 1 = .ok (.ifCond .lt 15, 3) := by decide +kernel
theorem dX9_hasTriangle_4 : decode cX9_hasTriangle 4 = .ok (.iload_n 1, 1) := by decide +kernel
theorem dX9_hasTriangle_5 : decode cX9_hasTriangle 5 = .ok (.aload_n 0, 1) := by decide +kernel
theorem dX9_hasTriangle_6 : decode cX9_hasTriangle 6 = .ok (.getfield 25, 3) := by decide +kernel
theorem dX9_hasTriangle_9 : decode cX9_hasTriangle 9 = .ok (.if_icmp .ge 7, 3) := by decide +kernel
theorem dX9_hasTriangle_12 : decode cX9_hasTriangle 12 = .ok (.iconst 1, 1) := by decide +kernel
theorem dX9_hasTriangle_13 : decode cX9_hasTriangle 13 = .ok (.goto 4, 3) := by decide +kernel
theorem dX9_hasTriangle_16 : decode cX9_hasTriangle 16 = .ok (.iconst 0, 1) := by decide +kernel
theorem dX9_hasTriangle_17 : decode cX9_hasTriangle 17 = .ok (.ireturn, 1) := by decide +kernel
theorem dX9_hasSet_0 : decode cX9_hasSet 0 = .ok (.iload_n 1, 1) := by decide +kernel
theorem dX9_hasSet_1 : decode cX9_hasSet 1 = .ok (.ifCond .lt 16, 3) := by decide +kernel
theorem dX9_hasSet_4 : decode cX9_hasSet 4 = .ok (.iload_n 1, 1) := by decide +kernel
theorem dX9_hasSet_5 : decode cX9_hasSet 5 = .ok (.aload_n 0, 1) := by decide +kernel
theorem dX9_hasSet_6 : decode cX9_hasSet 6 = .ok (.getfield 25, 3) := by decide +kernel
theorem dX9_hasSet_9 : decode cX9_hasSet 9 = .ok (.ishr, 1) := by decide +kernel
theorem dX9_hasSet_10 : decode cX9_hasSet 10 = .ok (.ifCond .ne 7, 3) := by decide +kernel
theorem dX9_hasSet_13 : decode cX9_hasSet 13 = .ok (.iconst 1, 1) := by decide +kernel
theorem dX9_hasSet_14 : decode cX9_hasSet 14 = .ok (.goto 4, 3) := by decide +kernel
theorem dX9_hasSet_17 : decode cX9_hasSet 17 = .ok (.iconst 0, 1) := by decide +kernel
theorem dX9_hasSet_18 : decode cX9_hasSet 18 = .ok (.ireturn, 1) := by decide +kernel
theorem dX9_areThree_0 : decode cX9_areThree 0 = .ok (.iload_n 1, 1) := by decide +kernel
theorem dX9_areThree_1 : decode cX9_areThree 1 = .ok (.ifCond .lt 30, 3) := by decide +kernel
theorem dX9_areThree_4 : decode cX9_areThree 4 = .ok (.iload_n 1, 1) := by decide +kernel
theorem dX9_areThree_5 : decode cX9_areThree 5 = .ok (.iload_n 0, 1) := by decide +kernel
theorem dX9_areThree_6 : decode cX9_areThree 6 = .ok (.if_icmp .ge 25, 3) := by decide +kernel
theorem dX9_areThree_9 : decode cX9_areThree 9 = .ok (.iload_n 2, 1) := by decide +kernel
theorem dX9_areThree_10 : decode cX9_areThree 10 = .ok (.ifCond .lt 21, 3) := by decide +kernel
theorem dX9_areThree_13 : decode cX9_areThree 13 = .ok (.iload_n 2, 1) := by decide +kernel
theorem dX9_areThree_14 : decode cX9_areThree 14 = .ok (.iload_n 0, 1) := by decide +kernel
theorem dX9_areThree_15 : decode cX9_areThree 15 = .ok (.if_icmp .ge 16, 3) := by decide +kernel
theorem dX9_areThree_18 : decode cX9_areThree 18 = .ok (.iload_n 3, 1) := by decide +kernel
theorem dX9_areThree_19 : decode cX9_areThree 19 = .ok (.ifCond .lt 12, 3) := by decide +kernel
theorem dX9_areThree_22 : decode cX9_areThree 22 = .ok (.iload_n 3, 1) := by decide +kernel
theorem dX9_areThree_23 : decode cX9_areThree 23 = .ok (.iload_n 0, 1) := by decide +kernel
theorem dX9_areThree_24 : decode cX9_areThree 24 = .ok (.if_icmp .ge 7, 3) := by decide +kernel
theorem dX9_areThree_27 : decode cX9_areThree 27 = .ok (.iconst 1, 1) := by decide +kernel
theorem dX9_areThree_28 : decode cX9_areThree 28 = .ok (.goto 4, 3) := by decide +kernel
theorem dX9_areThree_31 : decode cX9_areThree 31 = .ok (.iconst 0, 1) := by decide +kernel
theorem dX9_areThree_32 : decode cX9_areThree 32 = .ok (.istore 4, 2) := by decide +kernel
theorem dX9_areThree_34 : decode cX9_areThree 34 = .ok (.iload 4, 2) := by decide +kernel
theorem dX9_areThree_36 : decode cX9_areThree 36 = .ok (.ifCond .eq 22, 3) := by decide +kernel
theorem dX9_areThree_39 : decode cX9_areThree 39 = .ok (.iload_n 1, 1) := by decide +kernel
theorem dX9_areThree_40 : decode cX9_areThree 40 = .ok (.iload_n 2, 1) := by decide +kernel
theorem dX9_areThree_41 : decode cX9_areThree 41 = .ok (.if_icmp .eq 17, 3) := by decide +kernel
theorem dX9_areThree_44 : decode cX9_areThree 44 = .ok (.iload_n 1, 1) := by decide +kernel
theorem dX9_areThree_45 : decode cX9_areThree 45 = .ok (.iload_n 3, 1) := by decide +kernel
theorem dX9_areThree_46 : decode cX9_areThree 46 = .ok (.if_icmp .eq 12, 3) := by decide +kernel
theorem dX9_areThree_49 : decode cX9_areThree 49 = .ok (.iload_n 2, 1) := by decide +kernel
theorem dX9_areThree_50 : decode cX9_areThree 50 = .ok (.iload_n 3, 1) := by decide +kernel
theorem dX9_areThree_51 : decode cX9_areThree 51 = .ok (.if_icmp .eq 7, 3) := by decide +kernel
theorem dX9_areThree_54 : decode cX9_areThree 54 = .ok (.iconst 1, 1) := by decide +kernel
theorem dX9_areThree_55 : decode cX9_areThree 55 = .ok (.goto 4, 3) := by decide +kernel
theorem dX9_areThree_58 : decode cX9_areThree 58 = .ok (.iconst 0, 1) := by decide +kernel
theorem dX9_areThree_59 : decode cX9_areThree 59 = .ok (.ireturn, 1) := by decide +kernel
theorem dX9_addPoint_0 : decode cX9_addPoint 0 = .ok (.aload_n 0, 1) := by decide +kernel
theorem dX9_addPoint_1 : decode cX9_addPoint 1 = .ok (.getfield 21, 3) := by decide +kernel
theorem dX9_addPoint_4 : decode cX9_addPoint 4 = .ok (.bipush 10, 2) := by decide +kernel
theorem dX9_addPoint_6 : decode cX9_addPoint 6 = .ok (.if_icmp .ge 37, 3) := by decide +kernel
theorem dX9_addPoint_9 : decode cX9_addPoint 9 = .ok (.aload_n 0, 1) := by decide +kernel
theorem dX9_addPoint_10 : decode cX9_addPoint 10 = .ok (.getfield 11, 3) := by decide +kernel
theorem dX9_addPoint_13 : decode cX9_addPoint 13 = .ok (.aload_n 0, 1) := by decide +kernel
theorem dX9_addPoint_14 : decode cX9_addPoint 14 = .ok (.getfield 21, 3) := by decide +kernel
theorem dX9_addPoint_17 : decode cX9_addPoint 17 = .ok (.new 9, 3) := by decide +kernel
theorem dX9_addPoint_20 : decode cX9_addPoint 20 = .ok (.dup, 1) := by decide +kernel
theorem dX9_addPoint_21 : decode cX9_addPoint 21 = .ok (.iload_n 1, 1) := by decide +kernel
theorem dX9_addPoint_22 : decode cX9_addPoint 22 = .ok (.invokestatic 28, 3) := by decide +kernel
theorem dX9_addPoint_25 : decode cX9_addPoint 25 = .ok (.iload_n 2, 1) := by decide +kernel
theorem dX9_addPoint_26 : decode cX9_addPoint 26 = .ok (.invokestatic 28, 3) := by decide +kernel
theorem dX9_addPoint_29 : decode cX9_addPoint 29 = .ok (.invokespecial 32, 3) := by decide +kernel
theorem dX9_addPoint_32 : decode cX9_addPoint 32 = .ok (.aastore, 1) := by decide +kernel
theorem dX9_addPoint_33 : decode cX9_addPoint 33 = .ok (.aload_n 0, 1) := by decide +kernel
theorem dX9_addPoint_34 : decode cX9_addPoint 34 = .ok (.dup, 1) := by decide +kernel
theorem dX9_addPoint_35 : decode cX9_addPoint 35 = .ok (.getfield 21, 3) := by decide +kernel
theorem dX9_addPoint_38 : decode cX9_addPoint 38 = .ok (.iconst 1, 1) := by decide +kernel
theorem dX9_addPoint_39 : decode cX9_addPoint 39 = .ok (.iadd, 1) := by decide +kernel
theorem dX9_addPoint_40 : decode cX9_addPoint 40 = .ok (.putfield 21, 3) := by decide +kernel
theorem dX9_addPoint_43 : decode cX9_addPoint 43 = .ok (.return_, 1) := by decide +kernel
theorem dX9_fractionOf_0 : decode cX9_fractionOf 0 = .ok (.iload_n 0, 1) := by decide +kernel
theorem dX9_fractionOf_1 : decode cX9_fractionOf 1 = .ok (.bipush 100, 2) := by decide +kernel
theorem dX9_fractionOf_3 : decode cX9_fractionOf 3 = .ok (.idiv, 1) := by decide +kernel
theorem dX9_fractionOf_4 : decode cX9_fractionOf 4 = .ok (.i2l, 1) := by decide +kernel
theorem dX9_fractionOf_5 : decode cX9_fractionOf 5 = .ok (.iload_n 0, 1) := by decide +kernel
theorem dX9_fractionOf_6 : decode cX9_fractionOf 6 = .ok (.bipush 100, 2) := by decide +kernel
theorem dX9_fractionOf_8 : decode cX9_fractionOf 8 = .ok (.irem, 1) := by decide +kernel
theorem dX9_fractionOf_9 : decode cX9_fractionOf 9 = .ok (.i2l, 1) := by decide +kernel
theorem dX9_fractionOf_10 : decode cX9_fractionOf 10 = .ok (.invokestatic 35, 3) := by decide +kernel
theorem dX9_fractionOf_13 : decode cX9_fractionOf 13 = .ok (.areturn, 1) := by decide +kernel
theorem dX9_addTriangle_0 : decode cX9_addTriangle 0 = .ok (.aload_n 0, 1) := by decide +kernel
theorem dX9_addTriangle_1 : decode cX9_addTriangle 1 = .ok (.getfield 25, 3) := by decide +kernel
theorem dX9_addTriangle_4 : decode cX9_addTriangle 4 = .ok (.bipush 10, 2) := by decide +kernel
theorem dX9_addTriangle_6 : decode cX9_addTriangle 6 = .ok (.if_icmp .ge 48, 3) := by decide +kernel
theorem dX9_addTriangle_9 : decode cX9_addTriangle 9 = .ok (.aload_n 0, 1) := by decide +kernel
theorem dX9_addTriangle_10 : decode cX9_addTriangle 10 = .ok (.getfield 21, 3) := by decide +kernel
theorem dX9_addTriangle_13 : decode cX9_addTriangle 13 = .ok (.iload_n 2, 1) := by decide +kernel
theorem dX9_addTriangle_14 : decode cX9_addTriangle 14 = .ok (.iload_n 3, 1) := by decide +kernel
theorem dX9_addTriangle_15 : decode cX9_addTriangle 15 = .ok (.iload 4, 2) := by decide +kernel
theorem dX9_addTriangle_17 : decode cX9_addTriangle 17 = .ok (.invokestatic 41, 3) := by decide +kernel
theorem dX9_addTriangle_20 : decode cX9_addTriangle 20 = .ok (.ifCond .eq 34, 3) := by decide +kernel
theorem dX9_addTriangle_23 : decode cX9_addTriangle 23 = .ok (.aload_n 0, 1) := by decide +kernel
theorem dX9_addTriangle_24 : decode cX9_addTriangle 24 = .ok (.getfield 17, 3) := by decide +kernel
theorem dX9_addTriangle_27 : decode cX9_addTriangle 27 = .ok (.aload_n 0, 1) := by decide +kernel
theorem dX9_addTriangle_28 : decode cX9_addTriangle 28 = .ok (.getfield 25, 3) := by decide +kernel
theorem dX9_addTriangle_31 : decode cX9_addTriangle 31 = .ok (.aload_n 0, 1) := by decide +kernel
theorem dX9_addTriangle_32 : decode cX9_addTriangle 32 = .ok (.getfield 11, 3) := by decide +kernel
theorem dX9_addTriangle_35 : decode cX9_addTriangle 35 = .ok (.iload_n 1, 1) := by decide +kernel
theorem dX9_addTriangle_36 : decode cX9_addTriangle 36 = .ok (.iload_n 2, 1) := by decide +kernel
theorem dX9_addTriangle_37 : decode cX9_addTriangle 37 = .ok (.iload_n 3, 1) := by decide +kernel
theorem dX9_addTriangle_38 : decode cX9_addTriangle 38 = .ok (.iload 4, 2) := by decide +kernel
theorem dX9_addTriangle_40 : decode cX9_addTriangle 40 = .ok (.invokestatic 45, 3) := by decide +kernel
theorem dX9_addTriangle_43 : decode cX9_addTriangle 43 = .ok (.aastore, 1) := by decide +kernel
theorem dX9_addTriangle_44 : decode cX9_addTriangle 44 = .ok (.aload_n 0, 1) := by decide +kernel
theorem dX9_addTriangle_45 : decode cX9_addTriangle 45 = .ok (.dup, 1) := by decide +kernel
theorem dX9_addTriangle_46 : decode cX9_addTriangle 46 = .ok (.getfield 25, 3) := by decide +kernel
theorem dX9_addTriangle_49 : decode cX9_addTriangle 49 = .ok (.iconst 1, 1) := by decide +kernel
theorem dX9_addTriangle_50 : decode cX9_addTriangle 50 = .ok (.iadd, 1) := by decide +kernel
theorem dX9_addTriangle_51 : decode cX9_addTriangle 51 = .ok (.putfield 25, 3) := by decide +kernel
theorem dX9_addTriangle_54 : decode cX9_addTriangle 54 = .ok (.return_, 1) := by decide +kernel
theorem dX9_isIn_0 : decode cX9_isIn 0 = .ok (.iload_n 1, 1) := by decide +kernel
theorem dX9_isIn_1 : decode cX9_isIn 1 = .ok (.iload_n 2, 1) := by decide +kernel
theorem dX9_isIn_2 : decode cX9_isIn 2 = .ok (.ishr, 1) := by decide +kernel
theorem dX9_isIn_3 : decode cX9_isIn 3 = .ok (.iconst 1, 1) := by decide +kernel
theorem dX9_isIn_4 : decode cX9_isIn 4 = .ok (.iand, 1) := by decide +kernel
theorem dX9_isIn_5 : decode cX9_isIn 5 = .ok (.iconst 1, 1) := by decide +kernel
theorem dX9_isIn_6 : decode cX9_isIn 6 = .ok (.if_icmp .ne 7, 3) := by decide +kernel
theorem dX9_isIn_9 : decode cX9_isIn 9 = .ok (.iconst 1, 1) := by decide +kernel
theorem dX9_isIn_10 : decode cX9_isIn 10 = .ok (.goto 4, 3) := by decide +kernel
theorem dX9_isIn_13 : decode cX9_isIn 13 = .ok (.iconst 0, 1) := by decide +kernel
theorem dX9_isIn_14 : decode cX9_isIn 14 = .ok (.ireturn, 1) := by decide +kernel
theorem dX9_exactSum_0 : decode cX9_exactSum 0 = .ok (.lconst 0, 1) := by decide +kernel
theorem dX9_exactSum_1 : decode cX9_exactSum 1 = .ok (.lconst 1, 1) := by decide +kernel
theorem dX9_exactSum_2 : decode cX9_exactSum 2 = .ok (.invokestatic 35, 3) := by decide +kernel
theorem dX9_exactSum_5 : decode cX9_exactSum 5 = .ok (.astore_n 2, 1) := by decide +kernel
theorem dX9_exactSum_6 : decode cX9_exactSum 6 = .ok (.iconst 0, 1) := by decide +kernel
theorem dX9_exactSum_7 : decode cX9_exactSum 7 = .ok (.istore_n 3, 1) := by decide +kernel
theorem dX9_exactSum_8 : decode cX9_exactSum 8 = .ok (.iload_n 3, 1) := by decide +kernel
theorem dX9_exactSum_9 : decode cX9_exactSum 9 = .ok (.aload_n 0, 1) := by decide +kernel
theorem dX9_exactSum_10 : decode cX9_exactSum 10 = .ok (.getfield 25, 3) := by decide +kernel
theorem dX9_exactSum_13 : decode cX9_exactSum 13 = .ok (.if_icmp .ge 61, 3) := by decide +kernel
theorem dX9_exactSum_16 : decode cX9_exactSum 16 = .ok (.aload_n 0, 1) := by decide +kernel
theorem dX9_exactSum_17 : decode cX9_exactSum 17 = .ok (.iload_n 1, 1) := by decide +kernel
theorem dX9_exactSum_18 : decode cX9_exactSum 18 = .ok (.iload_n 3, 1) := by decide +kernel
theorem dX9_exactSum_19 : decode cX9_exactSum 19 = .ok (.invokevirtual 49, 3) := by decide +kernel
theorem dX9_exactSum_22 : decode cX9_exactSum 22 = .ok (.ifCond .eq 46, 3) := by decide +kernel
theorem dX9_exactSum_25 : decode cX9_exactSum 25 = .ok (.aload_n 0, 1) := by decide +kernel
theorem dX9_exactSum_26 : decode cX9_exactSum 26 = .ok (.getfield 17, 3) := by decide +kernel
theorem dX9_exactSum_29 : decode cX9_exactSum 29 = .ok (.iload_n 3, 1) := by decide +kernel
theorem dX9_exactSum_30 : decode cX9_exactSum 30 = .ok (.aaload, 1) := by decide +kernel
theorem dX9_exactSum_31 : decode cX9_exactSum 31 = .ok (.getfield 53, 3) := by decide +kernel
theorem dX9_exactSum_34 : decode cX9_exactSum 34 = .ok (.astore 4, 2) := by decide +kernel
theorem dX9_exactSum_36 : decode cX9_exactSum 36 = .ok (.aload 4, 2) := by decide +kernel
theorem dX9_exactSum_38 : decode cX9_exactSum 38 = .ok (.ldc2_w 57, 3) := by decide +kernel
theorem dX9_exactSum_41 : decode cX9_exactSum 41 = .ok (.invokevirtual 59, 3) := by decide +kernel
theorem dX9_exactSum_44 : decode cX9_exactSum 44 = .ok (.ifCond .eq 5, 3) := by decide +kernel
theorem dX9_exactSum_47 : decode cX9_exactSum 47 = .ok (.aconst_null, 1) := by decide +kernel
theorem dX9_exactSum_48 : decode cX9_exactSum 48 = .ok (.areturn, 1) := by decide +kernel
theorem dX9_exactSum_49 : decode cX9_exactSum 49 = .ok (.aload_n 2, 1) := by decide +kernel
theorem dX9_exactSum_50 : decode cX9_exactSum 50 = .ok (.aload 4, 2) := by decide +kernel
theorem dX9_exactSum_52 : decode cX9_exactSum 52 = .ok (.invokevirtual 63, 3) := by decide +kernel
theorem dX9_exactSum_55 : decode cX9_exactSum 55 = .ok (.astore_n 2, 1) := by decide +kernel
theorem dX9_exactSum_56 : decode cX9_exactSum 56 = .ok (.aload_n 2, 1) := by decide +kernel
theorem dX9_exactSum_57 : decode cX9_exactSum 57 = .ok (.ldc2_w 57, 3) := by decide +kernel
theorem dX9_exactSum_60 : decode cX9_exactSum 60 = .ok (.invokevirtual 59, 3) := by decide +kernel
theorem dX9_exactSum_63 : decode cX9_exactSum 63 = .ok (.ifCond .eq 5, 3) := by decide +kernel
theorem dX9_exactSum_66 : decode cX9_exactSum 66 = .ok (.aconst_null, 1) := by decide +kernel
theorem dX9_exactSum_67 : decode cX9_exactSum 67 = .ok (.areturn, 1) := by decide +kernel
theorem dX9_exactSum_68 : decode cX9_exactSum 68 = .ok (.iinc 3 1, 3) := by decide +kernel
theorem dX9_exactSum_71 : decode cX9_exactSum 71 = .ok (.goto (-63), 3) := by decide +kernel
theorem dX9_exactSum_74 : decode cX9_exactSum 74 = .ok (.aload_n 2, 1) := by decide +kernel
theorem dX9_exactSum_75 : decode cX9_exactSum 75 = .ok (.areturn, 1) := by decide +kernel
theorem dX9_evenOnes_0 : decode cX9_evenOnes 0 = .ok (.iconst 0, 1) := by decide +kernel
theorem dX9_evenOnes_1 : decode cX9_evenOnes 1 = .ok (.istore_n 2, 1) := by decide +kernel
theorem dX9_evenOnes_2 : decode cX9_evenOnes 2 = .ok (.iconst 0, 1) := by decide +kernel
theorem dX9_evenOnes_3 : decode cX9_evenOnes 3 = .ok (.istore_n 3, 1) := by decide +kernel
theorem dX9_evenOnes_4 : decode cX9_evenOnes 4 = .ok (.iload_n 3, 1) := by decide +kernel
theorem dX9_evenOnes_5 : decode cX9_evenOnes 5 = .ok (.aload_n 0, 1) := by decide +kernel
theorem dX9_evenOnes_6 : decode cX9_evenOnes 6 = .ok (.getfield 25, 3) := by decide +kernel
theorem dX9_evenOnes_9 : decode cX9_evenOnes 9 = .ok (.if_icmp .ge 40, 3) := by decide +kernel
theorem dX9_evenOnes_12 : decode cX9_evenOnes 12 = .ok (.aload_n 0, 1) := by decide +kernel
theorem dX9_evenOnes_13 : decode cX9_evenOnes 13 = .ok (.iload_n 1, 1) := by decide +kernel
theorem dX9_evenOnes_14 : decode cX9_evenOnes 14 = .ok (.iload_n 3, 1) := by decide +kernel
theorem dX9_evenOnes_15 : decode cX9_evenOnes 15 = .ok (.invokevirtual 49, 3) := by decide +kernel
theorem dX9_evenOnes_18 : decode cX9_evenOnes 18 = .ok (.ifCond .eq 25, 3) := by decide +kernel
theorem dX9_evenOnes_21 : decode cX9_evenOnes 21 = .ok (.aload_n 0, 1) := by decide +kernel
theorem dX9_evenOnes_22 : decode cX9_evenOnes 22 = .ok (.getfield 17, 3) := by decide +kernel
theorem dX9_evenOnes_25 : decode cX9_evenOnes 25 = .ok (.iload_n 3, 1) := by decide +kernel
theorem dX9_evenOnes_26 : decode cX9_evenOnes 26 = .ok (.aaload, 1) := by decide +kernel
theorem dX9_evenOnes_27 : decode cX9_evenOnes 27 = .ok (.getfield 53, 3) := by decide +kernel
theorem dX9_evenOnes_30 : decode cX9_evenOnes 30 = .ok (.invokevirtual 67, 3) := by decide +kernel
theorem dX9_evenOnes_33 : decode cX9_evenOnes 33 = .ok (.iconst (-1), 1) := by decide +kernel
theorem dX9_evenOnes_34 : decode cX9_evenOnes 34 = .ok (.if_icmp .gt 9, 3) := by decide +kernel
theorem dX9_evenOnes_37 : decode cX9_evenOnes 37 = .ok (.iload_n 2, 1) := by decide +kernel
theorem dX9_evenOnes_38 : decode cX9_evenOnes 38 = .ok (.iconst 1, 1) := by decide +kernel
theorem dX9_evenOnes_39 : decode cX9_evenOnes 39 = .ok (.iload_n 3, 1) := by decide +kernel
theorem dX9_evenOnes_40 : decode cX9_evenOnes 40 = .ok (.ishl, 1) := by decide +kernel
theorem dX9_evenOnes_41 : decode cX9_evenOnes 41 = .ok (.ior, 1) := by decide +kernel
theorem dX9_evenOnes_42 : decode cX9_evenOnes 42 = .ok (.istore_n 2, 1) := by decide +kernel
theorem dX9_evenOnes_43 : decode cX9_evenOnes 43 = .ok (.iinc 3 1, 3) := by decide +kernel
theorem dX9_evenOnes_46 : decode cX9_evenOnes 46 = .ok (.goto (-42), 3) := by decide +kernel
theorem dX9_evenOnes_49 : decode cX9_evenOnes 49 = .ok (.iload_n 2, 1) := by decide +kernel
theorem dX9_evenOnes_50 : decode cX9_evenOnes 50 = .ok (.ireturn, 1) := by decide +kernel
theorem dX9_rainbows_0 : decode cX9_rainbows 0 = .ok (.iconst 0, 1) := by decide +kernel
theorem dX9_rainbows_1 : decode cX9_rainbows 1 = .ok (.istore_n 2, 1) := by decide +kernel
theorem dX9_rainbows_2 : decode cX9_rainbows 2 = .ok (.iconst 0, 1) := by decide +kernel
theorem dX9_rainbows_3 : decode cX9_rainbows 3 = .ok (.istore_n 3, 1) := by decide +kernel
theorem dX9_rainbows_4 : decode cX9_rainbows 4 = .ok (.iload_n 3, 1) := by decide +kernel
theorem dX9_rainbows_5 : decode cX9_rainbows 5 = .ok (.aload_n 0, 1) := by decide +kernel
theorem dX9_rainbows_6 : decode cX9_rainbows 6 = .ok (.getfield 25, 3) := by decide +kernel
theorem dX9_rainbows_9 : decode cX9_rainbows 9 = .ok (.if_icmp .ge 36, 3) := by decide +kernel
theorem dX9_rainbows_12 : decode cX9_rainbows 12 = .ok (.aload_n 0, 1) := by decide +kernel
theorem dX9_rainbows_13 : decode cX9_rainbows 13 = .ok (.iload_n 1, 1) := by decide +kernel
theorem dX9_rainbows_14 : decode cX9_rainbows 14 = .ok (.iload_n 3, 1) := by decide +kernel
theorem dX9_rainbows_15 : decode cX9_rainbows 15 = .ok (.invokevirtual 49, 3) := by decide +kernel
theorem dX9_rainbows_18 : decode cX9_rainbows 18 = .ok (.ifCond .eq 21, 3) := by decide +kernel
theorem dX9_rainbows_21 : decode cX9_rainbows 21 = .ok (.aload_n 0, 1) := by decide +kernel
theorem dX9_rainbows_22 : decode cX9_rainbows 22 = .ok (.getfield 17, 3) := by decide +kernel
theorem dX9_rainbows_25 : decode cX9_rainbows 25 = .ok (.iload_n 3, 1) := by decide +kernel
theorem dX9_rainbows_26 : decode cX9_rainbows 26 = .ok (.aaload, 1) := by decide +kernel
theorem dX9_rainbows_27 : decode cX9_rainbows 27 = .ok (.invokevirtual 71, 3) := by decide +kernel
theorem dX9_rainbows_30 : decode cX9_rainbows 30 = .ok (.ifCond .eq 9, 3) := by decide +kernel
theorem dX9_rainbows_33 : decode cX9_rainbows 33 = .ok (.iload_n 2, 1) := by decide +kernel
theorem dX9_rainbows_34 : decode cX9_rainbows 34 = .ok (.iconst 1, 1) := by decide +kernel
theorem dX9_rainbows_35 : decode cX9_rainbows 35 = .ok (.iload_n 3, 1) := by decide +kernel
theorem dX9_rainbows_36 : decode cX9_rainbows 36 = .ok (.ishl, 1) := by decide +kernel
theorem dX9_rainbows_37 : decode cX9_rainbows 37 = .ok (.ior, 1) := by decide +kernel
theorem dX9_rainbows_38 : decode cX9_rainbows 38 = .ok (.istore_n 2, 1) := by decide +kernel
theorem dX9_rainbows_39 : decode cX9_rainbows 39 = .ok (.iinc 3 1, 3) := by decide +kernel
theorem dX9_rainbows_42 : decode cX9_rainbows 42 = .ok (.goto (-38), 3) := by decide +kernel
theorem dX9_rainbows_45 : decode cX9_rainbows 45 = .ok (.iload_n 2, 1) := by decide +kernel
theorem dX9_rainbows_46 : decode cX9_rainbows 46 = .ok (.ireturn, 1) := by decide +kernel
theorem dX9_areAlike_0 : decode cX9_areAlike 0 = .ok (.aconst_null, 1) := by decide +kernel
theorem dX9_areAlike_1 : decode cX9_areAlike 1 = .ok (.astore_n 2, 1) := by decide +kernel
theorem dX9_areAlike_2 : decode cX9_areAlike 2 = .ok (.iconst 0, 1) := by decide +kernel
theorem dX9_areAlike_3 : decode cX9_areAlike 3 = .ok (.istore_n 3, 1) := by decide +kernel
theorem dX9_areAlike_4 : decode cX9_areAlike 4 = .ok (.iload_n 3, 1) := by decide +kernel
theorem dX9_areAlike_5 : decode cX9_areAlike 5 = .ok (.aload_n 0, 1) := by decide +kernel
theorem dX9_areAlike_6 : decode cX9_areAlike 6 = .ok (.getfield 25, 3) := by decide +kernel
theorem dX9_areAlike_9 : decode cX9_areAlike 9 = .ok (.if_icmp .ge 50, 3) := by decide +kernel
theorem dX9_areAlike_12 : decode cX9_areAlike 12 = .ok (.aload_n 0, 1) := by decide +kernel
theorem dX9_areAlike_13 : decode cX9_areAlike 13 = .ok (.iload_n 1, 1) := by decide +kernel
theorem dX9_areAlike_14 : decode cX9_areAlike 14 = .ok (.iload_n 3, 1) := by decide +kernel
theorem dX9_areAlike_15 : decode cX9_areAlike 15 = .ok (.invokevirtual 49, 3) := by decide +kernel
theorem dX9_areAlike_18 : decode cX9_areAlike 18 = .ok (.ifCond .eq 35, 3) := by decide +kernel
theorem dX9_areAlike_21 : decode cX9_areAlike 21 = .ok (.aload_n 2, 1) := by decide +kernel
theorem dX9_areAlike_22 : decode cX9_areAlike 22 = .ok (.ifnull 21, 3) := by decide +kernel
theorem dX9_areAlike_25 : decode cX9_areAlike 25 = .ok (.aload_n 2, 1) := by decide +kernel
theorem dX9_areAlike_26 : decode cX9_areAlike 26 = .ok (.aload_n 0, 1) := by decide +kernel
theorem dX9_areAlike_27 : decode cX9_areAlike 27 = .ok (.getfield 17, 3) := by decide +kernel
theorem dX9_areAlike_30 : decode cX9_areAlike 30 = .ok (.iload_n 3, 1) := by decide +kernel
theorem dX9_areAlike_31 : decode cX9_areAlike 31 = .ok (.aaload, 1) := by decide +kernel
theorem dX9_areAlike_32 : decode cX9_areAlike 32 = .ok (.getfield 53, 3) := by decide +kernel
theorem dX9_areAlike_35 : decode cX9_areAlike 35 = .ok (.invokevirtual 75, 3) := by decide +kernel
theorem dX9_areAlike_38 : decode cX9_areAlike 38 = .ok (.ifCond .ne 5, 3) := by decide +kernel
theorem dX9_areAlike_41 : decode cX9_areAlike 41 = .ok (.iconst 0, 1) := by decide +kernel
theorem dX9_areAlike_42 : decode cX9_areAlike 42 = .ok (.ireturn, 1) := by decide +kernel
theorem dX9_areAlike_43 : decode cX9_areAlike 43 = .ok (.aload_n 0, 1) := by decide +kernel
theorem dX9_areAlike_44 : decode cX9_areAlike 44 = .ok (.getfield 17, 3) := by decide +kernel
theorem dX9_areAlike_47 : decode cX9_areAlike 47 = .ok (.iload_n 3, 1) := by decide +kernel
theorem dX9_areAlike_48 : decode cX9_areAlike 48 = .ok (.aaload, 1) := by decide +kernel
theorem dX9_areAlike_49 : decode cX9_areAlike 49 = .ok (.getfield 53, 3) := by decide +kernel
theorem dX9_areAlike_52 : decode cX9_areAlike 52 = .ok (.astore_n 2, 1) := by decide +kernel
theorem dX9_areAlike_53 : decode cX9_areAlike 53 = .ok (.iinc 3 1, 3) := by decide +kernel
theorem dX9_areAlike_56 : decode cX9_areAlike 56 = .ok (.goto (-52), 3) := by decide +kernel
theorem dX9_areAlike_59 : decode cX9_areAlike 59 = .ok (.iconst 1, 1) := by decide +kernel
theorem dX9_areAlike_60 : decode cX9_areAlike 60 = .ok (.ireturn, 1) := by decide +kernel
theorem dX9_floatSum_0 : decode cX9_floatSum 0 = .ok (.fconst 0, 1) := by decide +kernel
theorem dX9_floatSum_1 : decode cX9_floatSum 1 = .ok (.fstore_n 2, 1) := by decide +kernel
theorem dX9_floatSum_2 : decode cX9_floatSum 2 = .ok (.iconst 0, 1) := by decide +kernel
theorem dX9_floatSum_3 : decode cX9_floatSum 3 = .ok (.istore_n 3, 1) := by decide +kernel
theorem dX9_floatSum_4 : decode cX9_floatSum 4 = .ok (.iload_n 3, 1) := by decide +kernel
theorem dX9_floatSum_5 : decode cX9_floatSum 5 = .ok (.aload_n 0, 1) := by decide +kernel
theorem dX9_floatSum_6 : decode cX9_floatSum 6 = .ok (.getfield 25, 3) := by decide +kernel
theorem dX9_floatSum_9 : decode cX9_floatSum 9 = .ok (.if_icmp .ge 33, 3) := by decide +kernel
theorem dX9_floatSum_12 : decode cX9_floatSum 12 = .ok (.aload_n 0, 1) := by decide +kernel
theorem dX9_floatSum_13 : decode cX9_floatSum 13 = .ok (.iload_n 1, 1) := by decide +kernel
theorem dX9_floatSum_14 : decode cX9_floatSum 14 = .ok (.iload_n 3, 1) := by decide +kernel
theorem dX9_floatSum_15 : decode cX9_floatSum 15 = .ok (.invokevirtual 49, 3) := by decide +kernel
theorem dX9_floatSum_18 : decode cX9_floatSum 18 = .ok (.ifCond .eq 18, 3) := by decide +kernel
theorem dX9_floatSum_21 : decode cX9_floatSum 21 = .ok (.fload_n 2, 1) := by decide +kernel
theorem dX9_floatSum_22 : decode cX9_floatSum 22 = .ok (.aload_n 0, 1) := by decide +kernel
theorem dX9_floatSum_23 : decode cX9_floatSum 23 = .ok (.getfield 17, 3) := by decide +kernel
theorem dX9_floatSum_26 : decode cX9_floatSum 26 = .ok (.iload_n 3, 1) := by decide +kernel
theorem dX9_floatSum_27 : decode cX9_floatSum 27 = .ok (.aaload, 1) := by decide +kernel
theorem dX9_floatSum_28 : decode cX9_floatSum 28 = .ok (.getfield 53, 3) := by decide +kernel
theorem dX9_floatSum_31 : decode cX9_floatSum 31 = .ok (.invokevirtual 79, 3) := by decide +kernel
theorem dX9_floatSum_34 : decode cX9_floatSum 34 = .ok (.fadd, 1) := by decide +kernel
theorem dX9_floatSum_35 : decode cX9_floatSum 35 = .ok (.fstore_n 2, 1) := by decide +kernel
theorem dX9_floatSum_36 : decode cX9_floatSum 36 = .ok (.iinc 3 1, 3) := by decide +kernel
theorem dX9_floatSum_39 : decode cX9_floatSum 39 = .ok (.goto (-35), 3) := by decide +kernel
theorem dX9_floatSum_42 : decode cX9_floatSum 42 = .ok (.fload_n 2, 1) := by decide +kernel
theorem dX9_floatSum_43 : decode cX9_floatSum 43 = .ok (.freturn, 1) := by decide +kernel
theorem dX9_doubleSum_0 : decode cX9_doubleSum 0 = .ok (.dconst 0, 1) := by decide +kernel
theorem dX9_doubleSum_1 : decode cX9_doubleSum 1 = .ok (.dstore_n 2, 1) := by decide +kernel
theorem dX9_doubleSum_2 : decode cX9_doubleSum 2 = .ok (.iconst 0, 1) := by decide +kernel
theorem dX9_doubleSum_3 : decode cX9_doubleSum 3 = .ok (.istore 4, 2) := by decide +kernel
theorem dX9_doubleSum_5 : decode cX9_doubleSum 5 = .ok (.iload 4, 2) := by decide +kernel
theorem dX9_doubleSum_7 : decode cX9_doubleSum 7 = .ok (.aload_n 0, 1) := by decide +kernel
theorem dX9_doubleSum_8 : decode cX9_doubleSum 8 = .ok (.getfield 25, 3) := by decide +kernel
theorem dX9_doubleSum_11 : decode cX9_doubleSum 11 = .ok (.if_icmp .ge 35, 3) := by decide +kernel
theorem dX9_doubleSum_14 : decode cX9_doubleSum 14 = .ok (.aload_n 0, 1) := by decide +kernel
theorem dX9_doubleSum_15 : decode cX9_doubleSum 15 = .ok (.iload_n 1, 1) := by decide +kernel
theorem dX9_doubleSum_16 : decode cX9_doubleSum 16 = .ok (.iload 4, 2) := by decide +kernel
theorem dX9_doubleSum_18 : decode cX9_doubleSum 18 = .ok (.invokevirtual 49, 3) := by decide +kernel
theorem dX9_doubleSum_21 : decode cX9_doubleSum 21 = .ok (.ifCond .eq 19, 3) := by decide +kernel
theorem dX9_doubleSum_24 : decode cX9_doubleSum 24 = .ok (.dload_n 2, 1) := by decide +kernel
theorem dX9_doubleSum_25 : decode cX9_doubleSum 25 = .ok (.aload_n 0, 1) := by decide +kernel
theorem dX9_doubleSum_26 : decode cX9_doubleSum 26 = .ok (.getfield 17, 3) := by decide +kernel
theorem dX9_doubleSum_29 : decode cX9_doubleSum 29 = .ok (.iload 4, 2) := by decide +kernel
theorem dX9_doubleSum_31 : decode cX9_doubleSum 31 = .ok (.aaload, 1) := by decide +kernel
theorem dX9_doubleSum_32 : decode cX9_doubleSum 32 = .ok (.getfield 53, 3) := by decide +kernel
theorem dX9_doubleSum_35 : decode cX9_doubleSum 35 = .ok (.invokevirtual 83, 3) := by decide +kernel
theorem dX9_doubleSum_38 : decode cX9_doubleSum 38 = .ok (.dadd, 1) := by decide +kernel
theorem dX9_doubleSum_39 : decode cX9_doubleSum 39 = .ok (.dstore_n 2, 1) := by decide +kernel
theorem dX9_doubleSum_40 : decode cX9_doubleSum 40 = .ok (.iinc 4 1, 3) := by decide +kernel
theorem dX9_doubleSum_43 : decode cX9_doubleSum 43 = .ok (.goto (-38), 3) := by decide +kernel
theorem dX9_doubleSum_46 : decode cX9_doubleSum 46 = .ok (.dload_n 2, 1) := by decide +kernel
theorem dX9_doubleSum_47 : decode cX9_doubleSum 47 = .ok (.dreturn, 1) := by decide +kernel
theorem dX10_init_0 : decode cX10_init 0 = .ok (.aload_n 0, 1) := by decide +kernel
theorem dX10_init_1 : decode cX10_init 1 = .ok (.invokespecial 1, 3) := by decide +kernel
theorem dX10_init_4 : decode cX10_init 4 = .ok (.aload_n 0, 1) := by decide +kernel
theorem dX10_init_5 : decode cX10_init 5 = .ok (.iload_n 1, 1) := by decide +kernel
theorem dX10_init_6 : decode cX10_init 6 = .ok (.putfield 7, 3) := by decide +kernel
theorem dX10_init_9 : decode cX10_init 9 = .ok (.aload_n 0, 1) := by decide +kernel
theorem dX10_init_10 : decode cX10_init 10 = .ok (.iload_n 2, 1) := by decide +kernel
theorem dX10_init_11 : decode cX10_init 11 = .ok (.putfield 13, 3) := by decide +kernel
theorem dX10_init_14 : decode cX10_init 14 = .ok (.aload_n 0, 1) := by decide +kernel
theorem dX10_init_15 : decode cX10_init 15 = .ok (.iload_n 3, 1) := by decide +kernel
theorem dX10_init_16 : decode cX10_init 16 = .ok (.putfield 16, 3) := by decide +kernel
theorem dX10_init_19 : decode cX10_init 19 = .ok (.aload_n 0, 1) := by decide +kernel
theorem dX10_init_20 : decode cX10_init 20 = .ok (.iload 4, 2) := by decide +kernel
theorem dX10_init_22 : decode cX10_init 22 = .ok (.putfield 19, 3) := by decide +kernel
theorem dX10_init_25 : decode cX10_init 25 = .ok (.aload_n 0, 1) := by decide +kernel
theorem dX10_init_26 : decode cX10_init 26 = .ok (.iload 5, 2) := by decide +kernel
theorem dX10_init_28 : decode cX10_init 28 = .ok (.putfield 22, 3) := by decide +kernel
theorem dX10_init_31 : decode cX10_init 31 = .ok (.aload_n 0, 1) := by decide +kernel
theorem dX10_init_32 : decode cX10_init 32 = .ok (.aload 6, 2) := by decide +kernel
theorem dX10_init_34 : decode cX10_init 34 = .ok (.putfield 25, 3) := by decide +kernel
theorem dX10_init_37 : decode cX10_init 37 = .ok (.return_, 1) := by decide +kernel
theorem dX10_lyingOn_0 : decode cX10_lyingOn 0 = .ok (.aload_n 0, 1) := by decide +kernel
theorem dX10_lyingOn_1 : decode cX10_lyingOn 1 = .ok (.iload_n 2, 1) := by decide +kernel
theorem dX10_lyingOn_2 : decode cX10_lyingOn 2 = .ok (.aaload, 1) := by decide +kernel
theorem dX10_lyingOn_3 : decode cX10_lyingOn 3 = .ok (.astore 5, 2) := by decide +kernel
theorem dX10_lyingOn_5 : decode cX10_lyingOn 5 = .ok (.aload_n 0, 1) := by decide +kernel
theorem dX10_lyingOn_6 : decode cX10_lyingOn 6 = .ok (.iload_n 3, 1) := by decide +kernel
theorem dX10_lyingOn_7 : decode cX10_lyingOn 7 = .ok (.aaload, 1) := by decide +kernel
theorem dX10_lyingOn_8 : decode cX10_lyingOn 8 = .ok (.astore 6, 2) := by decide +kernel
theorem dX10_lyingOn_10 : decode cX10_lyingOn 10 = .ok (.aload_n 0, 1) := by decide +kernel
theorem dX10_lyingOn_11 : decode cX10_lyingOn 11 = .ok (.iload 4, 2) := by decide +kernel
theorem dX10_lyingOn_13 : decode cX10_lyingOn 13 = .ok (.aaload, 1) := by decide +kernel
theorem dX10_lyingOn_14 : decode cX10_lyingOn 14 = .ok (.astore 7, 2) := by decide +kernel
theorem dX10_lyingOn_16 : decode cX10_lyingOn 16 = .ok (.iload_n 1, 1) := by decide +kernel
theorem dX10_lyingOn_17 : decode cX10_lyingOn 17 = .ok (.iconst 3, 1) := by decide +kernel
theorem dX10_lyingOn_18 : decode cX10_lyingOn 18 = .ok (.invokestatic 29, 3) := by decide +kernel
theorem dX10_lyingOn_21 : decode cX10_lyingOn 21 = .ok (.istore 8, 2) := by decide +kernel
theorem dX10_lyingOn_23 : decode cX10_lyingOn 23 = .ok (.iconst 1, 1) := by decide +kernel
theorem dX10_lyingOn_24 : decode cX10_lyingOn 24 = .ok (.aload 5, 2) := by decide +kernel
theorem dX10_lyingOn_26 : decode cX10_lyingOn 26 = .ok (.iload 8, 2) := by decide +kernel
theorem dX10_lyingOn_28 : decode cX10_lyingOn 28 = .ok (.invokevirtual 33, 3) := by decide +kernel
theorem dX10_lyingOn_31 : decode cX10_lyingOn 31 = .ok (.ishl, 1) := by decide +kernel
theorem dX10_lyingOn_32 : decode cX10_lyingOn 32 = .ok (.iconst 1, 1) := by decide +kernel
theorem dX10_lyingOn_33 : decode cX10_lyingOn 33 = .ok (.aload 6, 2) := by decide +kernel
theorem dX10_lyingOn_35 : decode cX10_lyingOn 35 = .ok (.iload 8, 2) := by decide +kernel
theorem dX10_lyingOn_37 : decode cX10_lyingOn 37 = .ok (.invokevirtual 33, 3) := by decide +kernel
theorem dX10_lyingOn_40 : decode cX10_lyingOn 40 = .ok (.ishl, 1) := by decide +kernel
theorem dX10_lyingOn_41 : decode cX10_lyingOn 41 = .ok (.ior, 1) := by decide +kernel
theorem dX10_lyingOn_42 : decode cX10_lyingOn 42 = .ok (.iconst 1, 1) := by decide +kernel
theorem dX10_lyingOn_43 : decode cX10_lyingOn 43 = .ok (.aload 7, 2) := by decide +kernel
theorem dX10_lyingOn_45 : decode cX10_lyingOn 45 = .ok (.iload 8, 2) := by decide +kernel
theorem dX10_lyingOn_47 : decode cX10_lyingOn 47 = .ok (.invokevirtual 33, 3) := by decide +kernel
theorem dX10_lyingOn_50 : decode cX10_lyingOn 50 = .ok (.ishl, 1) := by decide +kernel
theorem dX10_lyingOn_51 : decode cX10_lyingOn 51 = .ok (.ior, 1) := by decide +kernel
theorem dX10_lyingOn_52 : decode cX10_lyingOn 52 = .ok (.istore 9, 2) := by decide +kernel
theorem dX10_lyingOn_54 : decode cX10_lyingOn 54 = .ok (.aload 6, 2) := by decide +kernel
theorem dX10_lyingOn_56 : decode cX10_lyingOn 56 = .ok (.getfield 39, 3) := by decide +kernel
theorem dX10_lyingOn_59 : decode cX10_lyingOn 59 = .ok (.aload 5, 2) := by decide +kernel
theorem dX10_lyingOn_61 : decode cX10_lyingOn 61 = .ok (.getfield 39, 3) := by decide +kernel
theorem dX10_lyingOn_64 : decode cX10_lyingOn 64 = .ok (.invokevirtual 42, 3) := by decide +kernel
theorem dX10_lyingOn_67 : decode cX10_lyingOn 67 = .ok (.aload 7, 2) := by decide +kernel
theorem dX10_lyingOn_69 : decode cX10_lyingOn 69 = .ok (.getfield 48, 3) := by decide +kernel
theorem dX10_lyingOn_72 : decode cX10_lyingOn 72 = .ok (.aload 5, 2) := by decide +kernel
theorem dX10_lyingOn_74 : decode cX10_lyingOn 74 = .ok (.getfield 48, 3) := by decide +kernel
theorem dX10_lyingOn_77 : decode cX10_lyingOn 77 = .ok (.invokevirtual 42, 3) := by decide +kernel
theorem dX10_lyingOn_80 : decode cX10_lyingOn 80 = .ok (.invokevirtual 51, 3) := by decide +kernel
theorem dX10_lyingOn_83 : decode cX10_lyingOn 83 = .ok (.astore 10, 2) := by decide +kernel
theorem dX10_lyingOn_85 : decode cX10_lyingOn 85 = .ok (.aload 7, 2) := by decide +kernel
theorem dX10_lyingOn_87 : decode cX10_lyingOn 87 = .ok (.getfield 39, 3) := by decide +kernel
theorem dX10_lyingOn_90 : decode cX10_lyingOn 90 = .ok (.aload 5, 2) := by decide +kernel
theorem dX10_lyingOn_92 : decode cX10_lyingOn 92 = .ok (.getfield 39, 3) := by decide +kernel
theorem dX10_lyingOn_95 : decode cX10_lyingOn 95 = .ok (.invokevirtual 42, 3) := by decide +kernel
theorem dX10_lyingOn_98 : decode cX10_lyingOn 98 = .ok (.aload 6, 2) := by decide +kernel
theorem dX10_lyingOn_100 : decode cX10_lyingOn 100 = .ok (.getfield 48, 3) := by decide +kernel
theorem dX10_lyingOn_103 : decode cX10_lyingOn 103 = .ok (.aload 5, 2) := by decide +kernel
theorem dX10_lyingOn_105 : decode cX10_lyingOn 105 = .ok (.getfield 48, 3) := by decide +kernel
theorem dX10_lyingOn_108 : decode cX10_lyingOn 108 = .ok (.invokevirtual 42, 3) := by decide +kernel
theorem dX10_lyingOn_111 : decode cX10_lyingOn 111 = .ok (.invokevirtual 51, 3) := by decide +kernel
theorem dX10_lyingOn_114 : decode cX10_lyingOn 114 = .ok (.astore 11, 2) := by decide +kernel
theorem dX10_lyingOn_116 : decode cX10_lyingOn 116 = .ok (.aload 10, 2) := by decide +kernel
theorem dX10_lyingOn_118 : decode cX10_lyingOn 118 = .ok (.aload 11, 2) := by decide +kernel
theorem dX10_lyingOn_120 : decode cX10_lyingOn 120 = .ok (.invokevirtual 42, 3) := by decide +kernel
theorem dX10_lyingOn_123 : decode cX10_lyingOn 123 = .ok (.astore 12, 2) := by decide +kernel
theorem dX10_lyingOn_125 : decode cX10_lyingOn 125 = .ok (.aload 12, 2) := by decide +kernel
theorem dX10_lyingOn_127 : decode cX10_lyingOn 127 = .ok (.getfield 54, 3) := by decide +kernel
theorem dX10_lyingOn_130 : decode cX10_lyingOn 130 = .ok (.invokestatic 58, 3) := by decide +kernel
theorem dX10_lyingOn_133 : decode cX10_lyingOn 133 = .ok (.getstatic 64, 3) := by decide +kernel
theorem dX10_lyingOn_136 : decode cX10_lyingOn 136 = .ok (.iload_n 1, 1) := by decide +kernel
theorem dX10_lyingOn_137 : decode cX10_lyingOn 137 = .ok (.iaload, 1) := by decide +kernel
theorem dX10_lyingOn_138 : decode cX10_lyingOn 138 = .ok (.i2l, 1) := by decide +kernel
theorem dX10_lyingOn_139 : decode cX10_lyingOn 139 = .ok (.lmul, 1) := by decide +kernel
theorem dX10_lyingOn_140 : decode cX10_lyingOn 140 = .ok (.aload 12, 2) := by decide +kernel
theorem dX10_lyingOn_142 : decode cX10_lyingOn 142 = .ok (.getfield 68, 3) := by decide +kernel
theorem dX10_lyingOn_145 : decode cX10_lyingOn 145 = .ok (.ldc2_w 71, 3) := by decide +kernel
theorem dX10_lyingOn_148 : decode cX10_lyingOn 148 = .ok (.lmul, 1) := by decide +kernel
theorem dX10_lyingOn_149 : decode cX10_lyingOn 149 = .ok (.getstatic 73, 3) := by decide +kernel
theorem dX10_lyingOn_152 : decode cX10_lyingOn 152 = .ok (.iload_n 1, 1) := by decide +kernel
theorem dX10_lyingOn_153 : decode cX10_lyingOn 153 = .ok (.iaload, 1) := by decide +kernel
theorem dX10_lyingOn_154 : decode cX10_lyingOn 154 = .ok (.i2l, 1) := by decide +kernel
theorem dX10_lyingOn_155 : decode cX10_lyingOn 155 = .ok (.lmul, 1) := by decide +kernel
theorem dX10_lyingOn_156 : decode cX10_lyingOn 156 = .ok (.invokestatic 76, 3) := by decide +kernel
theorem dX10_lyingOn_159 : decode cX10_lyingOn 159 = .ok (.astore 13, 2) := by decide +kernel
theorem dX10_lyingOn_161 : decode cX10_lyingOn 161 = .ok (.new 8, 3) := by decide +kernel
theorem dX10_lyingOn_164 : decode cX10_lyingOn 164 = .ok (.dup, 1) := by decide +kernel
theorem dX10_lyingOn_165 : decode cX10_lyingOn 165 = .ok (.iload_n 1, 1) := by decide +kernel
theorem dX10_lyingOn_166 : decode cX10_lyingOn 166 = .ok (.iload_n 2, 1) := by decide +kernel
theorem dX10_lyingOn_167 : decode cX10_lyingOn 167 = .ok (.iload_n 3, 1) := by decide +kernel
theorem dX10_lyingOn_168 : decode cX10_lyingOn 168 = .ok (.iload 4, 2) := by decide +kernel
theorem dX10_lyingOn_170 : decode cX10_lyingOn 170 = .ok (.iload 9, 2) := by decide +kernel
theorem dX10_lyingOn_172 : decode cX10_lyingOn 172 = .ok (.aload 13, 2) := by decide +kernel
theorem dX10_lyingOn_174 : decode cX10_lyingOn 174 = .ok (.invokespecial 80, 3) := by decide +kernel
theorem dX10_lyingOn_177 : decode cX10_lyingOn 177 = .ok (.areturn, 1) := by decide +kernel
theorem dX10_isKind_0 : decode cX10_isKind 0 = .ok (.iload_n 0, 1) := by decide +kernel
theorem dX10_isKind_1 : decode cX10_isKind 1 = .ok (.ifCond .lt 13, 3) := by decide +kernel
theorem dX10_isKind_4 : decode cX10_isKind 4 = .ok (.iload_n 0, 1) := by decide +kernel
theorem dX10_isKind_5 : decode cX10_isKind 5 = .ok (.bipush 6, 2) := by decide +kernel
theorem dX10_isKind_7 : decode cX10_isKind 7 = .ok (.if_icmp .ge 7, 3) := by decide +kernel
theorem dX10_isKind_10 : decode cX10_isKind 10 = .ok (.iconst 1, 1) := by decide +kernel
theorem dX10_isKind_11 : decode cX10_isKind 11 = .ok (.goto 4, 3) := by decide +kernel
theorem dX10_isKind_14 : decode cX10_isKind 14 = .ok (.iconst 0, 1) := by decide +kernel
theorem dX10_isKind_15 : decode cX10_isKind 15 = .ok (.ireturn, 1) := by decide +kernel
theorem dX10_isUnder_0 : decode cX10_isUnder 0 = .ok (.iload_n 0, 1) := by decide +kernel
theorem dX10_isUnder_1 : decode cX10_isUnder 1 = .ok (.istore_n 2, 1) := by decide +kernel
theorem dX10_isUnder_2 : decode cX10_isUnder 2 = .ok (.iconst 0, 1) := by decide +kernel
theorem dX10_isUnder_3 : decode cX10_isUnder 3 = .ok (.istore_n 3, 1) := by decide +kernel
theorem dX10_isUnder_4 : decode cX10_isUnder 4 = .ok (.iload_n 3, 1) := by decide +kernel
theorem dX10_isUnder_5 : decode cX10_isUnder 5 = .ok (.bipush 6, 2) := by decide +kernel
theorem dX10_isUnder_7 : decode cX10_isUnder 7 = .ok (.if_icmp .ge 29, 3) := by decide +kernel
theorem dX10_isUnder_10 : decode cX10_isUnder 10 = .ok (.iload_n 2, 1) := by decide +kernel
theorem dX10_isUnder_11 : decode cX10_isUnder 11 = .ok (.invokestatic 83, 3) := by decide +kernel
theorem dX10_isUnder_14 : decode cX10_isUnder 14 = .ok (.ifCond .eq 22, 3) := by decide +kernel
theorem dX10_isUnder_17 : decode cX10_isUnder 17 = .ok (.iload_n 2, 1) := by decide +kernel
theorem dX10_isUnder_18 : decode cX10_isUnder 18 = .ok (.iload_n 1, 1) := by decide +kernel
theorem dX10_isUnder_19 : decode cX10_isUnder 19 = .ok (.if_icmp .ne 5, 3) := by decide +kernel
theorem dX10_isUnder_22 : decode cX10_isUnder 22 = .ok (.iconst 1, 1) := by decide +kernel
theorem dX10_isUnder_23 : decode cX10_isUnder 23 = .ok (.ireturn, 1) := by decide +kernel
theorem dX10_isUnder_24 : decode cX10_isUnder 24 = .ok (.getstatic 87, 3) := by decide +kernel
theorem dX10_isUnder_27 : decode cX10_isUnder 27 = .ok (.iload_n 2, 1) := by decide +kernel
theorem dX10_isUnder_28 : decode cX10_isUnder 28 = .ok (.iaload, 1) := by decide +kernel
theorem dX10_isUnder_29 : decode cX10_isUnder 29 = .ok (.istore_n 2, 1) := by decide +kernel
theorem dX10_isUnder_30 : decode cX10_isUnder 30 = .ok (.iinc 3 1, 3) := by decide +kernel
theorem dX10_isUnder_33 : decode cX10_isUnder 33 = .ok (.goto (-29), 3) := by decide +kernel
theorem dX10_isUnder_36 : decode cX10_isUnder 36 = .ok (.iconst 0, 1) := by decide +kernel
theorem dX10_isUnder_37 : decode cX10_isUnder 37 = .ok (.ireturn, 1) := by decide +kernel
theorem dX10_isRainbow_0 : decode cX10_isRainbow 0 = .ok (.aload_n 0, 1) := by decide +kernel
theorem dX10_isRainbow_1 : decode cX10_isRainbow 1 = .ok (.getfield 22, 3) := by decide +kernel
theorem dX10_isRainbow_4 : decode cX10_isRainbow 4 = .ok (.bipush 7, 2) := by decide +kernel
theorem dX10_isRainbow_6 : decode cX10_isRainbow 6 = .ok (.if_icmp .ne 7, 3) := by decide +kernel
theorem dX10_isRainbow_9 : decode cX10_isRainbow 9 = .ok (.iconst 1, 1) := by decide +kernel
theorem dX10_isRainbow_10 : decode cX10_isRainbow 10 = .ok (.goto 4, 3) := by decide +kernel
theorem dX10_isRainbow_13 : decode cX10_isRainbow 13 = .ok (.iconst 0, 1) := by decide +kernel
theorem dX10_isRainbow_14 : decode cX10_isRainbow 14 = .ok (.ireturn, 1) := by decide +kernel
theorem dJxe99ae_isNaN_b9ae7_0 : decode cJxe99ae_isNaN_b9ae7 0 = .ok (.dload_n 0, 1) := by decide +kernel
theorem dJxe99ae_isNaN_b9ae7_1 : decode cJxe99ae_isNaN_b9ae7 1 = .ok (.dload_n 0, 1) := by decide +kernel
theorem dJxe99ae_isNaN_b9ae7_2 : decode cJxe99ae_isNaN_b9ae7 2 = .ok (.dcmp .l, 1) := by decide +kernel
theorem dJxe99ae_isNaN_b9ae7_3 : decode cJxe99ae_isNaN_b9ae7 3 = .ok (.ifCond .eq 7, 3) := by decide +kernel
theorem dJxe99ae_isNaN_b9ae7_6 : decode cJxe99ae_isNaN_b9ae7 6 = .ok (.iconst 1, 1) := by decide +kernel
theorem dJxe99ae_isNaN_b9ae7_7 : decode cJxe99ae_isNaN_b9ae7 7 = .ok (.goto 4, 3) := by decide +kernel
theorem dJxe99ae_isNaN_b9ae7_10 : decode cJxe99ae_isNaN_b9ae7 10 = .ok (.iconst 0, 1) := by decide +kernel
theorem dJxe99ae_isNaN_b9ae7_11 : decode cJxe99ae_isNaN_b9ae7 11 = .ok (.ireturn, 1) := by decide +kernel
theorem dJxe99ae_doubleToLongBits_ccdee_0 : decode cJxe99ae_doubleToLongBits_ccdee 0 = .ok (.dload_n 0, 1) := by decide +kernel
theorem dJxe99ae_doubleToLongBits_ccdee_1 : decode cJxe99ae_doubleToLongBits_ccdee 1 = .ok (.invokestatic 122, 3) := by decide +kernel
theorem dJxe99ae_doubleToLongBits_ccdee_4 : decode cJxe99ae_doubleToLongBits_ccdee 4 = .ok (.ifCond .ne 8, 3) := by decide +kernel
theorem dJxe99ae_doubleToLongBits_ccdee_7 : decode cJxe99ae_doubleToLongBits_ccdee 7 = .ok (.dload_n 0, 1) := by decide +kernel
theorem dJxe99ae_doubleToLongBits_ccdee_8 : decode cJxe99ae_doubleToLongBits_ccdee 8 = .ok (.invokestatic 134, 3) := by decide +kernel
theorem dJxe99ae_doubleToLongBits_ccdee_11 : decode cJxe99ae_doubleToLongBits_ccdee 11 = .ok (.lreturn, 1) := by decide +kernel
theorem dJxe99ae_doubleToLongBits_ccdee_12 : decode cJxe99ae_doubleToLongBits_ccdee 12 = .ok (.ldc2_w 137, 3) := by decide +kernel
theorem dJxe99ae_doubleToLongBits_ccdee_15 : decode cJxe99ae_doubleToLongBits_ccdee 15 = .ok (.lreturn, 1) := by decide +kernel
theorem dJxf58ca_isNaN_12338_0 : decode cJxf58ca_isNaN_12338 0 = .ok (.fload_n 0, 1) := by decide +kernel
theorem dJxf58ca_isNaN_12338_1 : decode cJxf58ca_isNaN_12338 1 = .ok (.fload_n 0, 1) := by decide +kernel
theorem dJxf58ca_isNaN_12338_2 : decode cJxf58ca_isNaN_12338 2 = .ok (.fcmp .l, 1) := by decide +kernel
theorem dJxf58ca_isNaN_12338_3 : decode cJxf58ca_isNaN_12338 3 = .ok (.ifCond .eq 7, 3) := by decide +kernel
theorem dJxf58ca_isNaN_12338_6 : decode cJxf58ca_isNaN_12338 6 = .ok (.iconst 1, 1) := by decide +kernel
theorem dJxf58ca_isNaN_12338_7 : decode cJxf58ca_isNaN_12338 7 = .ok (.goto 4, 3) := by decide +kernel
theorem dJxf58ca_isNaN_12338_10 : decode cJxf58ca_isNaN_12338 10 = .ok (.iconst 0, 1) := by decide +kernel
theorem dJxf58ca_isNaN_12338_11 : decode cJxf58ca_isNaN_12338 11 = .ok (.ireturn, 1) := by decide +kernel
theorem dJxf58ca_floatToIntBits_5c35a_0 : decode cJxf58ca_floatToIntBits_5c35a 0 = .ok (.fload_n 0, 1) := by decide +kernel
theorem dJxf58ca_floatToIntBits_5c35a_1 : decode cJxf58ca_floatToIntBits_5c35a 1 = .ok (.invokestatic 59, 3) := by decide +kernel
theorem dJxf58ca_floatToIntBits_5c35a_4 : decode cJxf58ca_floatToIntBits_5c35a 4 = .ok (.ifCond .ne 8, 3) := by decide +kernel
theorem dJxf58ca_floatToIntBits_5c35a_7 : decode cJxf58ca_floatToIntBits_5c35a 7 = .ok (.fload_n 0, 1) := by decide +kernel
theorem dJxf58ca_floatToIntBits_5c35a_8 : decode cJxf58ca_floatToIntBits_5c35a 8 = .ok (.invokestatic 74, 3) := by decide +kernel
theorem dJxf58ca_floatToIntBits_5c35a_11 : decode cJxf58ca_floatToIntBits_5c35a 11 = .ok (.ireturn, 1) := by decide +kernel
theorem dJxf58ca_floatToIntBits_5c35a_12 : decode cJxf58ca_floatToIntBits_5c35a 12 = .ok (.ldc 77, 2) := by decide +kernel
theorem dJxf58ca_floatToIntBits_5c35a_14 : decode cJxf58ca_floatToIntBits_5c35a 14 = .ok (.ireturn, 1) := by decide +kernel
theorem dJ6_numberOfTrailingZeros_0f7a4_0 : decode cJ6_numberOfTrailingZeros_0f7a4 0 = .ok (.iload_n 0, 1) := by decide +kernel
theorem dJ6_numberOfTrailingZeros_0f7a4_1 : decode cJ6_numberOfTrailingZeros_0f7a4 1 = .ok (.iconst (-1), 1) := by decide +kernel
theorem dJ6_numberOfTrailingZeros_0f7a4_2 : decode cJ6_numberOfTrailingZeros_0f7a4 2 = .ok (.ixor, 1) := by decide +kernel
theorem dJ6_numberOfTrailingZeros_0f7a4_3 : decode cJ6_numberOfTrailingZeros_0f7a4 3 = .ok (.iload_n 0, 1) := by decide +kernel
theorem dJ6_numberOfTrailingZeros_0f7a4_4 : decode cJ6_numberOfTrailingZeros_0f7a4 4 = .ok (.iconst 1, 1) := by decide +kernel
theorem dJ6_numberOfTrailingZeros_0f7a4_5 : decode cJ6_numberOfTrailingZeros_0f7a4 5 = .ok (.isub, 1) := by decide +kernel
theorem dJ6_numberOfTrailingZeros_0f7a4_6 : decode cJ6_numberOfTrailingZeros_0f7a4 6 = .ok (.iand, 1) := by decide +kernel
theorem dJ6_numberOfTrailingZeros_0f7a4_7 : decode cJ6_numberOfTrailingZeros_0f7a4 7 = .ok (.istore_n 0, 1) := by decide +kernel
theorem dJ6_numberOfTrailingZeros_0f7a4_8 : decode cJ6_numberOfTrailingZeros_0f7a4 8 = .ok (.iload_n 0, 1) := by decide +kernel
theorem dJ6_numberOfTrailingZeros_0f7a4_9 : decode cJ6_numberOfTrailingZeros_0f7a4 9 = .ok (.ifCond .gt 8, 3) := by decide +kernel
theorem dJ6_numberOfTrailingZeros_0f7a4_12 : decode cJ6_numberOfTrailingZeros_0f7a4 12 = .ok (.iload_n 0, 1) := by decide +kernel
theorem dJ6_numberOfTrailingZeros_0f7a4_13 : decode cJ6_numberOfTrailingZeros_0f7a4 13 = .ok (.bipush 32, 2) := by decide +kernel
theorem dJ6_numberOfTrailingZeros_0f7a4_15 : decode cJ6_numberOfTrailingZeros_0f7a4 15 = .ok (.iand, 1) := by decide +kernel
theorem dJ6_numberOfTrailingZeros_0f7a4_16 : decode cJ6_numberOfTrailingZeros_0f7a4 16 = .ok (.ireturn, 1) := by decide +kernel
theorem dJ6_numberOfTrailingZeros_0f7a4_17 : decode cJ6_numberOfTrailingZeros_0f7a4 17 = .ok (.iconst 1, 1) := by decide +kernel
theorem dJ6_numberOfTrailingZeros_0f7a4_18 : decode cJ6_numberOfTrailingZeros_0f7a4 18 = .ok (.istore_n 1, 1) := by decide +kernel
theorem dJ6_numberOfTrailingZeros_0f7a4_19 : decode cJ6_numberOfTrailingZeros_0f7a4 19 = .ok (.iload_n 0, 1) := by decide +kernel
theorem dJ6_numberOfTrailingZeros_0f7a4_20 : decode cJ6_numberOfTrailingZeros_0f7a4 20 = .ok (.ldc_w 264, 3) := by decide +kernel
theorem dJ6_numberOfTrailingZeros_0f7a4_23 : decode cJ6_numberOfTrailingZeros_0f7a4 23 = .ok (.if_icmp .le 11, 3) := by decide +kernel
theorem dJ6_numberOfTrailingZeros_0f7a4_26 : decode cJ6_numberOfTrailingZeros_0f7a4 26 = .ok (.iinc 1 16, 3) := by decide +kernel
theorem dJ6_numberOfTrailingZeros_0f7a4_29 : decode cJ6_numberOfTrailingZeros_0f7a4 29 = .ok (.iload_n 0, 1) := by decide +kernel
theorem dJ6_numberOfTrailingZeros_0f7a4_30 : decode cJ6_numberOfTrailingZeros_0f7a4 30 = .ok (.bipush 16, 2) := by decide +kernel
theorem dJ6_numberOfTrailingZeros_0f7a4_32 : decode cJ6_numberOfTrailingZeros_0f7a4 32 = .ok (.iushr, 1) := by decide +kernel
theorem dJ6_numberOfTrailingZeros_0f7a4_33 : decode cJ6_numberOfTrailingZeros_0f7a4 33 = .ok (.istore_n 0, 1) := by decide +kernel
theorem dJ6_numberOfTrailingZeros_0f7a4_34 : decode cJ6_numberOfTrailingZeros_0f7a4 34 = .ok (.iload_n 0, 1) := by decide +kernel
theorem dJ6_numberOfTrailingZeros_0f7a4_35 : decode cJ6_numberOfTrailingZeros_0f7a4 35 = .ok (.sipush 256, 3) := by decide +kernel
theorem dJ6_numberOfTrailingZeros_0f7a4_38 : decode cJ6_numberOfTrailingZeros_0f7a4 38 = .ok (.if_icmp .le 11, 3) := by decide +kernel
theorem dJ6_numberOfTrailingZeros_0f7a4_41 : decode cJ6_numberOfTrailingZeros_0f7a4 41 = .ok (.iinc 1 8, 3) := by decide +kernel
theorem dJ6_numberOfTrailingZeros_0f7a4_44 : decode cJ6_numberOfTrailingZeros_0f7a4 44 = .ok (.iload_n 0, 1) := by decide +kernel
theorem dJ6_numberOfTrailingZeros_0f7a4_45 : decode cJ6_numberOfTrailingZeros_0f7a4 45 = .ok (.bipush 8, 2) := by decide +kernel
theorem dJ6_numberOfTrailingZeros_0f7a4_47 : decode cJ6_numberOfTrailingZeros_0f7a4 47 = .ok (.iushr, 1) := by decide +kernel
theorem dJ6_numberOfTrailingZeros_0f7a4_48 : decode cJ6_numberOfTrailingZeros_0f7a4 48 = .ok (.istore_n 0, 1) := by decide +kernel
theorem dJ6_numberOfTrailingZeros_0f7a4_49 : decode cJ6_numberOfTrailingZeros_0f7a4 49 = .ok (.iload_n 0, 1) := by decide +kernel
theorem dJ6_numberOfTrailingZeros_0f7a4_50 : decode cJ6_numberOfTrailingZeros_0f7a4 50 = .ok (.bipush 16, 2) := by decide +kernel
theorem dJ6_numberOfTrailingZeros_0f7a4_52 : decode cJ6_numberOfTrailingZeros_0f7a4 52 = .ok (.if_icmp .le 10, 3) := by decide +kernel
theorem dJ6_numberOfTrailingZeros_0f7a4_55 : decode cJ6_numberOfTrailingZeros_0f7a4 55 = .ok (.iinc 1 4, 3) := by decide +kernel
theorem dJ6_numberOfTrailingZeros_0f7a4_58 : decode cJ6_numberOfTrailingZeros_0f7a4 58 = .ok (.iload_n 0, 1) := by decide +kernel
theorem dJ6_numberOfTrailingZeros_0f7a4_59 : decode cJ6_numberOfTrailingZeros_0f7a4 59 = .ok (.iconst 4, 1) := by decide +kernel
theorem dJ6_numberOfTrailingZeros_0f7a4_60 : decode cJ6_numberOfTrailingZeros_0f7a4 60 = .ok (.iushr, 1) := by decide +kernel
theorem dJ6_numberOfTrailingZeros_0f7a4_61 : decode cJ6_numberOfTrailingZeros_0f7a4 61 = .ok (.istore_n 0, 1) := by decide +kernel
theorem dJ6_numberOfTrailingZeros_0f7a4_62 : decode cJ6_numberOfTrailingZeros_0f7a4 62 = .ok (.iload_n 0, 1) := by decide +kernel
theorem dJ6_numberOfTrailingZeros_0f7a4_63 : decode cJ6_numberOfTrailingZeros_0f7a4 63 = .ok (.iconst 4, 1) := by decide +kernel
theorem dJ6_numberOfTrailingZeros_0f7a4_64 : decode cJ6_numberOfTrailingZeros_0f7a4 64 = .ok (.if_icmp .le 10, 3) := by decide +kernel
theorem dJ6_numberOfTrailingZeros_0f7a4_67 : decode cJ6_numberOfTrailingZeros_0f7a4 67 = .ok (.iinc 1 2, 3) := by decide +kernel
theorem dJ6_numberOfTrailingZeros_0f7a4_70 : decode cJ6_numberOfTrailingZeros_0f7a4 70 = .ok (.iload_n 0, 1) := by decide +kernel
theorem dJ6_numberOfTrailingZeros_0f7a4_71 : decode cJ6_numberOfTrailingZeros_0f7a4 71 = .ok (.iconst 2, 1) := by decide +kernel
theorem dJ6_numberOfTrailingZeros_0f7a4_72 : decode cJ6_numberOfTrailingZeros_0f7a4 72 = .ok (.iushr, 1) := by decide +kernel
theorem dJ6_numberOfTrailingZeros_0f7a4_73 : decode cJ6_numberOfTrailingZeros_0f7a4 73 = .ok (.istore_n 0, 1) := by decide +kernel
theorem dJ6_numberOfTrailingZeros_0f7a4_74 : decode cJ6_numberOfTrailingZeros_0f7a4 74 = .ok (.iload_n 1, 1) := by decide +kernel
theorem dJ6_numberOfTrailingZeros_0f7a4_75 : decode cJ6_numberOfTrailingZeros_0f7a4 75 = .ok (.iload_n 0, 1) := by decide +kernel
theorem dJ6_numberOfTrailingZeros_0f7a4_76 : decode cJ6_numberOfTrailingZeros_0f7a4 76 = .ok (.iconst 1, 1) := by decide +kernel
theorem dJ6_numberOfTrailingZeros_0f7a4_77 : decode cJ6_numberOfTrailingZeros_0f7a4 77 = .ok (.iushr, 1) := by decide +kernel
theorem dJ6_numberOfTrailingZeros_0f7a4_78 : decode cJ6_numberOfTrailingZeros_0f7a4 78 = .ok (.iadd, 1) := by decide +kernel
theorem dJ6_numberOfTrailingZeros_0f7a4_79 : decode cJ6_numberOfTrailingZeros_0f7a4 79 = .ok (.ireturn, 1) := by decide +kernel
theorem dJ13_numberOfTrailingZeros_95d88_0 : decode cJ13_numberOfTrailingZeros_95d88 0 = .ok (.lload_n 0, 1) := by decide +kernel
theorem dJ13_numberOfTrailingZeros_95d88_1 : decode cJ13_numberOfTrailingZeros_95d88 1 = .ok (.l2i, 1) := by decide +kernel
theorem dJ13_numberOfTrailingZeros_95d88_2 : decode cJ13_numberOfTrailingZeros_95d88 2 = .ok (.istore_n 2, 1) := by decide +kernel
theorem dJ13_numberOfTrailingZeros_95d88_3 : decode cJ13_numberOfTrailingZeros_95d88 3 = .ok (.iload_n 2, 1) := by decide +kernel
theorem dJ13_numberOfTrailingZeros_95d88_4 : decode cJ13_numberOfTrailingZeros_95d88 4 = .ok (.ifCond .ne 17, 3) := by decide +kernel
theorem dJ13_numberOfTrailingZeros_95d88_7 : decode cJ13_numberOfTrailingZeros_95d88 7 = .ok (.bipush 32, 2) := by decide +kernel
theorem dJ13_numberOfTrailingZeros_95d88_9 : decode cJ13_numberOfTrailingZeros_95d88 9 = .ok (.lload_n 0, 1) := by decide +kernel
theorem dJ13_numberOfTrailingZeros_95d88_10 : decode cJ13_numberOfTrailingZeros_95d88 10 = .ok (.bipush 32, 2) := by decide +kernel
theorem dJ13_numberOfTrailingZeros_95d88_12 : decode cJ13_numberOfTrailingZeros_95d88 12 = .ok (.lushr, 1) := by decide +kernel
theorem dJ13_numberOfTrailingZeros_95d88_13 : decode cJ13_numberOfTrailingZeros_95d88 13 = .ok (.l2i, 1) := by decide +kernel
theorem dJ13_numberOfTrailingZeros_95d88_14 : decode cJ13_numberOfTrailingZeros_95d88 14 = .ok (.invokestatic 311, 3) := by decide +kernel
theorem dJ13_numberOfTrailingZeros_95d88_17 : decode cJ13_numberOfTrailingZeros_95d88 17 = .ok (.iadd, 1) := by decide +kernel
theorem dJ13_numberOfTrailingZeros_95d88_18 : decode cJ13_numberOfTrailingZeros_95d88 18 = .ok (.goto 7, 3) := by decide +kernel
theorem dJ13_numberOfTrailingZeros_95d88_21 : decode cJ13_numberOfTrailingZeros_95d88 21 = .ok (.iload_n 2, 1) := by decide +kernel
theorem dJ13_numberOfTrailingZeros_95d88_22 : decode cJ13_numberOfTrailingZeros_95d88 22 = .ok (.invokestatic 311, 3) := by decide +kernel
theorem dJ13_numberOfTrailingZeros_95d88_25 : decode cJ13_numberOfTrailingZeros_95d88 25 = .ok (.ireturn, 1) := by decide +kernel
theorem dJ9_abs_067f4_0 : decode cJ9_abs_067f4 0 = .ok (.lload_n 0, 1) := by decide +kernel
theorem dJ9_abs_067f4_1 : decode cJ9_abs_067f4 1 = .ok (.lconst 0, 1) := by decide +kernel
theorem dJ9_abs_067f4_2 : decode cJ9_abs_067f4 2 = .ok (.lcmp, 1) := by decide +kernel
theorem dJ9_abs_067f4_3 : decode cJ9_abs_067f4 3 = .ok (.ifCond .ge 8, 3) := by decide +kernel
theorem dJ9_abs_067f4_6 : decode cJ9_abs_067f4 6 = .ok (.lload_n 0, 1) := by decide +kernel
theorem dJ9_abs_067f4_7 : decode cJ9_abs_067f4 7 = .ok (.lneg, 1) := by decide +kernel
theorem dJ9_abs_067f4_8 : decode cJ9_abs_067f4 8 = .ok (.goto 4, 3) := by decide +kernel
theorem dJ9_abs_067f4_11 : decode cJ9_abs_067f4 11 = .ok (.lload_n 0, 1) := by decide +kernel
theorem dJ9_abs_067f4_12 : decode cJ9_abs_067f4 12 = .ok (.lreturn, 1) := by decide +kernel
end
section
/-! ===== numbers: ints that are small naturals ===== -/
theorem ab_nadd (a b : Nat) : nI a + nI b = nI (a + b) := (Int32.ofNat_add a b).symm
theorem ab_nmul (a b : Nat) : nI a * nI b = nI (a * b) := (Int32.ofNat_mul a b).symm
theorem ab_nsub {a b : Nat} (h : b ≤ a) : nI a - nI b = nI (a - b) := (Int32.ofNat_sub a b h).symm
theorem ab_ndiv {a b : Nat} (ha : a < 2147483648) (hb : b < 2147483648) : nI a / nI b = nI (a / b) := (Int32.ofNat_div ha hb).symm
theorem ab_nrem {a b : Nat} (ha : a < 2147483648) (hb : b < 2147483648) : nI a - nI a / nI b * nI b = nI (a % b) := by
  rw [ab_ndiv ha hb, ab_nmul, ab_nsub (Nat.div_mul_le_self a b)]
  congr 1
  have := Nat.div_add_mod a b
  rw [Nat.mul_comm] at this
  omega
theorem ab_nbv (a : Nat) : (nI a).toBitVec = BitVec.ofNat 32 a := rfl
theorem ab_nand (a b : Nat) : nI a &&& nI b = nI (a &&& b) := by
  apply Int32.toBitVec_inj.mp
  rw [Int32.toBitVec_and, ab_nbv, ab_nbv, ab_nbv, BitVec.ofNat_and]
theorem ab_nor (a b : Nat) : nI a ||| nI b = nI (a ||| b) := by
  apply Int32.toBitVec_inj.mp
  rw [Int32.toBitVec_or, ab_nbv, ab_nbv, ab_nbv, BitVec.ofNat_or]
theorem ab_nxor (a b : Nat) : nI a ^^^ nI b = nI (a ^^^ b) := by
  apply Int32.toBitVec_inj.mp
  rw [Int32.toBitVec_xor, ab_nbv, ab_nbv, ab_nbv, BitVec.ofNat_xor]
theorem ab_ninj {a b : Nat} (ha : a < 2147483648) (hb : b < 2147483648) : nI a = nI b ↔ a = b := by
  constructor
  · intro h
    have h1 := congrArg Int32.toInt h
    rw [nI_toInt ha, nI_toInt hb] at h1
    omega
  · rintro rfl; rfl
theorem ab_nlt {a b : Nat} (ha : a < 2147483648) (hb : b < 2147483648) : nI a < nI b ↔ a < b := by
  rw [Int32.lt_iff_toInt_lt, nI_toInt ha, nI_toInt hb]; omega
theorem ab_nle {a b : Nat} (ha : a < 2147483648) (hb : b < 2147483648) : nI a ≤ nI b ↔ a ≤ b := by
  rw [Int32.le_iff_toInt_le, nI_toInt ha, nI_toInt hb]; omega
theorem ab_n31 : (31 : Int32) = nI 31 := by decide
theorem ab_and31 {b : Nat} (hb : b < 32) : nI b &&& 31 = nI b := by
  rw [ab_n31, ab_nand]
  congr 1
  rw [show (31 : Nat) = 2 ^ 5 - 1 from rfl, Nat.and_two_pow_sub_one_eq_mod]
  omega
theorem ab_nshl {a b : Nat} (hb : b < 32) : nI a <<< (nI b &&& 31) = nI (a <<< b) := by
  rw [ab_and31 hb]
  apply Int32.toBitVec_inj.mp
  rw [Int32.toBitVec_shiftLeft, ab_nbv, ab_nbv]
  have e : (BitVec.ofNat 32 b).smod 32 = BitVec.ofNat 32 b := by
    revert b hb
    decide
  rw [e]
  apply BitVec.eq_of_toNat_eq
  rw [ab_nbv]
  simp [BitVec.toNat_shiftLeft, Nat.mod_eq_of_lt (show b < 4294967296 by omega), Nat.shiftLeft_eq, Nat.mod_mul_mod]
theorem ab_nshr {a b : Nat} (ha : a < 2147483648) (hb : b < 32) : nI a >>> (nI b &&& 31) = nI (a >>> b) := by
  rw [ab_and31 hb]
  apply Int32.toBitVec_inj.mp
  rw [Int32.toBitVec_shiftRight, ab_nbv, ab_nbv]
  have e : (BitVec.ofNat 32 b).smod 32 = BitVec.ofNat 32 b := by
    revert b hb
    decide
  rw [e]
  apply BitVec.eq_of_toNat_eq
  have h1 : (BitVec.ofNat 32 a).msb = false := by
    rw [BitVec.msb_eq_decide]
    simp
    omega
  rw [BitVec.sshiftRight_eq', BitVec.sshiftRight_eq_of_msb_false h1]
  have h2 : a >>> b ≤ a := by rw [Nat.shiftRight_eq_div_pow]; exact Nat.div_le_self _ _
  rw [ab_nbv]
  simp [BitVec.toNat_ushiftRight, Nat.mod_eq_of_lt (show b < 4294967296 by omega), Nat.mod_eq_of_lt (show a < 4294967296 by omega), Nat.mod_eq_of_lt (show a >>> b < 4294967296 by omega)]
theorem ab_ninc (a : Nat) : nI a + Int32.ofInt 1 = nI (a + 1) := ab_nadd a 1
theorem ab_of0 {x : Int32} (h : 0 ≤ x) : ∃ n, x = nI n ∧ n < 2147483648 := by
  refine ⟨x.toNatClampNeg, (Int32.ofNat_toNatClampNeg x h).symm, ?_⟩
  have h1 := Int32.toInt_lt x
  show x.toInt.toNat < _
  omega
theorem ab_range {x : Int32} {n : Nat} (h : 0 ≤ x) (h1 : ¬ nI n ≤ x) (hn : n < 2147483648) : ∃ j, x = nI j ∧ j < n := by
  obtain ⟨j, rfl, hj⟩ := ab_of0 h
  exact ⟨j, rfl, by rw [ab_nle hn hj] at h1; omega⟩
theorem ab_0 : (0 : Int32) = nI 0 := by decide
theorem ab_naddR {k b : Nat} {M : ab_MK} {pc : Nat} {ls : List (Option Value)} {st : List Value} {h : ab_H} {post : Value → ab_H → Prop} {x y : Nat} (hd : decode M.2.1 pc = .ok (.iadd, 1))  (kk : ab_R k b M (pc + 1) ls (.int (nI (x + y)) :: st) h post) : ab_R k b M pc ls (.int (nI y) :: .int (nI x) :: st) h post :=
  ab_iadd hd (by rw [ab_nadd]; exact kk)
theorem ab_nmulR {k b : Nat} {M : ab_MK} {pc : Nat} {ls : List (Option Value)} {st : List Value} {h : ab_H} {post : Value → ab_H → Prop} {x y : Nat} (hd : decode M.2.1 pc = .ok (.imul, 1))  (kk : ab_R k b M (pc + 1) ls (.int (nI (x * y)) :: st) h post) : ab_R k b M pc ls (.int (nI y) :: .int (nI x) :: st) h post :=
  ab_imul hd (by rw [ab_nmul]; exact kk)
theorem ab_nsubR {k b : Nat} {M : ab_MK} {pc : Nat} {ls : List (Option Value)} {st : List Value} {h : ab_H} {post : Value → ab_H → Prop} {x y : Nat} (hd : decode M.2.1 pc = .ok (.isub, 1)) (hle : y ≤ x) (kk : ab_R k b M (pc + 1) ls (.int (nI (x - y)) :: st) h post) : ab_R k b M pc ls (.int (nI y) :: .int (nI x) :: st) h post :=
  ab_isub hd (by rw [ab_nsub hle]; exact kk)
theorem ab_nandR {k b : Nat} {M : ab_MK} {pc : Nat} {ls : List (Option Value)} {st : List Value} {h : ab_H} {post : Value → ab_H → Prop} {x y : Nat} (hd : decode M.2.1 pc = .ok (.iand, 1))  (kk : ab_R k b M (pc + 1) ls (.int (nI (x &&& y)) :: st) h post) : ab_R k b M pc ls (.int (nI y) :: .int (nI x) :: st) h post :=
  ab_iand hd (by rw [ab_nand]; exact kk)
theorem ab_norR {k b : Nat} {M : ab_MK} {pc : Nat} {ls : List (Option Value)} {st : List Value} {h : ab_H} {post : Value → ab_H → Prop} {x y : Nat} (hd : decode M.2.1 pc = .ok (.ior, 1))  (kk : ab_R k b M (pc + 1) ls (.int (nI (x ||| y)) :: st) h post) : ab_R k b M pc ls (.int (nI y) :: .int (nI x) :: st) h post :=
  ab_ior hd (by rw [ab_nor]; exact kk)
theorem ab_nxorR {k b : Nat} {M : ab_MK} {pc : Nat} {ls : List (Option Value)} {st : List Value} {h : ab_H} {post : Value → ab_H → Prop} {x y : Nat} (hd : decode M.2.1 pc = .ok (.ixor, 1))  (kk : ab_R k b M (pc + 1) ls (.int (nI (x ^^^ y)) :: st) h post) : ab_R k b M pc ls (.int (nI y) :: .int (nI x) :: st) h post :=
  ab_ixor hd (by rw [ab_nxor]; exact kk)
theorem ab_nshlR {k b : Nat} {M : ab_MK} {pc : Nat} {ls : List (Option Value)} {st : List Value} {h : ab_H} {post : Value → ab_H → Prop} {x y : Nat} (hd : decode M.2.1 pc = .ok (.ishl, 1)) (hy : y < 32) (kk : ab_R k b M (pc + 1) ls (.int (nI (x <<< y)) :: st) h post) : ab_R k b M pc ls (.int (nI y) :: .int (nI x) :: st) h post :=
  ab_ishl hd (by rw [ab_nshl hy]; exact kk)
theorem ab_nshrR {k b : Nat} {M : ab_MK} {pc : Nat} {ls : List (Option Value)} {st : List Value} {h : ab_H} {post : Value → ab_H → Prop} {x y : Nat} (hd : decode M.2.1 pc = .ok (.ishr, 1)) (hx : x < 2147483648) (hy : y < 32) (kk : ab_R k b M (pc + 1) ls (.int (nI (x >>> y)) :: st) h post) : ab_R k b M pc ls (.int (nI y) :: .int (nI x) :: st) h post :=
  ab_ishr hd (by rw [ab_nshr hx hy]; exact kk)
theorem ab_ndivR {k b : Nat} {M : ab_MK} {pc : Nat} {ls : List (Option Value)} {st : List Value} {h : ab_H} {post : Value → ab_H → Prop} {x y : Nat} (hd : decode M.2.1 pc = .ok (.idiv, 1)) (hx : x < 2147483648) (hy : y < 2147483648) (h0 : y ≠ 0) (kk : ab_R k b M (pc + 1) ls (.int (nI (x / y)) :: st) h post) : ab_R k b M pc ls (.int (nI y) :: .int (nI x) :: st) h post :=
  ab_idiv hd (fun q => h0 ((ab_ninj hy (by omega)).mp (q.trans ab_0))) (by rw [ab_ndiv hx hy]; exact kk)
theorem ab_nremR {k b : Nat} {M : ab_MK} {pc : Nat} {ls : List (Option Value)} {st : List Value} {h : ab_H} {post : Value → ab_H → Prop} {x y : Nat} (hd : decode M.2.1 pc = .ok (.irem, 1)) (hx : x < 2147483648) (hy : y < 2147483648) (h0 : y ≠ 0) (kk : ab_R k b M (pc + 1) ls (.int (nI (x % y)) :: st) h post) : ab_R k b M pc ls (.int (nI y) :: .int (nI x) :: st) h post :=
  ab_irem hd (fun q => h0 ((ab_ninj hy (by omega)).mp (q.trans ab_0))) (by rw [ab_nrem hx hy]; exact kk)
theorem ab_nincR {k b : Nat} {M : ab_MK} {pc : Nat} {ls : List (Option Value)} {st : List Value} {h : ab_H} {post : Value → ab_H → Prop} {ls' : List (Option Value)} {j x : Nat} (hd : decode M.2.1 pc = .ok (.iinc j 1, 3)) (hx : ls[j]? = some (some (.int (nI x)))) (hls : ab_st1 ls j (.int (nI (x + 1))) = ls') (kk : ab_R k b M (pc + 3) ls' st h post) : ab_R k b M pc ls st h post :=
  ab_iinc hd hx (ab_ninc x) (by rw [hls]; exact kk)
theorem ab_nicmp_eq {k b : Nat} {M : ab_MK} {pc : Nat} {ls : List (Option Value)} {st : List Value} {h : ab_H} {post : Value → ab_H → Prop} {x y : Nat} {off : Int} (tgt : Nat) (hd : decode M.2.1 pc = .ok (.if_icmp .eq off, 3)) (ht : (pc : Int) + off = (tgt : Int)) (hx : x < 2147483648) (hy : y < 2147483648) (kt : x = y → ab_R k b M tgt ls st h post) (kf : ¬ (x = y) → ab_R k b M (pc + 3) ls st h post) : ab_R k b M pc ls (.int (nI y) :: .int (nI x) :: st) h post :=
  ab_icmp_eq tgt hd ht (fun q => kt ((ab_ninj hx hy).mp q)) (fun q => kf (fun z => q ((ab_ninj hx hy).mpr z)))
theorem ab_nif_eq {k b : Nat} {M : ab_MK} {pc : Nat} {ls : List (Option Value)} {st : List Value} {h : ab_H} {post : Value → ab_H → Prop} {x : Nat} {off : Int} (tgt : Nat) (hd : decode M.2.1 pc = .ok (.ifCond .eq off, 3)) (ht : (pc : Int) + off = (tgt : Int)) (hx : x < 2147483648) (kt : x = 0 → ab_R k b M tgt ls st h post) (kf : ¬ (x = 0) → ab_R k b M (pc + 3) ls st h post) : ab_R k b M pc ls (.int (nI x) :: st) h post :=
  ab_if_eq tgt hd ht (fun q => kt ((ab_ninj hx (show 0 < 2147483648 by omega)).mp (q.trans ab_0))) (fun q => kf (fun z => q ((congrArg nI z).trans ab_0.symm)))
theorem ab_nicmp_ne {k b : Nat} {M : ab_MK} {pc : Nat} {ls : List (Option Value)} {st : List Value} {h : ab_H} {post : Value → ab_H → Prop} {x y : Nat} {off : Int} (tgt : Nat) (hd : decode M.2.1 pc = .ok (.if_icmp .ne off, 3)) (ht : (pc : Int) + off = (tgt : Int)) (hx : x < 2147483648) (hy : y < 2147483648) (kt : ¬ x = y → ab_R k b M tgt ls st h post) (kf : x = y → ab_R k b M (pc + 3) ls st h post) : ab_R k b M pc ls (.int (nI y) :: .int (nI x) :: st) h post :=
  ab_icmp_ne tgt hd ht (fun q => kt (fun z => q ((ab_ninj hx hy).mpr z))) (fun q => kf ((ab_ninj hx hy).mp q))
theorem ab_nif_ne {k b : Nat} {M : ab_MK} {pc : Nat} {ls : List (Option Value)} {st : List Value} {h : ab_H} {post : Value → ab_H → Prop} {x : Nat} {off : Int} (tgt : Nat) (hd : decode M.2.1 pc = .ok (.ifCond .ne off, 3)) (ht : (pc : Int) + off = (tgt : Int)) (hx : x < 2147483648) (kt : ¬ x = 0 → ab_R k b M tgt ls st h post) (kf : x = 0 → ab_R k b M (pc + 3) ls st h post) : ab_R k b M pc ls (.int (nI x) :: st) h post :=
  ab_if_ne tgt hd ht (fun q => kt (fun z => q ((congrArg nI z).trans ab_0.symm))) (fun q => kf ((ab_ninj hx (show 0 < 2147483648 by omega)).mp (q.trans ab_0)))
theorem ab_nicmp_lt {k b : Nat} {M : ab_MK} {pc : Nat} {ls : List (Option Value)} {st : List Value} {h : ab_H} {post : Value → ab_H → Prop} {x y : Nat} {off : Int} (tgt : Nat) (hd : decode M.2.1 pc = .ok (.if_icmp .lt off, 3)) (ht : (pc : Int) + off = (tgt : Int)) (hx : x < 2147483648) (hy : y < 2147483648) (kt : x < y → ab_R k b M tgt ls st h post) (kf : ¬ (x < y) → ab_R k b M (pc + 3) ls st h post) : ab_R k b M pc ls (.int (nI y) :: .int (nI x) :: st) h post :=
  ab_icmp_lt tgt hd ht (fun q => kt ((ab_nlt hx hy).mp q)) (fun q => kf (fun z => q ((ab_nlt hx hy).mpr z)))
theorem ab_nicmp_ge {k b : Nat} {M : ab_MK} {pc : Nat} {ls : List (Option Value)} {st : List Value} {h : ab_H} {post : Value → ab_H → Prop} {x y : Nat} {off : Int} (tgt : Nat) (hd : decode M.2.1 pc = .ok (.if_icmp .ge off, 3)) (ht : (pc : Int) + off = (tgt : Int)) (hx : x < 2147483648) (hy : y < 2147483648) (kt : y ≤ x → ab_R k b M tgt ls st h post) (kf : ¬ (y ≤ x) → ab_R k b M (pc + 3) ls st h post) : ab_R k b M pc ls (.int (nI y) :: .int (nI x) :: st) h post :=
  ab_icmp_ge tgt hd ht (fun q => kt ((ab_nle hy hx).mp q)) (fun q => kf (fun z => q ((ab_nle hy hx).mpr z)))
theorem ab_nicmp_gt {k b : Nat} {M : ab_MK} {pc : Nat} {ls : List (Option Value)} {st : List Value} {h : ab_H} {post : Value → ab_H → Prop} {x y : Nat} {off : Int} (tgt : Nat) (hd : decode M.2.1 pc = .ok (.if_icmp .gt off, 3)) (ht : (pc : Int) + off = (tgt : Int)) (hx : x < 2147483648) (hy : y < 2147483648) (kt : y < x → ab_R k b M tgt ls st h post) (kf : ¬ (y < x) → ab_R k b M (pc + 3) ls st h post) : ab_R k b M pc ls (.int (nI y) :: .int (nI x) :: st) h post :=
  ab_icmp_gt tgt hd ht (fun q => kt ((ab_nlt hy hx).mp q)) (fun q => kf (fun z => q ((ab_nlt hy hx).mpr z)))
theorem ab_nicmp_le {k b : Nat} {M : ab_MK} {pc : Nat} {ls : List (Option Value)} {st : List Value} {h : ab_H} {post : Value → ab_H → Prop} {x y : Nat} {off : Int} (tgt : Nat) (hd : decode M.2.1 pc = .ok (.if_icmp .le off, 3)) (ht : (pc : Int) + off = (tgt : Int)) (hx : x < 2147483648) (hy : y < 2147483648) (kt : x ≤ y → ab_R k b M tgt ls st h post) (kf : ¬ (x ≤ y) → ab_R k b M (pc + 3) ls st h post) : ab_R k b M pc ls (.int (nI y) :: .int (nI x) :: st) h post :=
  ab_icmp_le tgt hd ht (fun q => kt ((ab_nle hx hy).mp q)) (fun q => kf (fun z => q ((ab_nle hx hy).mpr z)))
theorem ab_nif_lt {k b : Nat} {M : ab_MK} {pc : Nat} {ls : List (Option Value)} {st : List Value} {h : ab_H} {post : Value → ab_H → Prop} {x : Nat} {off : Int} (hd : decode M.2.1 pc = .ok (.ifCond .lt off, 3)) (tgt : Nat) (ht : (pc : Int) + off = (tgt : Int)) (hx : x < 2147483648) (kf : ab_R k b M (pc + 3) ls st h post) : ab_R k b M pc ls (.int (nI x) :: st) h post :=
  ab_if_lt tgt hd ht (fun q => absurd q (nI_pos hx)) (fun _ => kf)
theorem ab_nif_ge {k b : Nat} {M : ab_MK} {pc : Nat} {ls : List (Option Value)} {st : List Value} {h : ab_H} {post : Value → ab_H → Prop} {x : Nat} {off : Int} (hd : decode M.2.1 pc = .ok (.ifCond .ge off, 3)) (tgt : Nat) (ht : (pc : Int) + off = (tgt : Int)) (hx : x < 2147483648) (kt : ab_R k b M tgt ls st h post) : ab_R k b M pc ls (.int (nI x) :: st) h post :=
  ab_if_ge tgt hd ht (fun _ => kt) (fun q => absurd (nI_pos' hx) q)
/-- frames: all but the rows S of ints, of longs is as it was -/
def ab_fr (S : List Nat) (h h' : ab_H) : Prop := ab_n h' = ab_n h ∧ ab_sh h' = ab_sh h ∧ ab_r h' = ab_r h ∧ ab_e h' = ab_e h ∧ ∀ a, a ∉ S → ab_i h' a = ab_i h a ∧ ab_l h' a = ab_l h a
theorem ab_fr.rf {S : List Nat} (h : ab_H) : ab_fr S h h := ⟨rfl, rfl, rfl, rfl, fun _ _ => ⟨rfl, rfl⟩⟩
theorem ab_fr.trans {S S' : List Nat} {h h1 h2 : ab_H} (f : ab_fr S h h1) (g : ab_fr S' h1 h2) (hs : ∀ a, a ∈ S' → a ∈ S) : ab_fr S h h2 :=
  ⟨g.1.trans f.1, g.2.1.trans f.2.1, g.2.2.1.trans f.2.2.1, g.2.2.2.1.trans f.2.2.2.1, fun a ha => ⟨(g.2.2.2.2 a (fun q => ha (hs a q))).1.trans (f.2.2.2.2 a ha).1, (g.2.2.2.2 a (fun q => ha (hs a q))).2.trans (f.2.2.2.2 a ha).2⟩⟩
theorem ab_fr.si {S : List Nat} {h h1 : ab_H} (f : ab_fr S h h1) (a k : Nat) (v : Int32) (ha : a ∈ S) : ab_fr S h (ab_si h1 a k v) :=
  ⟨f.1, f.2.1, f.2.2.1, f.2.2.2.1, fun c hc => ⟨(ab_up_ne _ _ (fun q => hc (by rw [q]; exact ha))).trans (f.2.2.2.2 c hc).1, (f.2.2.2.2 c hc).2⟩⟩
theorem ab_fr.sl {S : List Nat} {h h1 : ab_H} (f : ab_fr S h h1) (a k : Nat) (v : Int64) (ha : a ∈ S) : ab_fr S h (ab_sl h1 a k v) :=
  ⟨f.1, f.2.1, f.2.2.1, f.2.2.2.1, fun c hc => ⟨(f.2.2.2.2 c hc).1, (ab_up_ne _ _ (fun q => hc (by rw [q]; exact ha))).trans (f.2.2.2.2 c hc).2⟩⟩
theorem ab_fr.sI {S : List Nat} {h h1 : ab_H} (f : ab_fr S h h1) (a : Nat) (g : Nat → Int32) (ha : a ∈ S) : ab_fr S h (ab_sI h1 a g) :=
  ⟨f.1, f.2.1, f.2.2.1, f.2.2.2.1, fun c hc => ⟨(ab_up_ne _ _ (fun q => hc (by rw [q]; exact ha))).trans (f.2.2.2.2 c hc).1, (f.2.2.2.2 c hc).2⟩⟩
theorem ab_fr.sL {S : List Nat} {h h1 : ab_H} (f : ab_fr S h h1) (a : Nat) (g : Nat → Int64) (ha : a ∈ S) : ab_fr S h (ab_sL h1 a g) :=
  ⟨f.1, f.2.1, f.2.2.1, f.2.2.2.1, fun c hc => ⟨(f.2.2.2.2 c hc).1, (ab_up_ne _ _ (fun q => hc (by rw [q]; exact ha))).trans (f.2.2.2.2 c hc).2⟩⟩
/-- reads behind writes -/
theorem ab_i_si (h : ab_H) (a k : Nat) (v : Int32) (c : Nat) : ab_i (ab_si h a k v) c = if c = a then ab_up (ab_i h a) k v else ab_i h c := rfl
theorem ab_l_sl (h : ab_H) (a k : Nat) (v : Int64) (c : Nat) : ab_l (ab_sl h a k v) c = if c = a then ab_up (ab_l h a) k v else ab_l h c := rfl
theorem ab_i_sI (h : ab_H) (a : Nat) (g : Nat → Int32) (c : Nat) : ab_i (ab_sI h a g) c = if c = a then g else ab_i h c := rfl
theorem ab_l_sL (h : ab_H) (a : Nat) (g : Nat → Int64) (c : Nat) : ab_l (ab_sL h a g) c = if c = a then g else ab_l h c := rfl
theorem ab_i_sl (h : ab_H) (a k : Nat) (v : Int64) : ab_i (ab_sl h a k v) = ab_i h := rfl
theorem ab_l_si (h : ab_H) (a k : Nat) (v : Int32) : ab_l (ab_si h a k v) = ab_l h := rfl
theorem ab_i_sL (h : ab_H) (a : Nat) (g : Nat → Int64) : ab_i (ab_sL h a g) = ab_i h := rfl
theorem ab_l_sI (h : ab_H) (a : Nat) (g : Nat → Int32) : ab_l (ab_sI h a g) = ab_l h := rfl
theorem ab_i_sr (h : ab_H) (a k v : Nat) : ab_i (ab_sr h a k v) = ab_i h := rfl
theorem ab_l_sr (h : ab_H) (a k v : Nat) : ab_l (ab_sr h a k v) = ab_l h := rfl
theorem ab_up_at {α : Type} (f : Nat → α) (k : Nat) (v : α) (j : Nat) : ab_up f k v j = if j = k then v else f j := rfl
theorem ab_sti_n {k b : Nat} {M : ab_MK} {pc : Nat} {ls : List (Option Value)} {st : List Value} {h : ab_H} {post : Value → ab_H → Prop} {ls' : List (Option Value)} {j : Fin 4} {x : Int32} (hd : decode M.2.1 pc = .ok (.istore_n j, 1)) (hj : (j : Nat) < M.2.2.1) (hls : ab_st1 ls j (.int x) = ls') (kk : ab_R k b M (pc + 1) ls' st h post) : ab_R k b M pc ls (.int x :: st) h post :=
  ab_istore_n hd hj (by rw [hls]; exact kk)
theorem ab_sti {k b : Nat} {M : ab_MK} {pc : Nat} {ls : List (Option Value)} {st : List Value} {h : ab_H} {post : Value → ab_H → Prop} {ls' : List (Option Value)} {j : Nat} {x : Int32} (hd : decode M.2.1 pc = .ok (.istore j, 2)) (hj : (j : Nat) < M.2.2.1) (hls : ab_st1 ls j (.int x) = ls') (kk : ab_R k b M (pc + 2) ls' st h post) : ab_R k b M pc ls (.int x :: st) h post :=
  ab_istore hd hj (by rw [hls]; exact kk)
theorem ab_stl_n {k b : Nat} {M : ab_MK} {pc : Nat} {ls : List (Option Value)} {st : List Value} {h : ab_H} {post : Value → ab_H → Prop} {ls' : List (Option Value)} {j : Fin 4} {x : Int64} (hd : decode M.2.1 pc = .ok (.lstore_n j, 1)) (hj : (j : Nat) + 1 < M.2.2.1) (hls : ab_st2 ls j (.long x) = ls') (kk : ab_R k b M (pc + 1) ls' st h post) : ab_R k b M pc ls (.long x :: st) h post :=
  ab_lstore_n hd hj (by rw [hls]; exact kk)
theorem ab_stl {k b : Nat} {M : ab_MK} {pc : Nat} {ls : List (Option Value)} {st : List Value} {h : ab_H} {post : Value → ab_H → Prop} {ls' : List (Option Value)} {j : Nat} {x : Int64} (hd : decode M.2.1 pc = .ok (.lstore j, 2)) (hj : (j : Nat) + 1 < M.2.2.1) (hls : ab_st2 ls j (.long x) = ls') (kk : ab_R k b M (pc + 2) ls' st h post) : ab_R k b M pc ls (.long x :: st) h post :=
  ab_lstore hd hj (by rw [hls]; exact kk)
theorem ab_stf_n {k b : Nat} {M : ab_MK} {pc : Nat} {ls : List (Option Value)} {st : List Value} {h : ab_H} {post : Value → ab_H → Prop} {ls' : List (Option Value)} {j : Fin 4} {x : UInt32} (hd : decode M.2.1 pc = .ok (.fstore_n j, 1)) (hj : (j : Nat) < M.2.2.1) (hls : ab_st1 ls j (.float x) = ls') (kk : ab_R k b M (pc + 1) ls' st h post) : ab_R k b M pc ls (.float x :: st) h post :=
  ab_fstore_n hd hj (by rw [hls]; exact kk)
theorem ab_stf {k b : Nat} {M : ab_MK} {pc : Nat} {ls : List (Option Value)} {st : List Value} {h : ab_H} {post : Value → ab_H → Prop} {ls' : List (Option Value)} {j : Nat} {x : UInt32} (hd : decode M.2.1 pc = .ok (.fstore j, 2)) (hj : (j : Nat) < M.2.2.1) (hls : ab_st1 ls j (.float x) = ls') (kk : ab_R k b M (pc + 2) ls' st h post) : ab_R k b M pc ls (.float x :: st) h post :=
  ab_fstore hd hj (by rw [hls]; exact kk)
theorem ab_std_n {k b : Nat} {M : ab_MK} {pc : Nat} {ls : List (Option Value)} {st : List Value} {h : ab_H} {post : Value → ab_H → Prop} {ls' : List (Option Value)} {j : Fin 4} {x : UInt64} (hd : decode M.2.1 pc = .ok (.dstore_n j, 1)) (hj : (j : Nat) + 1 < M.2.2.1) (hls : ab_st2 ls j (.double x) = ls') (kk : ab_R k b M (pc + 1) ls' st h post) : ab_R k b M pc ls (.double x :: st) h post :=
  ab_dstore_n hd hj (by rw [hls]; exact kk)
theorem ab_std {k b : Nat} {M : ab_MK} {pc : Nat} {ls : List (Option Value)} {st : List Value} {h : ab_H} {post : Value → ab_H → Prop} {ls' : List (Option Value)} {j : Nat} {x : UInt64} (hd : decode M.2.1 pc = .ok (.dstore j, 2)) (hj : (j : Nat) + 1 < M.2.2.1) (hls : ab_st2 ls j (.double x) = ls') (kk : ab_R k b M (pc + 2) ls' st h post) : ab_R k b M pc ls (.double x :: st) h post :=
  ab_dstore hd hj (by rw [hls]; exact kk)
theorem ab_sta_n {k b : Nat} {M : ab_MK} {pc : Nat} {ls : List (Option Value)} {st : List Value} {h : ab_H} {post : Value → ab_H → Prop} {ls' : List (Option Value)} {j : Fin 4} {x : Nat} (hd : decode M.2.1 pc = .ok (.astore_n j, 1)) (hj : (j : Nat) < M.2.2.1) (hls : ab_st1 ls j (.ref x) = ls') (kk : ab_R k b M (pc + 1) ls' st h post) : ab_R k b M pc ls (.ref x :: st) h post :=
  ab_astore_n hd hj (by rw [hls]; exact kk)
theorem ab_sta {k b : Nat} {M : ab_MK} {pc : Nat} {ls : List (Option Value)} {st : List Value} {h : ab_H} {post : Value → ab_H → Prop} {ls' : List (Option Value)} {j : Nat} {x : Nat} (hd : decode M.2.1 pc = .ok (.astore j, 2)) (hj : (j : Nat) < M.2.2.1) (hls : ab_st1 ls j (.ref x) = ls') (kk : ab_R k b M (pc + 2) ls' st h post) : ab_R k b M pc ls (.ref x :: st) h post :=
  ab_astore hd hj (by rw [hls]; exact kk)
theorem ab_iinc' {k b : Nat} {M : ab_MK} {pc : Nat} {ls : List (Option Value)} {st : List Value} {h : ab_H} {post : Value → ab_H → Prop} {ls' : List (Option Value)} {j : Nat} {n : Int} {x y : Int32} (hd : decode M.2.1 pc = .ok (.iinc j n, 3)) (hx : ls[j]? = some (some (.int x))) (hy : x + Int32.ofInt n = y) (hls : ab_st1 ls j (.int y) = ls') (kk : ab_R k b M (pc + 3) ls' st h post) : ab_R k b M pc ls st h post :=
  ab_iinc hd hx hy (by rw [hls]; exact kk)
/-- forms of what a method says at its end -/
def ab_pi (P : Int32 → ab_H → Prop) (v : Value) (h : ab_H) : Prop := ∃ x, v = .int x ∧ P x h
def ab_pn (P : Nat → ab_H → Prop) (v : Value) (h : ab_H) : Prop := ∃ n, v = .int (nI n) ∧ P n h
def ab_pb (P : Bool → ab_H → Prop) (v : Value) (h : ab_H) : Prop := ∃ t : Bool, v = .int (nI t.toNat) ∧ P t h
def ab_pl (P : Int64 → ab_H → Prop) (v : Value) (h : ab_H) : Prop := ∃ x, v = .long x ∧ P x h
def ab_pf (P : UInt32 → ab_H → Prop) (v : Value) (h : ab_H) : Prop := ∃ x, v = .float x ∧ P x h
def ab_pd (P : UInt64 → ab_H → Prop) (v : Value) (h : ab_H) : Prop := ∃ x, v = .double x ∧ P x h
def ab_pr (P : Nat → ab_H → Prop) (v : Value) (h : ab_H) : Prop := ∃ x, v = .ref x ∧ P x h
def ab_pv (P : ab_H → Prop) (_ : Value) (h : ab_H) : Prop := P h
theorem ab_callVi {k b : Nat} {M : ab_MK} {pc : Nat} {ls : List (Option Value)} {st : List Value} {h : ab_H} {post : Value → ab_H → Prop} {k' b' i n : Nat} {a ci xx : Nat} {M' : ab_MK} (as : List Value) {P : Int32 → ab_H → Prop} (hd : decode M.2.1 pc = .ok (.invokevirtual i, 3)) (hl : ab_kv M.1.cls i M') (hm : ab_mk M' n) (hs : ab_sh h a = (ci + 1, xx)) (hc : ab_M k' b' M' (.ref a :: as) h (ab_pi P)) (kk : ∀ x h', P x h' → ab_R k (b - b') M (pc + 3) ls (.int x :: st) h' post) (hcl : ab_C ci = M'.1.cls := by rfl) (hci : ci < 12 := by decide) (hrt : M'.2.2.2 ≠ none := by exact fun q => Option.noConfusion q) (hk : k' + 1 ≤ k := by omega) (hb : b' ≤ b := by omega) (hn : as.length = n := by rfl) (hW : (st.map fun v => v.category).sum ≤ 8 := by exact Nat.le_of_ble_eq_true rfl) : ab_R k b M pc ls (as.reverse ++ .ref a :: st) h post := by
  refine ab_callV as hd hl hm hs hc (fun v h' hq => ?_) hcl hci hk hb hn hW
  obtain ⟨x, rfl, hq⟩ := hq
  have e9 : ∀ w : Value, ab_rv M'.2.2.2 w ++ st = w :: st := fun w => by
    revert hrt
    generalize M'.2.2.2 = rt
    intro hrt
    cases rt with
    | none => exact absurd rfl hrt
    | some t => rfl
  rw [e9]
  exact kk x h' hq
theorem ab_callSi {k b : Nat} {M : ab_MK} {pc : Nat} {ls : List (Option Value)} {st : List Value} {h : ab_H} {post : Value → ab_H → Prop} {k' b' i n : Nat} {M' : ab_MK} (as : List Value) {P : Int32 → ab_H → Prop} (hd : decode M.2.1 pc = .ok (.invokestatic i, 3)) (hl : ab_ks M.1.cls i M') (hm : ab_mk M' n) (hc : ab_M k' b' M' as h (ab_pi P)) (kk : ∀ x h', P x h' → ab_R k (b - b') M (pc + 3) ls (.int x :: st) h' post) (hrt : M'.2.2.2 ≠ none := by exact fun q => Option.noConfusion q) (hk : k' + 1 ≤ k := by omega) (hb : b' ≤ b := by omega) (hn : as.length = n := by rfl) (hW : (st.map fun v => v.category).sum ≤ 8 := by exact Nat.le_of_ble_eq_true rfl) : ab_R k b M pc ls (as.reverse ++ st) h post := by
  refine ab_callS as hd hl hm hc (fun v h' hq => ?_) hk hb hn hW
  obtain ⟨x, rfl, hq⟩ := hq
  have e9 : ∀ w : Value, ab_rv M'.2.2.2 w ++ st = w :: st := fun w => by
    revert hrt
    generalize M'.2.2.2 = rt
    intro hrt
    cases rt with
    | none => exact absurd rfl hrt
    | some t => rfl
  rw [e9]
  exact kk x h' hq
theorem ab_callVn {k b : Nat} {M : ab_MK} {pc : Nat} {ls : List (Option Value)} {st : List Value} {h : ab_H} {post : Value → ab_H → Prop} {k' b' i n : Nat} {a ci xx : Nat} {M' : ab_MK} (as : List Value) {P : Nat → ab_H → Prop} (hd : decode M.2.1 pc = .ok (.invokevirtual i, 3)) (hl : ab_kv M.1.cls i M') (hm : ab_mk M' n) (hs : ab_sh h a = (ci + 1, xx)) (hc : ab_M k' b' M' (.ref a :: as) h (ab_pn P)) (kk : ∀ x h', P x h' → ab_R k (b - b') M (pc + 3) ls (.int (nI x) :: st) h' post) (hcl : ab_C ci = M'.1.cls := by rfl) (hci : ci < 12 := by decide) (hrt : M'.2.2.2 ≠ none := by exact fun q => Option.noConfusion q) (hk : k' + 1 ≤ k := by omega) (hb : b' ≤ b := by omega) (hn : as.length = n := by rfl) (hW : (st.map fun v => v.category).sum ≤ 8 := by exact Nat.le_of_ble_eq_true rfl) : ab_R k b M pc ls (as.reverse ++ .ref a :: st) h post := by
  refine ab_callV as hd hl hm hs hc (fun v h' hq => ?_) hcl hci hk hb hn hW
  obtain ⟨x, rfl, hq⟩ := hq
  have e9 : ∀ w : Value, ab_rv M'.2.2.2 w ++ st = w :: st := fun w => by
    revert hrt
    generalize M'.2.2.2 = rt
    intro hrt
    cases rt with
    | none => exact absurd rfl hrt
    | some t => rfl
  rw [e9]
  exact kk x h' hq
theorem ab_callSn {k b : Nat} {M : ab_MK} {pc : Nat} {ls : List (Option Value)} {st : List Value} {h : ab_H} {post : Value → ab_H → Prop} {k' b' i n : Nat} {M' : ab_MK} (as : List Value) {P : Nat → ab_H → Prop} (hd : decode M.2.1 pc = .ok (.invokestatic i, 3)) (hl : ab_ks M.1.cls i M') (hm : ab_mk M' n) (hc : ab_M k' b' M' as h (ab_pn P)) (kk : ∀ x h', P x h' → ab_R k (b - b') M (pc + 3) ls (.int (nI x) :: st) h' post) (hrt : M'.2.2.2 ≠ none := by exact fun q => Option.noConfusion q) (hk : k' + 1 ≤ k := by omega) (hb : b' ≤ b := by omega) (hn : as.length = n := by rfl) (hW : (st.map fun v => v.category).sum ≤ 8 := by exact Nat.le_of_ble_eq_true rfl) : ab_R k b M pc ls (as.reverse ++ st) h post := by
  refine ab_callS as hd hl hm hc (fun v h' hq => ?_) hk hb hn hW
  obtain ⟨x, rfl, hq⟩ := hq
  have e9 : ∀ w : Value, ab_rv M'.2.2.2 w ++ st = w :: st := fun w => by
    revert hrt
    generalize M'.2.2.2 = rt
    intro hrt
    cases rt with
    | none => exact absurd rfl hrt
    | some t => rfl
  rw [e9]
  exact kk x h' hq
theorem ab_callVb {k b : Nat} {M : ab_MK} {pc : Nat} {ls : List (Option Value)} {st : List Value} {h : ab_H} {post : Value → ab_H → Prop} {k' b' i n : Nat} {a ci xx : Nat} {M' : ab_MK} (as : List Value) {P : Bool → ab_H → Prop} (hd : decode M.2.1 pc = .ok (.invokevirtual i, 3)) (hl : ab_kv M.1.cls i M') (hm : ab_mk M' n) (hs : ab_sh h a = (ci + 1, xx)) (hc : ab_M k' b' M' (.ref a :: as) h (ab_pb P)) (kk : ∀ x h', P x h' → ab_R k (b - b') M (pc + 3) ls (.int (nI x.toNat) :: st) h' post) (hcl : ab_C ci = M'.1.cls := by rfl) (hci : ci < 12 := by decide) (hrt : M'.2.2.2 ≠ none := by exact fun q => Option.noConfusion q) (hk : k' + 1 ≤ k := by omega) (hb : b' ≤ b := by omega) (hn : as.length = n := by rfl) (hW : (st.map fun v => v.category).sum ≤ 8 := by exact Nat.le_of_ble_eq_true rfl) : ab_R k b M pc ls (as.reverse ++ .ref a :: st) h post := by
  refine ab_callV as hd hl hm hs hc (fun v h' hq => ?_) hcl hci hk hb hn hW
  obtain ⟨x, rfl, hq⟩ := hq
  have e9 : ∀ w : Value, ab_rv M'.2.2.2 w ++ st = w :: st := fun w => by
    revert hrt
    generalize M'.2.2.2 = rt
    intro hrt
    cases rt with
    | none => exact absurd rfl hrt
    | some t => rfl
  rw [e9]
  exact kk x h' hq
theorem ab_callSb {k b : Nat} {M : ab_MK} {pc : Nat} {ls : List (Option Value)} {st : List Value} {h : ab_H} {post : Value → ab_H → Prop} {k' b' i n : Nat} {M' : ab_MK} (as : List Value) {P : Bool → ab_H → Prop} (hd : decode M.2.1 pc = .ok (.invokestatic i, 3)) (hl : ab_ks M.1.cls i M') (hm : ab_mk M' n) (hc : ab_M k' b' M' as h (ab_pb P)) (kk : ∀ x h', P x h' → ab_R k (b - b') M (pc + 3) ls (.int (nI x.toNat) :: st) h' post) (hrt : M'.2.2.2 ≠ none := by exact fun q => Option.noConfusion q) (hk : k' + 1 ≤ k := by omega) (hb : b' ≤ b := by omega) (hn : as.length = n := by rfl) (hW : (st.map fun v => v.category).sum ≤ 8 := by exact Nat.le_of_ble_eq_true rfl) : ab_R k b M pc ls (as.reverse ++ st) h post := by
  refine ab_callS as hd hl hm hc (fun v h' hq => ?_) hk hb hn hW
  obtain ⟨x, rfl, hq⟩ := hq
  have e9 : ∀ w : Value, ab_rv M'.2.2.2 w ++ st = w :: st := fun w => by
    revert hrt
    generalize M'.2.2.2 = rt
    intro hrt
    cases rt with
    | none => exact absurd rfl hrt
    | some t => rfl
  rw [e9]
  exact kk x h' hq
theorem ab_callVl {k b : Nat} {M : ab_MK} {pc : Nat} {ls : List (Option Value)} {st : List Value} {h : ab_H} {post : Value → ab_H → Prop} {k' b' i n : Nat} {a ci xx : Nat} {M' : ab_MK} (as : List Value) {P : Int64 → ab_H → Prop} (hd : decode M.2.1 pc = .ok (.invokevirtual i, 3)) (hl : ab_kv M.1.cls i M') (hm : ab_mk M' n) (hs : ab_sh h a = (ci + 1, xx)) (hc : ab_M k' b' M' (.ref a :: as) h (ab_pl P)) (kk : ∀ x h', P x h' → ab_R k (b - b') M (pc + 3) ls (.long x :: st) h' post) (hcl : ab_C ci = M'.1.cls := by rfl) (hci : ci < 12 := by decide) (hrt : M'.2.2.2 ≠ none := by exact fun q => Option.noConfusion q) (hk : k' + 1 ≤ k := by omega) (hb : b' ≤ b := by omega) (hn : as.length = n := by rfl) (hW : (st.map fun v => v.category).sum ≤ 8 := by exact Nat.le_of_ble_eq_true rfl) : ab_R k b M pc ls (as.reverse ++ .ref a :: st) h post := by
  refine ab_callV as hd hl hm hs hc (fun v h' hq => ?_) hcl hci hk hb hn hW
  obtain ⟨x, rfl, hq⟩ := hq
  have e9 : ∀ w : Value, ab_rv M'.2.2.2 w ++ st = w :: st := fun w => by
    revert hrt
    generalize M'.2.2.2 = rt
    intro hrt
    cases rt with
    | none => exact absurd rfl hrt
    | some t => rfl
  rw [e9]
  exact kk x h' hq
theorem ab_callSl {k b : Nat} {M : ab_MK} {pc : Nat} {ls : List (Option Value)} {st : List Value} {h : ab_H} {post : Value → ab_H → Prop} {k' b' i n : Nat} {M' : ab_MK} (as : List Value) {P : Int64 → ab_H → Prop} (hd : decode M.2.1 pc = .ok (.invokestatic i, 3)) (hl : ab_ks M.1.cls i M') (hm : ab_mk M' n) (hc : ab_M k' b' M' as h (ab_pl P)) (kk : ∀ x h', P x h' → ab_R k (b - b') M (pc + 3) ls (.long x :: st) h' post) (hrt : M'.2.2.2 ≠ none := by exact fun q => Option.noConfusion q) (hk : k' + 1 ≤ k := by omega) (hb : b' ≤ b := by omega) (hn : as.length = n := by rfl) (hW : (st.map fun v => v.category).sum ≤ 8 := by exact Nat.le_of_ble_eq_true rfl) : ab_R k b M pc ls (as.reverse ++ st) h post := by
  refine ab_callS as hd hl hm hc (fun v h' hq => ?_) hk hb hn hW
  obtain ⟨x, rfl, hq⟩ := hq
  have e9 : ∀ w : Value, ab_rv M'.2.2.2 w ++ st = w :: st := fun w => by
    revert hrt
    generalize M'.2.2.2 = rt
    intro hrt
    cases rt with
    | none => exact absurd rfl hrt
    | some t => rfl
  rw [e9]
  exact kk x h' hq
theorem ab_callVf {k b : Nat} {M : ab_MK} {pc : Nat} {ls : List (Option Value)} {st : List Value} {h : ab_H} {post : Value → ab_H → Prop} {k' b' i n : Nat} {a ci xx : Nat} {M' : ab_MK} (as : List Value) {P : UInt32 → ab_H → Prop} (hd : decode M.2.1 pc = .ok (.invokevirtual i, 3)) (hl : ab_kv M.1.cls i M') (hm : ab_mk M' n) (hs : ab_sh h a = (ci + 1, xx)) (hc : ab_M k' b' M' (.ref a :: as) h (ab_pf P)) (kk : ∀ x h', P x h' → ab_R k (b - b') M (pc + 3) ls (.float x :: st) h' post) (hcl : ab_C ci = M'.1.cls := by rfl) (hci : ci < 12 := by decide) (hrt : M'.2.2.2 ≠ none := by exact fun q => Option.noConfusion q) (hk : k' + 1 ≤ k := by omega) (hb : b' ≤ b := by omega) (hn : as.length = n := by rfl) (hW : (st.map fun v => v.category).sum ≤ 8 := by exact Nat.le_of_ble_eq_true rfl) : ab_R k b M pc ls (as.reverse ++ .ref a :: st) h post := by
  refine ab_callV as hd hl hm hs hc (fun v h' hq => ?_) hcl hci hk hb hn hW
  obtain ⟨x, rfl, hq⟩ := hq
  have e9 : ∀ w : Value, ab_rv M'.2.2.2 w ++ st = w :: st := fun w => by
    revert hrt
    generalize M'.2.2.2 = rt
    intro hrt
    cases rt with
    | none => exact absurd rfl hrt
    | some t => rfl
  rw [e9]
  exact kk x h' hq
theorem ab_callSf {k b : Nat} {M : ab_MK} {pc : Nat} {ls : List (Option Value)} {st : List Value} {h : ab_H} {post : Value → ab_H → Prop} {k' b' i n : Nat} {M' : ab_MK} (as : List Value) {P : UInt32 → ab_H → Prop} (hd : decode M.2.1 pc = .ok (.invokestatic i, 3)) (hl : ab_ks M.1.cls i M') (hm : ab_mk M' n) (hc : ab_M k' b' M' as h (ab_pf P)) (kk : ∀ x h', P x h' → ab_R k (b - b') M (pc + 3) ls (.float x :: st) h' post) (hrt : M'.2.2.2 ≠ none := by exact fun q => Option.noConfusion q) (hk : k' + 1 ≤ k := by omega) (hb : b' ≤ b := by omega) (hn : as.length = n := by rfl) (hW : (st.map fun v => v.category).sum ≤ 8 := by exact Nat.le_of_ble_eq_true rfl) : ab_R k b M pc ls (as.reverse ++ st) h post := by
  refine ab_callS as hd hl hm hc (fun v h' hq => ?_) hk hb hn hW
  obtain ⟨x, rfl, hq⟩ := hq
  have e9 : ∀ w : Value, ab_rv M'.2.2.2 w ++ st = w :: st := fun w => by
    revert hrt
    generalize M'.2.2.2 = rt
    intro hrt
    cases rt with
    | none => exact absurd rfl hrt
    | some t => rfl
  rw [e9]
  exact kk x h' hq
theorem ab_callVd {k b : Nat} {M : ab_MK} {pc : Nat} {ls : List (Option Value)} {st : List Value} {h : ab_H} {post : Value → ab_H → Prop} {k' b' i n : Nat} {a ci xx : Nat} {M' : ab_MK} (as : List Value) {P : UInt64 → ab_H → Prop} (hd : decode M.2.1 pc = .ok (.invokevirtual i, 3)) (hl : ab_kv M.1.cls i M') (hm : ab_mk M' n) (hs : ab_sh h a = (ci + 1, xx)) (hc : ab_M k' b' M' (.ref a :: as) h (ab_pd P)) (kk : ∀ x h', P x h' → ab_R k (b - b') M (pc + 3) ls (.double x :: st) h' post) (hcl : ab_C ci = M'.1.cls := by rfl) (hci : ci < 12 := by decide) (hrt : M'.2.2.2 ≠ none := by exact fun q => Option.noConfusion q) (hk : k' + 1 ≤ k := by omega) (hb : b' ≤ b := by omega) (hn : as.length = n := by rfl) (hW : (st.map fun v => v.category).sum ≤ 8 := by exact Nat.le_of_ble_eq_true rfl) : ab_R k b M pc ls (as.reverse ++ .ref a :: st) h post := by
  refine ab_callV as hd hl hm hs hc (fun v h' hq => ?_) hcl hci hk hb hn hW
  obtain ⟨x, rfl, hq⟩ := hq
  have e9 : ∀ w : Value, ab_rv M'.2.2.2 w ++ st = w :: st := fun w => by
    revert hrt
    generalize M'.2.2.2 = rt
    intro hrt
    cases rt with
    | none => exact absurd rfl hrt
    | some t => rfl
  rw [e9]
  exact kk x h' hq
theorem ab_callSd {k b : Nat} {M : ab_MK} {pc : Nat} {ls : List (Option Value)} {st : List Value} {h : ab_H} {post : Value → ab_H → Prop} {k' b' i n : Nat} {M' : ab_MK} (as : List Value) {P : UInt64 → ab_H → Prop} (hd : decode M.2.1 pc = .ok (.invokestatic i, 3)) (hl : ab_ks M.1.cls i M') (hm : ab_mk M' n) (hc : ab_M k' b' M' as h (ab_pd P)) (kk : ∀ x h', P x h' → ab_R k (b - b') M (pc + 3) ls (.double x :: st) h' post) (hrt : M'.2.2.2 ≠ none := by exact fun q => Option.noConfusion q) (hk : k' + 1 ≤ k := by omega) (hb : b' ≤ b := by omega) (hn : as.length = n := by rfl) (hW : (st.map fun v => v.category).sum ≤ 8 := by exact Nat.le_of_ble_eq_true rfl) : ab_R k b M pc ls (as.reverse ++ st) h post := by
  refine ab_callS as hd hl hm hc (fun v h' hq => ?_) hk hb hn hW
  obtain ⟨x, rfl, hq⟩ := hq
  have e9 : ∀ w : Value, ab_rv M'.2.2.2 w ++ st = w :: st := fun w => by
    revert hrt
    generalize M'.2.2.2 = rt
    intro hrt
    cases rt with
    | none => exact absurd rfl hrt
    | some t => rfl
  rw [e9]
  exact kk x h' hq
theorem ab_callVr {k b : Nat} {M : ab_MK} {pc : Nat} {ls : List (Option Value)} {st : List Value} {h : ab_H} {post : Value → ab_H → Prop} {k' b' i n : Nat} {a ci xx : Nat} {M' : ab_MK} (as : List Value) {P : Nat → ab_H → Prop} (hd : decode M.2.1 pc = .ok (.invokevirtual i, 3)) (hl : ab_kv M.1.cls i M') (hm : ab_mk M' n) (hs : ab_sh h a = (ci + 1, xx)) (hc : ab_M k' b' M' (.ref a :: as) h (ab_pr P)) (kk : ∀ x h', P x h' → ab_R k (b - b') M (pc + 3) ls (.ref x :: st) h' post) (hcl : ab_C ci = M'.1.cls := by rfl) (hci : ci < 12 := by decide) (hrt : M'.2.2.2 ≠ none := by exact fun q => Option.noConfusion q) (hk : k' + 1 ≤ k := by omega) (hb : b' ≤ b := by omega) (hn : as.length = n := by rfl) (hW : (st.map fun v => v.category).sum ≤ 8 := by exact Nat.le_of_ble_eq_true rfl) : ab_R k b M pc ls (as.reverse ++ .ref a :: st) h post := by
  refine ab_callV as hd hl hm hs hc (fun v h' hq => ?_) hcl hci hk hb hn hW
  obtain ⟨x, rfl, hq⟩ := hq
  have e9 : ∀ w : Value, ab_rv M'.2.2.2 w ++ st = w :: st := fun w => by
    revert hrt
    generalize M'.2.2.2 = rt
    intro hrt
    cases rt with
    | none => exact absurd rfl hrt
    | some t => rfl
  rw [e9]
  exact kk x h' hq
theorem ab_callSr {k b : Nat} {M : ab_MK} {pc : Nat} {ls : List (Option Value)} {st : List Value} {h : ab_H} {post : Value → ab_H → Prop} {k' b' i n : Nat} {M' : ab_MK} (as : List Value) {P : Nat → ab_H → Prop} (hd : decode M.2.1 pc = .ok (.invokestatic i, 3)) (hl : ab_ks M.1.cls i M') (hm : ab_mk M' n) (hc : ab_M k' b' M' as h (ab_pr P)) (kk : ∀ x h', P x h' → ab_R k (b - b') M (pc + 3) ls (.ref x :: st) h' post) (hrt : M'.2.2.2 ≠ none := by exact fun q => Option.noConfusion q) (hk : k' + 1 ≤ k := by omega) (hb : b' ≤ b := by omega) (hn : as.length = n := by rfl) (hW : (st.map fun v => v.category).sum ≤ 8 := by exact Nat.le_of_ble_eq_true rfl) : ab_R k b M pc ls (as.reverse ++ st) h post := by
  refine ab_callS as hd hl hm hc (fun v h' hq => ?_) hk hb hn hW
  obtain ⟨x, rfl, hq⟩ := hq
  have e9 : ∀ w : Value, ab_rv M'.2.2.2 w ++ st = w :: st := fun w => by
    revert hrt
    generalize M'.2.2.2 = rt
    intro hrt
    cases rt with
    | none => exact absurd rfl hrt
    | some t => rfl
  rw [e9]
  exact kk x h' hq
theorem ab_callVv {k b : Nat} {M : ab_MK} {pc : Nat} {ls : List (Option Value)} {st : List Value} {h : ab_H} {post : Value → ab_H → Prop} {k' b' i n : Nat} {a ci xx : Nat} {M' : ab_MK} (as : List Value) {P : ab_H → Prop} (hd : decode M.2.1 pc = .ok (.invokevirtual i, 3)) (hl : ab_kv M.1.cls i M') (hm : ab_mk M' n) (hs : ab_sh h a = (ci + 1, xx)) (hc : ab_M k' b' M' (.ref a :: as) h (ab_pv P)) (kk : ∀ h', P h' → ab_R k (b - b') M (pc + 3) ls st h' post) (hcl : ab_C ci = M'.1.cls := by rfl) (hci : ci < 12 := by decide) (hrt : M'.2.2.2 = none := by rfl) (hk : k' + 1 ≤ k := by omega) (hb : b' ≤ b := by omega) (hn : as.length = n := by rfl) (hW : (st.map fun v => v.category).sum ≤ 8 := by exact Nat.le_of_ble_eq_true rfl) : ab_R k b M pc ls (as.reverse ++ .ref a :: st) h post := by
  refine ab_callV as hd hl hm hs hc (fun v h' hq => ?_) hcl hci hk hb hn hW
  rw [hrt]
  exact kk h' hq
theorem ab_callSv {k b : Nat} {M : ab_MK} {pc : Nat} {ls : List (Option Value)} {st : List Value} {h : ab_H} {post : Value → ab_H → Prop} {k' b' i n : Nat} {M' : ab_MK} (as : List Value) {P : ab_H → Prop} (hd : decode M.2.1 pc = .ok (.invokestatic i, 3)) (hl : ab_ks M.1.cls i M') (hm : ab_mk M' n) (hc : ab_M k' b' M' as h (ab_pv P)) (kk : ∀ h', P h' → ab_R k (b - b') M (pc + 3) ls st h' post) (hrt : M'.2.2.2 = none := by rfl) (hk : k' + 1 ≤ k := by omega) (hb : b' ≤ b := by omega) (hn : as.length = n := by rfl) (hW : (st.map fun v => v.category).sum ≤ 8 := by exact Nat.le_of_ble_eq_true rfl) : ab_R k b M pc ls (as.reverse ++ st) h post := by
  refine ab_callS as hd hl hm hc (fun v h' hq => ?_) hk hb hn hW
  rw [hrt]
  exact kk h' hq
theorem ab_reti {k b : Nat} {M : ab_MK} {pc : Nat} {ls : List (Option Value)} {h : ab_H} {P : Int32 → ab_H → Prop} {x : Int32} (hd : decode M.2.1 pc = .ok (.ireturn, 1)) (hp : P x h) (hrt : M.2.2.2 = some .int := by rfl) : ab_R k b M pc ls [.int x] h (ab_pi P) :=
  ab_iret hd ⟨x, rfl, hp⟩ (by rw [hrt]; rfl) (by rw [hrt]; rfl) (by rw [hrt]; exact ⟨_, rfl, rfl⟩)
theorem ab_retn {k b : Nat} {M : ab_MK} {pc : Nat} {ls : List (Option Value)} {h : ab_H} {P : Nat → ab_H → Prop} {x : Nat} (hd : decode M.2.1 pc = .ok (.ireturn, 1)) (hp : P x h) (hrt : M.2.2.2 = some .int := by rfl) : ab_R k b M pc ls [.int (nI x)] h (ab_pn P) :=
  ab_iret hd ⟨x, rfl, hp⟩ (by rw [hrt]; rfl) (by rw [hrt]; rfl) (by rw [hrt]; exact ⟨_, rfl, rfl⟩)
theorem ab_retb {k b : Nat} {M : ab_MK} {pc : Nat} {ls : List (Option Value)} {h : ab_H} {P : Bool → ab_H → Prop} {x : Bool} (hd : decode M.2.1 pc = .ok (.ireturn, 1)) (hp : P x h) (hrt : M.2.2.2 = some .boolean := by rfl) : ab_R k b M pc ls [.int (nI x.toNat)] h (ab_pb P) :=
  ab_iret hd ⟨x, rfl, hp⟩ (by rw [hrt]; rfl) (by rw [hrt]; rfl) (by rw [hrt]; exact ⟨_, rfl, by cases x <;> decide⟩)
theorem ab_retl {k b : Nat} {M : ab_MK} {pc : Nat} {ls : List (Option Value)} {h : ab_H} {P : Int64 → ab_H → Prop} {x : Int64} (hd : decode M.2.1 pc = .ok (.lreturn, 1)) (hp : P x h) (hrt : M.2.2.2 = some .long := by rfl) : ab_R k b M pc ls [.long x] h (ab_pl P) :=
  ab_lret hd ⟨x, rfl, hp⟩ (by rw [hrt]; rfl) (by rw [hrt]; rfl) (by rw [hrt]; exact ⟨_, rfl⟩)
theorem ab_retf {k b : Nat} {M : ab_MK} {pc : Nat} {ls : List (Option Value)} {h : ab_H} {P : UInt32 → ab_H → Prop} {x : UInt32} (hd : decode M.2.1 pc = .ok (.freturn, 1)) (hp : P x h) (hrt : M.2.2.2 = some .float := by rfl) : ab_R k b M pc ls [.float x] h (ab_pf P) :=
  ab_fret hd ⟨x, rfl, hp⟩ (by rw [hrt]; rfl) (by rw [hrt]; rfl) (by rw [hrt]; exact ⟨_, rfl⟩)
theorem ab_retd {k b : Nat} {M : ab_MK} {pc : Nat} {ls : List (Option Value)} {h : ab_H} {P : UInt64 → ab_H → Prop} {x : UInt64} (hd : decode M.2.1 pc = .ok (.dreturn, 1)) (hp : P x h) (hrt : M.2.2.2 = some .double := by rfl) : ab_R k b M pc ls [.double x] h (ab_pd P) :=
  ab_dret hd ⟨x, rfl, hp⟩ (by rw [hrt]; rfl) (by rw [hrt]; rfl) (by rw [hrt]; exact ⟨_, rfl⟩)
theorem ab_retr {k b : Nat} {M : ab_MK} {pc : Nat} {ls : List (Option Value)} {h : ab_H} {P : Nat → ab_H → Prop} {x : Nat} (hd : decode M.2.1 pc = .ok (.areturn, 1)) (hp : P x h) {cn : String} (hrt : M.2.2.2 = some (.object cn) := by rfl) : ab_R k b M pc ls [.ref x] h (ab_pr P) :=
  ab_aret hd ⟨x, rfl, hp⟩ (by rw [hrt]; rfl) (by rw [hrt]; rfl) (by rw [hrt]; exact ⟨_, rfl⟩)
theorem ab_retv {k b : Nat} {M : ab_MK} {pc : Nat} {ls : List (Option Value)} {h : ab_H} {P : ab_H → Prop} (hd : decode M.2.1 pc = .ok (.return_, 1)) (hp : P h) (hrt : M.2.2.2 = none := by rfl) : ab_R k b M pc ls [] h (ab_pv P) :=
  ab_vret hd hp (by rw [hrt]; rfl) (by rw [hrt]; rfl) (by rw [hrt]; exact trivial)
theorem ab_bif_eq {k b : Nat} {M : ab_MK} {pc : Nat} {ls : List (Option Value)} {st : List Value} {h : ab_H} {post : Value → ab_H → Prop} {x : Bool} {off : Int} (tgt : Nat) (hd : decode M.2.1 pc = .ok (.ifCond .eq off, 3)) (ht : (pc : Int) + off = (tgt : Int)) (kt : x = false → ab_R k b M tgt ls st h post) (kf : x = true → ab_R k b M (pc + 3) ls st h post) : ab_R k b M pc ls (.int (nI x.toNat) :: st) h post := by
  cases x
  · exact ab_if_eq tgt hd ht (fun _ => kt rfl) (fun q => absurd (by decide) q)
  · exact ab_if_eq tgt hd ht (fun q => absurd q (by decide)) (fun _ => kf rfl)
theorem ab_bif_ne {k b : Nat} {M : ab_MK} {pc : Nat} {ls : List (Option Value)} {st : List Value} {h : ab_H} {post : Value → ab_H → Prop} {x : Bool} {off : Int} (tgt : Nat) (hd : decode M.2.1 pc = .ok (.ifCond .ne off, 3)) (ht : (pc : Int) + off = (tgt : Int)) (kt : x = true → ab_R k b M tgt ls st h post) (kf : x = false → ab_R k b M (pc + 3) ls st h post) : ab_R k b M pc ls (.int (nI x.toNat) :: st) h post := by
  cases x
  · exact ab_if_ne tgt hd ht (fun q => absurd (by decide) q) (fun _ => kf rfl)
  · exact ab_if_ne tgt hd ht (fun _ => kt rfl) (fun q => absurd q (by decide))
theorem ab_swc (n : Nat) (x : Int32) : (x.toInt < 0 ∨ (n : Int) < x.toInt) ∨ ∃ j, j ≤ n ∧ x = nI j := by
  by_cases h0 : x.toInt < 0
  · exact Or.inl (Or.inl h0)
  · by_cases h1 : (n : Int) < x.toInt
    · exact Or.inl (Or.inr h1)
    · obtain ⟨j, rfl, hj⟩ := ab_of0 (x := x) (by rw [Int32.le_iff_toInt_le, Int32.toInt_zero]; omega)
      rw [nI_toInt hj] at h1
      exact Or.inr ⟨j, by omega, rfl⟩
end
